theorem gPL_fst {pc pc' : Nat → va_W} (h : ∀ k, (pc k).map Prod.fst = (pc' k).map Prod.fst) : ∀ n, (gPL pc n).map Prod.fst = (gPL pc' n).map Prod.fst
  | 0 => rfl
  | n + 1 => by
    show (gPL pc n ++ pc n).map Prod.fst = (gPL pc' n ++ pc' n).map Prod.fst
    rw [List.map_append, List.map_append, gPL_fst h n, h n]
theorem g_ten0 : ∀ d : Fin 8, gTens (nI d.val).toNatClampNeg = .long (tenF d.val 1) := by
  intro d
  rcases d with ⟨d, hd⟩
  match d, hd with
  | 0, _ => rfl
  | 1, _ => rfl
  | 2, _ => rfl
  | 3, _ => rfl
  | 4, _ => rfl
  | 5, _ => rfl
  | 6, _ => rfl
  | 7, _ => rfl
theorem g_ten {d : Nat} (h : d < 8) : gTens (nI d).toNatClampNeg = .long (tenF d 1) := g_ten0 ⟨d, h⟩
theorem g_tin {d : Nat} (h : d < 8) : vp_in (nI d) 8 := by
  have h2 : ∀ d : Fin 8, ¬ (nI d.val < 0 ∨ 8 ≤ (nI d.val).toNatClampNeg) := by decide
  exact h2 ⟨d, h⟩
theorem wXp_dg (y : Nat → ClassId) (ad : Nat → Nat) (h : Nat) (q : Nat → Nat) (n : Nat) (b1 : Bool) (l1 r1 : Int64) (b2 : Bool) (l2 r2 : Int64) (b3 : Bool) (l3 r3 : Int64) (uz : Nat → Bool) (ul uh : Nat → Int64) (f1 g1 f2 g2 : Int64) (pa : Nat → Nat → Nat) (kd : Nat → Nat) (on ot : Nat → Int32) (pt : Nat → Int64) (fb : Nat → Nat → Bool) (fl fh : Nat → Nat → Int64) (tb : Nat → Nat → Bool) (tl th : Nat → Nat → Int64) (dg : Nat → Int32) (ds : Nat → Int64) (k : Nat) (hk : k < n) (v : Int32) : (wXp y ad h q n b1 l1 r1 b2 l2 r2 b3 l3 r3 uz ul uh f1 g1 f2 g2 pa kd on ot pt fb fl fh tb tl th dg ds).set (9 * k + 0 + 11) (pa k 0, .inr (3, [.ref (ad (kd k)), .int (on k), .int (ot k), .long (pt k), .ref (pa k 1), .ref (pa k 5), .int v, .long (ds k)])) = wXp y ad h q n b1 l1 r1 b2 l2 r2 b3 l3 r3 uz ul uh f1 g1 f2 g2 pa kd on ot pt fb fl fh tb tl th (upd dg k v) ds :=
  congrArg (fun z => wX y h q n (gPg pa n) b1 l1 r1 b2 l2 r2 b3 l3 r3 uz ul uh f1 g1 f2 g2 z) (gPL_up (j := 0) (fun _ => rfl) (fun _ => rfl) (by decide) (by show [_, _, _, _, _, _, _, _, _] = [_, _, _, _, _, _, _, _, _]; rw [show upd dg k v k = v from if_pos rfl]) (fun i hi => by show [_, _, _, _, _, _, _, _, _] = [_, _, _, _, _, _, _, _, _]; rw [show upd dg k v i = dg i from if_neg hi]) hk)
theorem wXp_ds (y : Nat → ClassId) (ad : Nat → Nat) (h : Nat) (q : Nat → Nat) (n : Nat) (b1 : Bool) (l1 r1 : Int64) (b2 : Bool) (l2 r2 : Int64) (b3 : Bool) (l3 r3 : Int64) (uz : Nat → Bool) (ul uh : Nat → Int64) (f1 g1 f2 g2 : Int64) (pa : Nat → Nat → Nat) (kd : Nat → Nat) (on ot : Nat → Int32) (pt : Nat → Int64) (fb : Nat → Nat → Bool) (fl fh : Nat → Nat → Int64) (tb : Nat → Nat → Bool) (tl th : Nat → Nat → Int64) (dg : Nat → Int32) (ds : Nat → Int64) (k : Nat) (hk : k < n) (v : Int64) : (wXp y ad h q n b1 l1 r1 b2 l2 r2 b3 l3 r3 uz ul uh f1 g1 f2 g2 pa kd on ot pt fb fl fh tb tl th dg ds).set (9 * k + 0 + 11) (pa k 0, .inr (3, [.ref (ad (kd k)), .int (on k), .int (ot k), .long (pt k), .ref (pa k 1), .ref (pa k 5), .int (dg k), .long v])) = wXp y ad h q n b1 l1 r1 b2 l2 r2 b3 l3 r3 uz ul uh f1 g1 f2 g2 pa kd on ot pt fb fl fh tb tl th dg (vp_updL ds k v) :=
  congrArg (fun z => wX y h q n (gPg pa n) b1 l1 r1 b2 l2 r2 b3 l3 r3 uz ul uh f1 g1 f2 g2 z) (gPL_up (j := 0) (fun _ => rfl) (fun _ => rfl) (by decide) (by show [_, _, _, _, _, _, _, _, _] = [_, _, _, _, _, _, _, _, _]; rw [show vp_updL ds k v k = v from if_pos rfl]) (fun i hi => by show [_, _, _, _, _, _, _, _, _] = [_, _, _, _, _, _, _, _, _]; rw [show vp_updL ds k v i = ds i from if_neg hi]) hk)
def plX (tb : Nat → Nat → Bool) (tl th : Nat → Nat → Int64) (k f : Nat) : Nat → Nat → Int32
  | 0, _ => -1
  | n + 1, p => if sp_X6_load_b1 (tb k) (tl k) (th k) p = true then (if sp_X7_unitsAt (nI p - nI f) < sp_X6_load_hi1 (tb k) (tl k) (th k) p - sp_X6_load_lo1 (tb k) (tl k) (th k) p then plX tb tl th k f n (p + 1) else nI p) else plX tb tl th k f n (p + 1)
set_option maxHeartbeats 4000000 in
set_option maxRecDepth 100000 in
theorem c_X7_place_X1 (l : Launch) (hfl : l.stackTraces = false) (D : va_G) (y : Nat → ClassId) (ad : Nat → Nat) (sz : Nat) (h : Nat) (q : Nat → Nat) (n : Nat) (b1 : Bool) (l1 r1 : Int64) (b2 : Bool) (l2 r2 : Int64) (b3 : Bool) (l3 r3 : Int64) (uz : Nat → Bool) (ul uh : Nat → Int64) (f1 g1 f2 g2 : Int64) (pa : Nat → Nat → Nat) (kd : Nat → Nat) (on ot : Nat → Int32) (pt : Nat → Int64) (fb : Nat → Nat → Bool) (fl fh : Nat → Nat → Int64) (tb : Nat → Nat → Bool) (tl th : Nat → Nat → Int64) (dg : Nat → Int32) (ds : Nat → Int64) (a b : Int32) (hbad : a < 0 ∨ nI n ≤ a) : vx_Met l yX7_place wsX7_place ({ frames := 7, cells := 1, slots := 6, locals := 114 } : Room) (gPX D y ad [.ref h, .int a, .int b] (wXp y ad h q n b1 l1 r1 b2 l2 r2 b3 l3 r3 uz ul uh f1 g1 f2 g2 pa kd on ot pt fb fl fh tb tl th dg ds) sz) gNo (gXC D (wXp y ad h q n b1 l1 r1 b2 l2 r2 b3 l3 r3 uz ul uh f1 g1 f2 g2 pa kd on ot pt fb fl fh tb tl th dg ds) gIOB (fun w => w = wXp y ad h q n b1 l1 r1 b2 l2 r2 b3 l3 r3 uz ul uh f1 g1 f2 g2 pa kd on ot pt fb fl fh tb tl th dg ds)) 1 6 (va_A (wXp y ad h q n b1 l1 r1 b2 l2 r2 b3 l3 r3 uz ul uh f1 g1 f2 g2 pa kd on ot pt fb fl fh tb tl th dg ds) sz) := by
  refine vx_ofW (cc := cX7_place) (maxL := 5) (ret := (some .int)) (by decide) rfl ?_
  intro pg e s m args below meth c s₁ B hml hno hv
  obtain ⟨rfl, hsz, hP, hK, hD0, hE0⟩ := hv
  have hx := B.exec
  have hb := B.bytes
  have hr := B.returns
  have hts := atoms_spec (ws := wsX7_place) B.pre
  have hown : s.vm.findClass RX7 = some m.cls := findClass_of_methodNamed B.named
  have hlocks := B.notSynchronized
  subst hsz
  obtain ⟨A, hAe⟩ : ∃ A : Nat → Prop, A = va_A (wXp y ad h q n b1 l1 r1 b2 l2 r2 b3 l3 r3 uz ul uh f1 g1 f2 g2 pa kd on ot pt fb fl fh tb tl th dg ds) s.heap.size := ⟨_, rfl⟩
  have hE : gE ad A s s.heap := by rw [hAe]; exact hE0
  have hD : va_D A (wXp y ad h q n b1 l1 r1 b2 l2 r2 b3 l3 r3 uz ul uh f1 g1 f2 g2 pa kd on ot pt fb fl fh tb tl th dg ds) := by rw [hAe]; exact hD0.self (sz := s.heap.size)
  have hA : ∀ q : Nat, s.heap.size ≤ q → A q := fun q h => by rw [hAe]; exact Or.inr h
  have hS : va_S A s.heap s.heap [] := va_S.rf
  have hl := lv_entry ([.ref h, .int a, .int b]) (n := 5) (Nat.le_of_ble_eq_true rfl)
  rw [lg_entry_eq]
  generalize (lg_sl ([.ref h, .int a, .int b]) ++ List.replicate (5 - (lg_sl ([.ref h, .int a, .int b])).length) Slot.unset).toArray = ls at hl ⊢
  have hl : lv_has ls 5 [(0, .ref h), (1, .int a), (2, .int b)] := hl
  refine lv_aload_n hx hb dX7_place_0 rfl (lv_at hl 0 rfl) ?_
  refine lv_iload_n hx hb dX7_place_1 rfl (lv_at hl 1 rfl) ?_
  exact g_outX (vx_runV (As := [.int a]) (rest := []) ⟨hx, hb, hml, hown, hts⟩ (c_X7_existing_X l hfl D y ad s.heap.size h q n b1 l1 r1 b2 l2 r2 b3 l3 r3 uz ul uh f1 g1 f2 g2 pa kd on ot pt fb fl fh tb tl th dg ds a hbad) (cwV 1 hts gX7_place_X7_existing rfl rfl rfl (by decide +kernel) ⟨Nat.le_of_ble_eq_true rfl, Nat.le_of_ble_eq_true rfl⟩) (gPX_VA hP hD hK hE hS hA 0 rfl rfl) rfl rfl hl.1 rfl (lv_room (Nat.le_of_ble_eq_true rfl)) dX7_place_2 ⟨Nat.le_of_ble_eq_true rfl, Nat.le_of_ble_eq_true rfl⟩) hAe hD hS hA (fun w1 h9 => h9) rfl hno hlocks (Nat.le_of_ble_eq_true rfl) (Nat.le_of_ble_eq_true rfl)
set_option maxHeartbeats 4000000 in
set_option maxRecDepth 100000 in
theorem c_X7_place_X2 (l : Launch) (hfl : l.stackTraces = false) (D : va_G) (y : Nat → ClassId) (ad : Nat → Nat) (sz : Nat) (h : Nat) (q : Nat → Nat) (n : Nat) (b1 : Bool) (l1 r1 : Int64) (b2 : Bool) (l2 r2 : Int64) (b3 : Bool) (l3 r3 : Int64) (uz : Nat → Bool) (ul uh : Nat → Int64) (f1 g1 f2 g2 : Int64) (pa : Nat → Nat → Nat) (kd : Nat → Nat) (on ot : Nat → Int32) (pt : Nat → Int64) (fb : Nat → Nat → Bool) (fl fh : Nat → Nat → Int64) (tb : Nat → Nat → Bool) (tl th : Nat → Nat → Int64) (dg : Nat → Int32) (ds : Nat → Int64) (k : Nat) (b : Int32) (hn : n ≤ 40) (hk : k < n) (hp : b < 0 ∨ ¬ b ≤ 24) : vx_Met l yX7_place wsX7_place ({ frames := 7, cells := 1, slots := 6, locals := 114 } : Room) (gPX D y ad [.ref h, .int (nI k), .int b] (wXp y ad h q n b1 l1 r1 b2 l2 r2 b3 l3 r3 uz ul uh f1 g1 f2 g2 pa kd on ot pt fb fl fh tb tl th dg ds) sz) gNo (gXC D (wXp y ad h q n b1 l1 r1 b2 l2 r2 b3 l3 r3 uz ul uh f1 g1 f2 g2 pa kd on ot pt fb fl fh tb tl th dg ds) gIAE (fun w => w = wXp y ad h q n b1 l1 r1 b2 l2 r2 b3 l3 r3 uz ul uh f1 g1 f2 g2 pa kd on ot pt fb fl fh tb tl th dg ds)) 1 6 (va_A (wXp y ad h q n b1 l1 r1 b2 l2 r2 b3 l3 r3 uz ul uh f1 g1 f2 g2 pa kd on ot pt fb fl fh tb tl th dg ds) sz) := by
  refine vx_ofW (cc := cX7_place) (maxL := 5) (ret := (some .int)) (by decide) rfl ?_
  intro pg e s m args below meth c s₁ B hml hno hv
  obtain ⟨rfl, hsz, hP, hK, hD0, hE0⟩ := hv
  have hx := B.exec
  have hb := B.bytes
  have hr := B.returns
  have hts := atoms_spec (ws := wsX7_place) B.pre
  have hown : s.vm.findClass RX7 = some m.cls := findClass_of_methodNamed B.named
  have hlocks := B.notSynchronized
  subst hsz
  obtain ⟨A, hAe⟩ : ∃ A : Nat → Prop, A = va_A (wXp y ad h q n b1 l1 r1 b2 l2 r2 b3 l3 r3 uz ul uh f1 g1 f2 g2 pa kd on ot pt fb fl fh tb tl th dg ds) s.heap.size := ⟨_, rfl⟩
  have hE : gE ad A s s.heap := by rw [hAe]; exact hE0
  have hD : va_D A (wXp y ad h q n b1 l1 r1 b2 l2 r2 b3 l3 r3 uz ul uh f1 g1 f2 g2 pa kd on ot pt fb fl fh tb tl th dg ds) := by rw [hAe]; exact hD0.self (sz := s.heap.size)
  have hA : ∀ q : Nat, s.heap.size ≤ q → A q := fun q h => by rw [hAe]; exact Or.inr h
  have hS : va_S A s.heap s.heap [] := va_S.rf
  have hl := lv_entry ([.ref h, .int (nI k), .int b]) (n := 5) (Nat.le_of_ble_eq_true rfl)
  rw [lg_entry_eq]
  generalize (lg_sl ([.ref h, .int (nI k), .int b]) ++ List.replicate (5 - (lg_sl ([.ref h, .int (nI k), .int b])).length) Slot.unset).toArray = ls at hl ⊢
  have hl : lv_has ls 5 [(0, .ref h), (1, .int (nI k)), (2, .int b)] := hl
  refine lv_aload_n hx hb dX7_place_0 rfl (lv_at hl 0 rfl) ?_
  refine lv_iload_n hx hb dX7_place_1 rfl (lv_at hl 1 rfl) ?_
  refine g_callR (v0 := .ref (pa k 0)) (va_runV (As := [.int (nI k)]) (rest := []) ⟨hx, hb, hml, hown, hts⟩ (c_X7_existing_0 l hfl D y ad s.heap.size h q n b1 l1 r1 b2 l2 r2 b3 l3 r3 uz ul uh f1 g1 f2 g2 pa kd on ot pt fb fl fh tb tl th dg ds k hn hk) (cwV 1 hts gX7_place_X7_existing rfl rfl rfl (by decide +kernel) ⟨Nat.le_of_ble_eq_true rfl, Nat.le_of_ble_eq_true rfl⟩) (gPX_VA hP hD hK hE hS hA 0 rfl rfl) rfl rfl hl.1 rfl (lv_room (Nat.le_of_ble_eq_true rfl)) dX7_place_2 ⟨Nat.zero_le _, Nat.zero_le _⟩) ?_
  refine lv_astore_n (lv' := [(3, .ref (pa k 0)), (0, .ref h), (1, .int (nI k)), (2, .int b)]) hx hb dX7_place_5 rfl hl (by decide) rfl (fun ls hl => ?_)
  refine lv_iload_n hx hb dX7_place_6 rfl (lv_at hl 3 rfl) ?_
  refine lv_iconst (v := 0) hx hb dX7_place_7 (by decide) ?_
  refine lv_bipush (v := 24) hx hb dX7_place_8 (by decide) ?_
  exact g_outS (vx_runS (As := [.int b, .int 0, .int 24]) (rest := []) ⟨hx, hb, hml, hown, hts⟩ (c_X7_requireWithin_X l hfl D y ad s.heap.size b 0 24 hp) (va_cwS 3 hts gX7_place_X7_requireWithin rfl rfl rfl (by decide +kernel) ⟨Nat.le_of_ble_eq_true rfl, Nat.le_of_ble_eq_true rfl⟩) (gPX_S0 hK hE hS hA) rfl rfl hl.1 rfl (lv_room (Nat.le_of_ble_eq_true rfl)) dX7_place_10 ⟨Nat.le_of_ble_eq_true rfl, Nat.le_of_ble_eq_true rfl⟩) hAe hP hS hA rfl rfl hno hlocks (Nat.le_of_ble_eq_true rfl) (Nat.le_of_ble_eq_true rfl)
theorem in_X7_place_X2 : ∀ w ∈ wsX20, w ∈ wsX7_place := fun _ h => List.mem_cons_of_mem _ (List.mem_append_left _ (List.mem_append_left _ (List.mem_append_left _ (List.mem_append_right _ h))))
theorem in_X7_place_X5 : ∀ w ∈ wsX50, w ∈ wsX7_place := fun _ h => List.mem_cons_of_mem _ (List.mem_append_left _ (List.mem_append_left _ (List.mem_append_left _ (List.mem_append_left _ (List.mem_append_left _ (List.mem_append_right _ h))))))
theorem in_X7_place_X7 : ∀ w ∈ wsX70, w ∈ wsX7_place := fun _ h => List.mem_cons_of_mem _ (List.mem_append_left _ (List.mem_append_left _ (List.mem_append_left _ (List.mem_append_left _ (List.mem_append_right _ h)))))
set_option maxHeartbeats 4000000 in
set_option maxRecDepth 100000 in
theorem c_X7_place_0 (l : Launch) (hfl : l.stackTraces = false) (D : va_G) (y : Nat → ClassId) (ad : Nat → Nat) (sz : Nat) (h : Nat) (q : Nat → Nat) (n : Nat) (b1 : Bool) (l1 r1 : Int64) (b2 : Bool) (l2 r2 : Int64) (b3 : Bool) (l3 r3 : Int64) (uz : Nat → Bool) (ul uh : Nat → Int64) (f1 g1 f2 g2 : Int64) (pa : Nat → Nat → Nat) (kd : Nat → Nat) (on ot : Nat → Int32) (pt : Nat → Int64) (fb : Nat → Nat → Bool) (fl fh : Nat → Nat → Int64) (tb : Nat → Nat → Bool) (tl th : Nat → Nat → Int64) (dg : Nat → Int32) (ds : Nat → Int64) (k f : Nat) (hn : n ≤ 40) (hk : k < n) (hp : f < 25) : Met l yX7_place wsX7_place ({ frames := 2, cells := 0, slots := 0, locals := 46 } : Room) (gPX D y ad [.ref h, .int (nI k), .int (nI f)] (wXp y ad h q n b1 l1 r1 b2 l2 r2 b3 l3 r3 uz ul uh f1 g1 f2 g2 pa kd on ot pt fb fl fh tb tl th dg ds) sz) (gQ D (wXp y ad h q n b1 l1 r1 b2 l2 r2 b3 l3 r3 uz ul uh f1 g1 f2 g2 pa kd on ot pt fb fl fh tb tl th dg ds) (fun v w => v = some (.int (plX tb tl th k f (25 - f) f)) ∧ xScr y ad h q n pa kd on ot pt fb fl fh tb tl th dg ds w)) 0 0 (va_A (wXp y ad h q n b1 l1 r1 b2 l2 r2 b3 l3 r3 uz ul uh f1 g1 f2 g2 pa kd on ot pt fb fl fh tb tl th dg ds) sz) := by
  refine Met.ofW (cc := cX7_place) (maxL := 5) (ret := (some .int)) (by decide) rfl ?_
  intro pg e s m args below meth c s₁ B hml hv
  obtain ⟨rfl, hsz, hP, hK, hD0, hE0⟩ := hv
  have hx := B.exec
  have hb := B.bytes
  have hr := B.returns
  have hts := atoms_spec (ws := wsX7_place) B.pre
  have hown : s.vm.findClass RX7 = some m.cls := findClass_of_methodNamed B.named
  have hlocks := B.notSynchronized
  subst hsz
  obtain ⟨A, hAe⟩ : ∃ A : Nat → Prop, A = va_A (wXp y ad h q n b1 l1 r1 b2 l2 r2 b3 l3 r3 uz ul uh f1 g1 f2 g2 pa kd on ot pt fb fl fh tb tl th dg ds) s.heap.size := ⟨_, rfl⟩
  have hE : gE ad A s s.heap := by rw [hAe]; exact hE0
  have hD : va_D A (wXp y ad h q n b1 l1 r1 b2 l2 r2 b3 l3 r3 uz ul uh f1 g1 f2 g2 pa kd on ot pt fb fl fh tb tl th dg ds) := by rw [hAe]; exact hD0.self (sz := s.heap.size)
  have hA : ∀ q : Nat, s.heap.size ≤ q → A q := fun q h => by rw [hAe]; exact Or.inr h
  have hS : va_S A s.heap s.heap [] := va_S.rf
  have hl := lv_entry ([.ref h, .int (nI k), .int (nI f)]) (n := 5) (Nat.le_of_ble_eq_true rfl)
  rw [lg_entry_eq]
  generalize (lg_sl ([.ref h, .int (nI k), .int (nI f)]) ++ List.replicate (5 - (lg_sl ([.ref h, .int (nI k), .int (nI f)])).length) Slot.unset).toArray = ls at hl ⊢
  have hl : lv_has ls 5 [(0, .ref h), (1, .int (nI k)), (2, .int (nI f))] := hl
  refine lv_aload_n hx hb dX7_place_0 rfl (lv_at hl 0 rfl) ?_
  refine lv_iload_n hx hb dX7_place_1 rfl (lv_at hl 1 rfl) ?_
  refine g_callR (v0 := .ref (pa k 0)) (va_runV (As := [.int (nI k)]) (rest := []) ⟨hx, hb, hml, hown, hts⟩ (c_X7_existing_0 l hfl D y ad s.heap.size h q n b1 l1 r1 b2 l2 r2 b3 l3 r3 uz ul uh f1 g1 f2 g2 pa kd on ot pt fb fl fh tb tl th dg ds k hn hk) (cwV 1 hts gX7_place_X7_existing rfl rfl rfl (by decide +kernel) ⟨Nat.le_of_ble_eq_true rfl, Nat.le_of_ble_eq_true rfl⟩) (gPX_VA hP hD hK hE hS hA 0 rfl rfl) rfl rfl hl.1 rfl (lv_room (Nat.le_of_ble_eq_true rfl)) dX7_place_2 ⟨Nat.zero_le _, Nat.zero_le _⟩) ?_
  refine lv_astore_n (lv' := [(3, .ref (pa k 0)), (0, .ref h), (1, .int (nI k)), (2, .int (nI f))]) hx hb dX7_place_5 rfl hl (by decide) rfl (fun ls hl => ?_)
  refine lv_iload_n hx hb dX7_place_6 rfl (lv_at hl 3 rfl) ?_
  refine lv_iconst (v := 0) hx hb dX7_place_7 (by decide) ?_
  refine lv_bipush (v := 24) hx hb dX7_place_8 (by decide) ?_
  refine g_callv (va_runS (As := [.int (nI f), .int 0, .int 24]) (rest := []) ⟨hx, hb, hml, hown, hts⟩ (c_X7_requireWithin_0 l hfl D y ad s.heap.size (nI f) 0 24 (nI_pos (by omega)) (g_p24 hp)) (va_cwS 3 hts gX7_place_X7_requireWithin rfl rfl rfl (by decide +kernel) ⟨Nat.le_of_ble_eq_true rfl, Nat.le_of_ble_eq_true rfl⟩) (gPX_S0 hK hE hS hA) rfl rfl hl.1 rfl (lv_room (Nat.le_of_ble_eq_true rfl)) dX7_place_10 ⟨Nat.zero_le _, Nat.zero_le _⟩) hP hD hS hA [] rfl (fun H locs hP hD hS => ?_)
  have hP : va_P D vwCl (wXp y ad h q n b1 l1 r1 b2 l2 r2 b3 l3 r3 uz ul uh f1 g1 f2 g2 pa kd on ot pt fb fl fh tb tl th dg ds) H := hP
  have hD : va_D A (wXp y ad h q n b1 l1 r1 b2 l2 r2 b3 l3 r3 uz ul uh f1 g1 f2 g2 pa kd on ot pt fb fl fh tb tl th dg ds) := hD
  refine lv_iload_n hx hb dX7_place_13 rfl (lv_at hl 3 rfl) ?_
  refine lv_istore (lv' := [(4, .int (nI f)), (3, .ref (pa k 0)), (0, .ref h), (1, .int (nI k)), (2, .int (nI f))]) hx hb dX7_place_14 hl (by decide) rfl (fun ls hl => ?_)
  have LOOP16 : ∀ (m9 : Nat) (p : Nat) (xb1 : Bool) (xl1 : Int64) (xr1 : Int64) (xb2 : Bool) (xl2 : Int64) (xr2 : Int64) (xb3 : Bool) (xl3 : Int64) (xr3 : Int64) (xuz : Nat → Bool) (xul : Nat → Int64) (xuh : Nat → Int64) (xf1 : Int64) (xg1 : Int64) (xf2 : Int64) (xg2 : Int64), (p + m9 = 25) → (plX tb tl th k f m9 p = plX tb tl th k f (25 - f) f) → ∀ (H : Heap) (locs : List Loc), va_P D vwCl (wXp y ad h q n xb1 xl1 xr1 xb2 xl2 xr2 xb3 xl3 xr3 xuz xul xuh xf1 xg1 xf2 xg2 pa kd on ot pt fb fl fh tb tl th dg ds) H → va_D A (wXp y ad h q n xb1 xl1 xr1 xb2 xl2 xr2 xb3 xl3 xr3 xuz xul xuh xf1 xg1 xf2 xg2 pa kd on ot pt fb fl fh tb tl th dg ds) → va_S A s.heap H locs → ∀ (ls : Array Slot), lv_has ls 5 [(0, .ref h), (1, .int (nI k)), (2, .int (nI f)), (3, .ref (pa k 0)), (4, .int (nI p))] → W pg l e (headSpec wsX7_place ({ frames := 2, cells := 0, slots := 0, locals := 46 } : Room)).room s m (([.ref h, .int (nI k), .int (nI f)] : List Value).toArray) below meth c H locs 0 0 (MQ below (gQ D (wXp y ad h q n b1 l1 r1 b2 l2 r2 b3 l3 r3 uz ul uh f1 g1 f2 g2 pa kd on ot pt fb fl fh tb tl th dg ds) (fun v w => v = some (.int (plX tb tl th k f (25 - f) f)) ∧ xScr y ad h q n pa kd on ot pt fb fl fh tb tl th dg ds w)) (([.ref h, .int (nI k), .int (nI f)] : List Value).toArray) s 0 0 (va_A (wXp y ad h q n b1 l1 r1 b2 l2 r2 b3 l3 r3 uz ul uh f1 g1 f2 g2 pa kd on ot pt fb fl fh tb tl th dg ds) s.heap.size)) (F0 m 16 ls []) := by
    intro m9
    induction m9 with
    | zero =>
      intro p xb1 xl1 xr1 xb2 xl2 xr2 xb3 xl3 xr3 xuz xul xuh xf1 xg1 xf2 xg2 hp2 hF H locs hP hD hS ls hl
      refine lv_iload hx hb dX7_place_16 (lv_at hl 4 rfl) ?_
      refine lv_bipush (v := 24) hx hb dX7_place_18 (by decide) ?_
      refine lv_icmp_gt (tgt := 81) hx hb dX7_place_20 (by decide) (fun c_20 => ?_) (fun c_20 => absurd (nI_lt (a := 24) (b := p) (by omega) (by omega)) c_20)
      refine lv_iconst (v := -1) hx hb dX7_place_81 (by decide) ?_
      exact W.iret (v := -1) hx hb hr (fun t ht hW => ⟨⟨some (.int (-1)), wXp y ad h q n xb1 xl1 xr1 xb2 xl2 xr2 xb3 xl3 xr3 xuz xul xuh xf1 xg1 xf2 xg2 pa kd on ot pt fb fl fh tb tl th dg ds, rfl, ⟨congrArg (fun z => some (Value.int z)) (hF), ⟨_, _, _, _, _, _, _, _, _, _, _, _, _, _, _, _, rfl⟩⟩, rfl, by rw [ht]; exact hP⟩, by rw [← hAe]; exact hS.F ht⟩) (by rw [← hAe]; exact hS.2.2) dX7_place_82
    | succ m9 ih16 =>
      intro p xb1 xl1 xr1 xb2 xl2 xr2 xb3 xl3 xr3 xuz xul xuh xf1 xg1 xf2 xg2 hp2 hF H locs hP hD hS ls hl
      refine lv_iload hx hb dX7_place_16 (lv_at hl 4 rfl) ?_
      refine lv_bipush (v := 24) hx hb dX7_place_18 (by decide) ?_
      refine lv_icmp_gt (tgt := 81) hx hb dX7_place_20 (by decide) (fun c_20 => absurd c_20 (nI_nlt (a := 24) (b := p) (by omega) (by omega))) (fun c_20 => ?_)
      refine lv_aload_n hx hb dX7_place_23 rfl (lv_at hl 3 rfl) ?_
      refine va_get (D := D) (ci := 3) (v := .ref (pa k 5)) (C := RX5) (T := TX5) (N := 8) hx hb hts in_X7_place_X5 hown hK.1 hP (9 * k + 0 + 11) (gPL_at (j := 0) (fun _ => rfl) (by decide) hk) rfl 5 (by decide) (hts (.fieldLink RX7 170 "Nestlimit$Program" "told" "LNestlimit$Row;") (List.mem_of_getElem? (i := 1) rfl)) (fun _ h9 => h9) rfl dX7_place_24 ?_
      refine lv_iload hx hb dX7_place_27 (lv_at hl 4 rfl) ?_
      refine lv_aload_n hx hb dX7_place_29 rfl (lv_at hl 0 rfl) ?_
      refine va_get (D := D) (ci := 5) (v := .ref (q 1)) (C := RX7) (T := TX7) (N := 8) hx hb hts in_X7_place_X7 hown hK.1 hP 0 rfl rfl 2 (by decide) (hts (.fieldLink RX7 22 "Nestlimit" "answer" "LNestlimit$Interval;") (List.mem_of_getElem? (i := 2) rfl)) (fun _ h9 => h9) rfl dX7_place_30 ?_
      refine g_callW (wc := [((pa k 5), .inr (4, [.ref (pa k 6), .ref (pa k 7), .ref (pa k 8)])), ((pa k 6), .inl (y 2, 25, .inl (gZ (tb k)))), ((pa k 7), .inl (y 1, 25, .inr (.inl (tl k)))), ((pa k 8), .inl (y 1, 25, .inr (.inl (th k)))), ((q 1), .inr (1, [.int (gB xb1), .long xl1, .long xr1]))]) (b := (q 1)) (e0 := .inr (1, [.int (gB xb1), .long xl1, .long xr1])) (e1 := .inr (1, [.int (gB (sp_X6_load_b1 (tb k) (tl k) (th k) p)), .long (sp_X6_load_lo1 (tb k) (tl k) (th k) p), .long (sp_X6_load_hi1 (tb k) (tl k) (th k) p)])) (v0 := none) (fun w0 hw0 => by subst hw0; exact (va_runV (As := [.int (nI p), .ref (q 1)]) (rest := []) ⟨hx, hb, hml, hown, hts⟩ (c_X6_load l D y H.size (pa k 5) (pa k 6) (pa k 7) (pa k 8) 25 (tb k) (tl k) (th k) (q 1) xb1 xl1 xr1 p (by omega) (by decide)) (cwV 2 hts gX7_place_X6_load rfl rfl rfl (by decide +kernel) ⟨Nat.le_of_ble_eq_true rfl, Nat.le_of_ble_eq_true rfl⟩) (gP_VI hP hD hK [9 * k + 5 + 11, 9 * k + 6 + 11, 9 * k + 7 + 11, 9 * k + 8 + 11, 2] (by simp <;> omega) (by show [(gPL _ _)[9 * k + 5]?, (gPL _ _)[9 * k + 6]?, (gPL _ _)[9 * k + 7]?, (gPL _ _)[9 * k + 8]?, some _] = _; rw [gPL_at (j := 5) (fun _ => rfl) (by decide) hk, gPL_at (j := 6) (fun _ => rfl) (by decide) hk, gPL_at (j := 7) (fun _ => rfl) (by decide) hk, gPL_at (j := 8) (fun _ => rfl) (by decide) hk]; rfl) 0 rfl rfl) rfl rfl hl.1 rfl (lv_room (Nat.le_of_ble_eq_true rfl)) dX7_place_33 ⟨Nat.zero_le _, Nat.zero_le _⟩)) hP hD hS hA [9 * k + 5 + 11, 9 * k + 6 + 11, 9 * k + 7 + 11, 9 * k + 8 + 11, 2] (by show [(gPL _ _)[9 * k + 5]?, (gPL _ _)[9 * k + 6]?, (gPL _ _)[9 * k + 7]?, (gPL _ _)[9 * k + 8]?, some _] = _; rw [gPL_at (j := 5) (fun _ => rfl) (by decide) hk, gPL_at (j := 6) (fun _ => rfl) (by decide) hk, gPL_at (j := 7) (fun _ => rfl) (by decide) hk, gPL_at (j := 8) (fun _ => rfl) (by decide) hk]; rfl) 2 rfl ⟨[((pa k 5), .inr (4, [.ref (pa k 6), .ref (pa k 7), .ref (pa k 8)])), ((pa k 6), .inl (y 2, 25, .inl (gZ (tb k)))), ((pa k 7), .inl (y 1, 25, .inr (.inl (tl k)))), ((pa k 8), .inl (y 1, 25, .inr (.inl (th k))))], rfl⟩ (fun H locs hP hD hS => ?_)
      have hP : va_P D vwCl (wXp y ad h q n (sp_X6_load_b1 (tb k) (tl k) (th k) p) (sp_X6_load_lo1 (tb k) (tl k) (th k) p) (sp_X6_load_hi1 (tb k) (tl k) (th k) p) xb2 xl2 xr2 xb3 xl3 xr3 xuz xul xuh xf1 xg1 xf2 xg2 pa kd on ot pt fb fl fh tb tl th dg ds) H := hP
      have hD : va_D A (wXp y ad h q n (sp_X6_load_b1 (tb k) (tl k) (th k) p) (sp_X6_load_lo1 (tb k) (tl k) (th k) p) (sp_X6_load_hi1 (tb k) (tl k) (th k) p) xb2 xl2 xr2 xb3 xl3 xr3 xuz xul xuh xf1 xg1 xf2 xg2 pa kd on ot pt fb fl fh tb tl th dg ds) := hD
      refine lv_aload_n hx hb dX7_place_36 rfl (lv_at hl 0 rfl) ?_
      refine va_get (D := D) (ci := 5) (v := .ref (q 1)) (C := RX7) (T := TX7) (N := 8) hx hb hts in_X7_place_X7 hown hK.1 hP 0 rfl rfl 2 (by decide) (hts (.fieldLink RX7 22 "Nestlimit" "answer" "LNestlimit$Interval;") (List.mem_of_getElem? (i := 2) rfl)) (fun _ h9 => h9) rfl dX7_place_37 ?_
      refine va_get (D := D) (ci := 1) (v := .int (gB (sp_X6_load_b1 (tb k) (tl k) (th k) p))) (C := RX2) (T := TX2) (N := 3) hx hb hts in_X7_place_X2 hown hK.1 hP 2 rfl rfl 0 (by decide) (hts (.fieldLink RX7 173 "Nestlimit$Interval" "isThere" "Z") (List.mem_of_getElem? (i := 3) rfl)) (fun _ h9 => h9) rfl dX7_place_40 ?_
      refine g_beq (tgt := 75) hx hb dX7_place_43 (by decide) (fun c_43 => ?_) (fun c_43 => ?_)
      · skip
        refine lv_iinc (v := nI (p + 1)) (lv' := [(4, .int (nI (p + 1))), (0, .ref h), (1, .int (nI k)), (2, .int (nI f)), (3, .ref (pa k 0))]) hx hb dX7_place_75 hl (k := 4) rfl (nI_add p 1) (by decide) rfl (fun ls hl => ?_)
        refine lv_goto (tgt := 16) hx hb dX7_place_78 (by decide) ?_
        exact ih16 (p + 1) (sp_X6_load_b1 (tb k) (tl k) (th k) p) (sp_X6_load_lo1 (tb k) (tl k) (th k) p) (sp_X6_load_hi1 (tb k) (tl k) (th k) p) xb2 xl2 xr2 xb3 xl3 xr3 xuz xul xuh xf1 xg1 xf2 xg2 (by omega) (by rw [← hF]; show _ = (if _ then _ else _); simp only [if_neg c_43]) _ _ hP hD hS ls (lv_sub hl [1, 2, 3, 4, 0] rfl)
      · skip
        refine lv_aload_n hx hb dX7_place_46 rfl (lv_at hl 0 rfl) ?_
        refine va_get (D := D) (ci := 5) (v := .ref (q 1)) (C := RX7) (T := TX7) (N := 8) hx hb hts in_X7_place_X7 hown hK.1 hP 0 rfl rfl 2 (by decide) (hts (.fieldLink RX7 22 "Nestlimit" "answer" "LNestlimit$Interval;") (List.mem_of_getElem? (i := 2) rfl)) (fun _ h9 => h9) rfl dX7_place_47 ?_
        refine va_get (D := D) (ci := 1) (v := .long (sp_X6_load_hi1 (tb k) (tl k) (th k) p)) (C := RX2) (T := TX2) (N := 3) hx hb hts in_X7_place_X2 hown hK.1 hP 2 rfl rfl 2 (by decide) (hts (.fieldLink RX7 177 "Nestlimit$Interval" "high" "J") (List.mem_of_getElem? (i := 4) rfl)) (fun _ h9 => h9) rfl dX7_place_50 ?_
        refine lv_aload_n hx hb dX7_place_53 rfl (lv_at hl 0 rfl) ?_
        refine va_get (D := D) (ci := 5) (v := .ref (q 1)) (C := RX7) (T := TX7) (N := 8) hx hb hts in_X7_place_X7 hown hK.1 hP 0 rfl rfl 2 (by decide) (hts (.fieldLink RX7 22 "Nestlimit" "answer" "LNestlimit$Interval;") (List.mem_of_getElem? (i := 2) rfl)) (fun _ h9 => h9) rfl dX7_place_54 ?_
        refine va_get (D := D) (ci := 1) (v := .long (sp_X6_load_lo1 (tb k) (tl k) (th k) p)) (C := RX2) (T := TX2) (N := 3) hx hb hts in_X7_place_X2 hown hK.1 hP 2 rfl rfl 1 (by decide) (hts (.fieldLink RX7 181 "Nestlimit$Interval" "low" "J") (List.mem_of_getElem? (i := 5) rfl)) (fun _ h9 => h9) rfl dX7_place_57 ?_
        refine lv_lsub hx hb dX7_place_60 ?_
        refine lv_iload hx hb dX7_place_61 (lv_at hl 4 rfl) ?_
        refine lv_iload_n hx hb dX7_place_63 rfl (lv_at hl 2 rfl) ?_
        refine lv_isub hx hb dX7_place_64 ?_
        refine g_callR (v0 := .long (sp_X7_unitsAt ((nI p) - (nI f)))) (va_runS (As := [.int ((nI p) - (nI f))]) (rest := [.long ((sp_X6_load_hi1 (tb k) (tl k) (th k) p) - (sp_X6_load_lo1 (tb k) (tl k) (th k) p))]) ⟨hx, hb, hml, hown, hts⟩ (c_X7_unitsAt l D y H.size ((nI p) - (nI f))) (va_cwS 1 hts gX7_place_X7_unitsAt rfl rfl rfl (by decide +kernel) ⟨Nat.le_of_ble_eq_true rfl, Nat.le_of_ble_eq_true rfl⟩) (gP_S hP hD hK [] (by decide) rfl) rfl rfl hl.1 rfl (lv_room (Nat.le_of_ble_eq_true rfl)) dX7_place_65 ⟨Nat.zero_le _, Nat.zero_le _⟩) ?_
        refine g_gt (tgt := 75) hx hb dX7_place_68 dX7_place_69 (by decide) (fun c_68 => ?_) (fun c_68 => ?_)
        · skip
          refine lv_iinc (v := nI (p + 1)) (lv' := [(4, .int (nI (p + 1))), (0, .ref h), (1, .int (nI k)), (2, .int (nI f)), (3, .ref (pa k 0))]) hx hb dX7_place_75 hl (k := 4) rfl (nI_add p 1) (by decide) rfl (fun ls hl => ?_)
          refine lv_goto (tgt := 16) hx hb dX7_place_78 (by decide) ?_
          exact ih16 (p + 1) (sp_X6_load_b1 (tb k) (tl k) (th k) p) (sp_X6_load_lo1 (tb k) (tl k) (th k) p) (sp_X6_load_hi1 (tb k) (tl k) (th k) p) xb2 xl2 xr2 xb3 xl3 xr3 xuz xul xuh xf1 xg1 xf2 xg2 (by omega) (by rw [← hF]; show _ = (if _ then _ else _); simp only [if_pos c_43, if_pos c_68]) _ _ hP hD hS ls (lv_sub hl [1, 2, 3, 4, 0] rfl)
        · skip
          refine lv_iload hx hb dX7_place_72 (lv_at hl 4 rfl) ?_
          exact W.iret (v := nI p) hx hb hr (fun t ht hW => ⟨⟨some (.int (nI p)), wXp y ad h q n (sp_X6_load_b1 (tb k) (tl k) (th k) p) (sp_X6_load_lo1 (tb k) (tl k) (th k) p) (sp_X6_load_hi1 (tb k) (tl k) (th k) p) xb2 xl2 xr2 xb3 xl3 xr3 xuz xul xuh xf1 xg1 xf2 xg2 pa kd on ot pt fb fl fh tb tl th dg ds, rfl, ⟨congrArg (fun z => some (Value.int z)) (by rw [← hF]; show _ = (if _ then _ else _); simp only [if_pos c_43, if_neg c_68]), ⟨_, _, _, _, _, _, _, _, _, _, _, _, _, _, _, _, rfl⟩⟩, rfl, by rw [ht]; exact hP⟩, by rw [← hAe]; exact hS.F ht⟩) (by rw [← hAe]; exact hS.2.2) dX7_place_74
  exact LOOP16 (25 - f) f b1 l1 r1 b2 l2 r2 b3 l3 r3 uz ul uh f1 g1 f2 g2 (by omega) (rfl) _ _ hP hD hS ls (lv_sub hl [2, 3, 4, 1, 0] rfl)
theorem in_X7_compareAt_X2 : ∀ w ∈ wsX20, w ∈ wsX7_compareAt := fun _ h => List.mem_cons_of_mem _ (List.mem_append_left _ (List.mem_append_right _ h))
theorem in_X7_compareAt_X5 : ∀ w ∈ wsX50, w ∈ wsX7_compareAt := fun _ h => List.mem_cons_of_mem _ (List.mem_append_left _ (List.mem_append_left _ (List.mem_append_left _ (List.mem_append_right _ h))))
theorem in_X7_compareAt_X7 : ∀ w ∈ wsX70, w ∈ wsX7_compareAt := fun _ h => List.mem_cons_of_mem _ (List.mem_append_left _ (List.mem_append_left _ (List.mem_append_right _ h)))
def sp_X7_compareAt (tb : Nat → Nat → Bool) (tl th : Nat → Nat → Int64) (k j p : Nat) : Int32 := if (sp_X6_load_b1 (tb k) (tl k) (th k) p) = true then if (sp_X6_load_b1 (tb j) (tl j) (th j) p) = true then if (sp_X6_load_lo1 (tb j) (tl j) (th j) p) ≤ (sp_X6_load_hi1 (tb k) (tl k) (th k) p) then if (sp_X6_load_lo1 (tb k) (tl k) (th k) p) ≤ (sp_X6_load_hi1 (tb j) (tl j) (th j) p) then 0 else 1 else -1 else 0 else 0
set_option maxHeartbeats 4000000 in
set_option maxRecDepth 100000 in
theorem c_X7_compareAt (l : Launch) (hfl : l.stackTraces = false) (D : va_G) (y : Nat → ClassId) (ad : Nat → Nat) (sz : Nat) (h : Nat) (q : Nat → Nat) (n : Nat) (b1 : Bool) (l1 r1 : Int64) (b2 : Bool) (l2 r2 : Int64) (b3 : Bool) (l3 r3 : Int64) (uz : Nat → Bool) (ul uh : Nat → Int64) (f1 g1 f2 g2 : Int64) (pa : Nat → Nat → Nat) (kd : Nat → Nat) (on ot : Nat → Int32) (pt : Nat → Int64) (fb : Nat → Nat → Bool) (fl fh : Nat → Nat → Int64) (tb : Nat → Nat → Bool) (tl th : Nat → Nat → Int64) (dg : Nat → Int32) (ds : Nat → Int64) (k j p : Nat) (hn : n ≤ 40) (hk : k < n) (hj : j < n) (hp : p < 25) : Met l yX7_compareAt wsX7_compareAt ({ frames := 2, cells := 0, slots := 0, locals := 46 } : Room) (gPX D y ad [.ref h, .ref (pa k 0), .ref (pa j 0), .int (nI p)] (wXp y ad h q n b1 l1 r1 b2 l2 r2 b3 l3 r3 uz ul uh f1 g1 f2 g2 pa kd on ot pt fb fl fh tb tl th dg ds) sz) (gQ D (wXp y ad h q n b1 l1 r1 b2 l2 r2 b3 l3 r3 uz ul uh f1 g1 f2 g2 pa kd on ot pt fb fl fh tb tl th dg ds) (fun v w => v = some (.int (sp_X7_compareAt tb tl th k j p)) ∧ xScr y ad h q n pa kd on ot pt fb fl fh tb tl th dg ds w)) 0 0 (va_A (wXp y ad h q n b1 l1 r1 b2 l2 r2 b3 l3 r3 uz ul uh f1 g1 f2 g2 pa kd on ot pt fb fl fh tb tl th dg ds) sz) := by
  refine Met.ofW (cc := cX7_compareAt) (maxL := 4) (ret := (some .int)) (by decide) rfl ?_
  intro pg e s m args below meth c s₁ B hml hv
  obtain ⟨rfl, hsz, hP, hK, hD0, hE0⟩ := hv
  have hx := B.exec
  have hb := B.bytes
  have hr := B.returns
  have hts := atoms_spec (ws := wsX7_compareAt) B.pre
  have hown : s.vm.findClass RX7 = some m.cls := findClass_of_methodNamed B.named
  have hlocks := B.notSynchronized
  subst hsz
  obtain ⟨A, hAe⟩ : ∃ A : Nat → Prop, A = va_A (wXp y ad h q n b1 l1 r1 b2 l2 r2 b3 l3 r3 uz ul uh f1 g1 f2 g2 pa kd on ot pt fb fl fh tb tl th dg ds) s.heap.size := ⟨_, rfl⟩
  have hE : gE ad A s s.heap := by rw [hAe]; exact hE0
  have hD : va_D A (wXp y ad h q n b1 l1 r1 b2 l2 r2 b3 l3 r3 uz ul uh f1 g1 f2 g2 pa kd on ot pt fb fl fh tb tl th dg ds) := by rw [hAe]; exact hD0.self (sz := s.heap.size)
  have hA : ∀ q : Nat, s.heap.size ≤ q → A q := fun q h => by rw [hAe]; exact Or.inr h
  have hS : va_S A s.heap s.heap [] := va_S.rf
  have hl := lv_entry ([.ref h, .ref (pa k 0), .ref (pa j 0), .int (nI p)]) (n := 4) (Nat.le_of_ble_eq_true rfl)
  rw [lg_entry_eq]
  generalize (lg_sl ([.ref h, .ref (pa k 0), .ref (pa j 0), .int (nI p)]) ++ List.replicate (4 - (lg_sl ([.ref h, .ref (pa k 0), .ref (pa j 0), .int (nI p)])).length) Slot.unset).toArray = ls at hl ⊢
  have hl : lv_has ls 4 [(0, .ref h), (1, .ref (pa k 0)), (2, .ref (pa j 0)), (3, .int (nI p))] := hl
  refine lv_aload_n hx hb dX7_compareAt_0 rfl (lv_at hl 1 rfl) ?_
  refine va_get (D := D) (ci := 3) (v := .ref (pa k 5)) (C := RX5) (T := TX5) (N := 8) hx hb hts in_X7_compareAt_X5 hown hK.1 hP (9 * k + 0 + 11) (gPL_at (j := 0) (fun _ => rfl) (by decide) hk) rfl 5 (by decide) (hts (.fieldLink RX7 170 "Nestlimit$Program" "told" "LNestlimit$Row;") (List.mem_of_getElem? (i := 1) rfl)) (fun _ h9 => h9) rfl dX7_compareAt_1 ?_
  refine lv_iload_n hx hb dX7_compareAt_4 rfl (lv_at hl 3 rfl) ?_
  refine lv_aload_n hx hb dX7_compareAt_5 rfl (lv_at hl 0 rfl) ?_
  refine va_get (D := D) (ci := 5) (v := .ref (q 2)) (C := RX7) (T := TX7) (N := 8) hx hb hts in_X7_compareAt_X7 hown hK.1 hP 0 rfl rfl 3 (by decide) (hts (.fieldLink RX7 26 "Nestlimit" "first" "LNestlimit$Interval;") (List.mem_of_getElem? (i := 2) rfl)) (fun _ h9 => h9) rfl dX7_compareAt_6 ?_
  refine g_callW (wc := [((pa k 5), .inr (4, [.ref (pa k 6), .ref (pa k 7), .ref (pa k 8)])), ((pa k 6), .inl (y 2, 25, .inl (gZ (tb k)))), ((pa k 7), .inl (y 1, 25, .inr (.inl (tl k)))), ((pa k 8), .inl (y 1, 25, .inr (.inl (th k)))), ((q 2), .inr (1, [.int (gB b2), .long l2, .long r2]))]) (b := (q 2)) (e0 := .inr (1, [.int (gB b2), .long l2, .long r2])) (e1 := .inr (1, [.int (gB (sp_X6_load_b1 (tb k) (tl k) (th k) p)), .long (sp_X6_load_lo1 (tb k) (tl k) (th k) p), .long (sp_X6_load_hi1 (tb k) (tl k) (th k) p)])) (v0 := none) (fun w0 hw0 => by subst hw0; exact (va_runV (As := [.int (nI p), .ref (q 2)]) (rest := []) ⟨hx, hb, hml, hown, hts⟩ (c_X6_load l D y s.heap.size (pa k 5) (pa k 6) (pa k 7) (pa k 8) 25 (tb k) (tl k) (th k) (q 2) b2 l2 r2 p (by omega) (by decide)) (cwV 2 hts gX7_compareAt_X6_load rfl rfl rfl (by decide +kernel) ⟨Nat.le_of_ble_eq_true rfl, Nat.le_of_ble_eq_true rfl⟩) (gP_VI hP hD hK [9 * k + 5 + 11, 9 * k + 6 + 11, 9 * k + 7 + 11, 9 * k + 8 + 11, 3] (by simp <;> omega) (by show [(gPL _ _)[9 * k + 5]?, (gPL _ _)[9 * k + 6]?, (gPL _ _)[9 * k + 7]?, (gPL _ _)[9 * k + 8]?, some _] = _; rw [gPL_at (j := 5) (fun _ => rfl) (by decide) hk, gPL_at (j := 6) (fun _ => rfl) (by decide) hk, gPL_at (j := 7) (fun _ => rfl) (by decide) hk, gPL_at (j := 8) (fun _ => rfl) (by decide) hk]; rfl) 0 rfl rfl) rfl rfl hl.1 rfl (lv_room (Nat.le_of_ble_eq_true rfl)) dX7_compareAt_9 ⟨Nat.zero_le _, Nat.zero_le _⟩)) hP hD hS hA [9 * k + 5 + 11, 9 * k + 6 + 11, 9 * k + 7 + 11, 9 * k + 8 + 11, 3] (by show [(gPL _ _)[9 * k + 5]?, (gPL _ _)[9 * k + 6]?, (gPL _ _)[9 * k + 7]?, (gPL _ _)[9 * k + 8]?, some _] = _; rw [gPL_at (j := 5) (fun _ => rfl) (by decide) hk, gPL_at (j := 6) (fun _ => rfl) (by decide) hk, gPL_at (j := 7) (fun _ => rfl) (by decide) hk, gPL_at (j := 8) (fun _ => rfl) (by decide) hk]; rfl) 3 rfl ⟨[((pa k 5), .inr (4, [.ref (pa k 6), .ref (pa k 7), .ref (pa k 8)])), ((pa k 6), .inl (y 2, 25, .inl (gZ (tb k)))), ((pa k 7), .inl (y 1, 25, .inr (.inl (tl k)))), ((pa k 8), .inl (y 1, 25, .inr (.inl (th k))))], rfl⟩ (fun H locs hP hD hS => ?_)
  have hP : va_P D vwCl (wXp y ad h q n b1 l1 r1 (sp_X6_load_b1 (tb k) (tl k) (th k) p) (sp_X6_load_lo1 (tb k) (tl k) (th k) p) (sp_X6_load_hi1 (tb k) (tl k) (th k) p) b3 l3 r3 uz ul uh f1 g1 f2 g2 pa kd on ot pt fb fl fh tb tl th dg ds) H := hP
  have hD : va_D A (wXp y ad h q n b1 l1 r1 (sp_X6_load_b1 (tb k) (tl k) (th k) p) (sp_X6_load_lo1 (tb k) (tl k) (th k) p) (sp_X6_load_hi1 (tb k) (tl k) (th k) p) b3 l3 r3 uz ul uh f1 g1 f2 g2 pa kd on ot pt fb fl fh tb tl th dg ds) := hD
  refine lv_aload_n hx hb dX7_compareAt_12 rfl (lv_at hl 2 rfl) ?_
  refine va_get (D := D) (ci := 3) (v := .ref (pa j 5)) (C := RX5) (T := TX5) (N := 8) hx hb hts in_X7_compareAt_X5 hown hK.1 hP (9 * j + 0 + 11) (gPL_at (j := 0) (fun _ => rfl) (by decide) hj) rfl 5 (by decide) (hts (.fieldLink RX7 170 "Nestlimit$Program" "told" "LNestlimit$Row;") (List.mem_of_getElem? (i := 1) rfl)) (fun _ h9 => h9) rfl dX7_compareAt_13 ?_
  refine lv_iload_n hx hb dX7_compareAt_16 rfl (lv_at hl 3 rfl) ?_
  refine lv_aload_n hx hb dX7_compareAt_17 rfl (lv_at hl 0 rfl) ?_
  refine va_get (D := D) (ci := 5) (v := .ref (q 3)) (C := RX7) (T := TX7) (N := 8) hx hb hts in_X7_compareAt_X7 hown hK.1 hP 0 rfl rfl 4 (by decide) (hts (.fieldLink RX7 29 "Nestlimit" "second" "LNestlimit$Interval;") (List.mem_of_getElem? (i := 3) rfl)) (fun _ h9 => h9) rfl dX7_compareAt_18 ?_
  refine g_callW (wc := [((pa j 5), .inr (4, [.ref (pa j 6), .ref (pa j 7), .ref (pa j 8)])), ((pa j 6), .inl (y 2, 25, .inl (gZ (tb j)))), ((pa j 7), .inl (y 1, 25, .inr (.inl (tl j)))), ((pa j 8), .inl (y 1, 25, .inr (.inl (th j)))), ((q 3), .inr (1, [.int (gB b3), .long l3, .long r3]))]) (b := (q 3)) (e0 := .inr (1, [.int (gB b3), .long l3, .long r3])) (e1 := .inr (1, [.int (gB (sp_X6_load_b1 (tb j) (tl j) (th j) p)), .long (sp_X6_load_lo1 (tb j) (tl j) (th j) p), .long (sp_X6_load_hi1 (tb j) (tl j) (th j) p)])) (v0 := none) (fun w0 hw0 => by subst hw0; exact (va_runV (As := [.int (nI p), .ref (q 3)]) (rest := []) ⟨hx, hb, hml, hown, hts⟩ (c_X6_load l D y H.size (pa j 5) (pa j 6) (pa j 7) (pa j 8) 25 (tb j) (tl j) (th j) (q 3) b3 l3 r3 p (by omega) (by decide)) (cwV 2 hts gX7_compareAt_X6_load rfl rfl rfl (by decide +kernel) ⟨Nat.le_of_ble_eq_true rfl, Nat.le_of_ble_eq_true rfl⟩) (gP_VI hP hD hK [9 * j + 5 + 11, 9 * j + 6 + 11, 9 * j + 7 + 11, 9 * j + 8 + 11, 4] (by simp <;> omega) (by show [(gPL _ _)[9 * j + 5]?, (gPL _ _)[9 * j + 6]?, (gPL _ _)[9 * j + 7]?, (gPL _ _)[9 * j + 8]?, some _] = _; rw [gPL_at (j := 5) (fun _ => rfl) (by decide) hj, gPL_at (j := 6) (fun _ => rfl) (by decide) hj, gPL_at (j := 7) (fun _ => rfl) (by decide) hj, gPL_at (j := 8) (fun _ => rfl) (by decide) hj]; rfl) 0 rfl rfl) rfl rfl hl.1 rfl (lv_room (Nat.le_of_ble_eq_true rfl)) dX7_compareAt_21 ⟨Nat.zero_le _, Nat.zero_le _⟩)) hP hD hS hA [9 * j + 5 + 11, 9 * j + 6 + 11, 9 * j + 7 + 11, 9 * j + 8 + 11, 4] (by show [(gPL _ _)[9 * j + 5]?, (gPL _ _)[9 * j + 6]?, (gPL _ _)[9 * j + 7]?, (gPL _ _)[9 * j + 8]?, some _] = _; rw [gPL_at (j := 5) (fun _ => rfl) (by decide) hj, gPL_at (j := 6) (fun _ => rfl) (by decide) hj, gPL_at (j := 7) (fun _ => rfl) (by decide) hj, gPL_at (j := 8) (fun _ => rfl) (by decide) hj]; rfl) 4 rfl ⟨[((pa j 5), .inr (4, [.ref (pa j 6), .ref (pa j 7), .ref (pa j 8)])), ((pa j 6), .inl (y 2, 25, .inl (gZ (tb j)))), ((pa j 7), .inl (y 1, 25, .inr (.inl (tl j)))), ((pa j 8), .inl (y 1, 25, .inr (.inl (th j))))], rfl⟩ (fun H locs hP hD hS => ?_)
  have hP : va_P D vwCl (wXp y ad h q n b1 l1 r1 (sp_X6_load_b1 (tb k) (tl k) (th k) p) (sp_X6_load_lo1 (tb k) (tl k) (th k) p) (sp_X6_load_hi1 (tb k) (tl k) (th k) p) (sp_X6_load_b1 (tb j) (tl j) (th j) p) (sp_X6_load_lo1 (tb j) (tl j) (th j) p) (sp_X6_load_hi1 (tb j) (tl j) (th j) p) uz ul uh f1 g1 f2 g2 pa kd on ot pt fb fl fh tb tl th dg ds) H := hP
  have hD : va_D A (wXp y ad h q n b1 l1 r1 (sp_X6_load_b1 (tb k) (tl k) (th k) p) (sp_X6_load_lo1 (tb k) (tl k) (th k) p) (sp_X6_load_hi1 (tb k) (tl k) (th k) p) (sp_X6_load_b1 (tb j) (tl j) (th j) p) (sp_X6_load_lo1 (tb j) (tl j) (th j) p) (sp_X6_load_hi1 (tb j) (tl j) (th j) p) uz ul uh f1 g1 f2 g2 pa kd on ot pt fb fl fh tb tl th dg ds) := hD
  refine lv_aload_n hx hb dX7_compareAt_24 rfl (lv_at hl 0 rfl) ?_
  refine va_get (D := D) (ci := 5) (v := .ref (q 2)) (C := RX7) (T := TX7) (N := 8) hx hb hts in_X7_compareAt_X7 hown hK.1 hP 0 rfl rfl 3 (by decide) (hts (.fieldLink RX7 26 "Nestlimit" "first" "LNestlimit$Interval;") (List.mem_of_getElem? (i := 2) rfl)) (fun _ h9 => h9) rfl dX7_compareAt_25 ?_
  refine va_get (D := D) (ci := 1) (v := .int (gB (sp_X6_load_b1 (tb k) (tl k) (th k) p))) (C := RX2) (T := TX2) (N := 3) hx hb hts in_X7_compareAt_X2 hown hK.1 hP 3 rfl rfl 0 (by decide) (hts (.fieldLink RX7 173 "Nestlimit$Interval" "isThere" "Z") (List.mem_of_getElem? (i := 4) rfl)) (fun _ h9 => h9) rfl dX7_compareAt_28 ?_
  refine g_beq (tgt := 44) hx hb dX7_compareAt_31 (by decide) (fun c_31 => ?_) (fun c_31 => ?_)
  · skip
    refine lv_iconst (v := 0) hx hb dX7_compareAt_44 (by decide) ?_
    exact W.iret (v := 0) hx hb hr (fun t ht hW => ⟨⟨some (.int (0)), wXp y ad h q n b1 l1 r1 (sp_X6_load_b1 (tb k) (tl k) (th k) p) (sp_X6_load_lo1 (tb k) (tl k) (th k) p) (sp_X6_load_hi1 (tb k) (tl k) (th k) p) (sp_X6_load_b1 (tb j) (tl j) (th j) p) (sp_X6_load_lo1 (tb j) (tl j) (th j) p) (sp_X6_load_hi1 (tb j) (tl j) (th j) p) uz ul uh f1 g1 f2 g2 pa kd on ot pt fb fl fh tb tl th dg ds, rfl, ⟨congrArg (fun z => some (Value.int z)) (by simp only [sp_X7_compareAt, if_neg c_31]), ⟨_, _, _, _, _, _, _, _, _, _, _, _, _, _, _, _, rfl⟩⟩, rfl, by rw [ht]; exact hP⟩, by rw [← hAe]; exact hS.F ht⟩) (by rw [← hAe]; exact hS.2.2) dX7_compareAt_45
  · skip
    refine lv_aload_n hx hb dX7_compareAt_34 rfl (lv_at hl 0 rfl) ?_
    refine va_get (D := D) (ci := 5) (v := .ref (q 3)) (C := RX7) (T := TX7) (N := 8) hx hb hts in_X7_compareAt_X7 hown hK.1 hP 0 rfl rfl 4 (by decide) (hts (.fieldLink RX7 29 "Nestlimit" "second" "LNestlimit$Interval;") (List.mem_of_getElem? (i := 3) rfl)) (fun _ h9 => h9) rfl dX7_compareAt_35 ?_
    refine va_get (D := D) (ci := 1) (v := .int (gB (sp_X6_load_b1 (tb j) (tl j) (th j) p))) (C := RX2) (T := TX2) (N := 3) hx hb hts in_X7_compareAt_X2 hown hK.1 hP 4 rfl rfl 0 (by decide) (hts (.fieldLink RX7 173 "Nestlimit$Interval" "isThere" "Z") (List.mem_of_getElem? (i := 4) rfl)) (fun _ h9 => h9) rfl dX7_compareAt_38 ?_
    refine g_bne (tgt := 46) hx hb dX7_compareAt_41 (by decide) (fun c_41 => ?_) (fun c_41 => ?_)
    · skip
      refine lv_aload_n hx hb dX7_compareAt_46 rfl (lv_at hl 0 rfl) ?_
      refine va_get (D := D) (ci := 5) (v := .ref (q 2)) (C := RX7) (T := TX7) (N := 8) hx hb hts in_X7_compareAt_X7 hown hK.1 hP 0 rfl rfl 3 (by decide) (hts (.fieldLink RX7 26 "Nestlimit" "first" "LNestlimit$Interval;") (List.mem_of_getElem? (i := 2) rfl)) (fun _ h9 => h9) rfl dX7_compareAt_47 ?_
      refine va_get (D := D) (ci := 1) (v := .long (sp_X6_load_hi1 (tb k) (tl k) (th k) p)) (C := RX2) (T := TX2) (N := 3) hx hb hts in_X7_compareAt_X2 hown hK.1 hP 3 rfl rfl 2 (by decide) (hts (.fieldLink RX7 177 "Nestlimit$Interval" "high" "J") (List.mem_of_getElem? (i := 5) rfl)) (fun _ h9 => h9) rfl dX7_compareAt_50 ?_
      refine lv_aload_n hx hb dX7_compareAt_53 rfl (lv_at hl 0 rfl) ?_
      refine va_get (D := D) (ci := 5) (v := .ref (q 3)) (C := RX7) (T := TX7) (N := 8) hx hb hts in_X7_compareAt_X7 hown hK.1 hP 0 rfl rfl 4 (by decide) (hts (.fieldLink RX7 29 "Nestlimit" "second" "LNestlimit$Interval;") (List.mem_of_getElem? (i := 3) rfl)) (fun _ h9 => h9) rfl dX7_compareAt_54 ?_
      refine va_get (D := D) (ci := 1) (v := .long (sp_X6_load_lo1 (tb j) (tl j) (th j) p)) (C := RX2) (T := TX2) (N := 3) hx hb hts in_X7_compareAt_X2 hown hK.1 hP 4 rfl rfl 1 (by decide) (hts (.fieldLink RX7 181 "Nestlimit$Interval" "low" "J") (List.mem_of_getElem? (i := 6) rfl)) (fun _ h9 => h9) rfl dX7_compareAt_57 ?_
      refine g_ge (tgt := 66) hx hb dX7_compareAt_60 dX7_compareAt_61 (by decide) (fun c_60 => ?_) (fun c_60 => ?_)
      · skip
        refine lv_aload_n hx hb dX7_compareAt_66 rfl (lv_at hl 0 rfl) ?_
        refine va_get (D := D) (ci := 5) (v := .ref (q 3)) (C := RX7) (T := TX7) (N := 8) hx hb hts in_X7_compareAt_X7 hown hK.1 hP 0 rfl rfl 4 (by decide) (hts (.fieldLink RX7 29 "Nestlimit" "second" "LNestlimit$Interval;") (List.mem_of_getElem? (i := 3) rfl)) (fun _ h9 => h9) rfl dX7_compareAt_67 ?_
        refine va_get (D := D) (ci := 1) (v := .long (sp_X6_load_hi1 (tb j) (tl j) (th j) p)) (C := RX2) (T := TX2) (N := 3) hx hb hts in_X7_compareAt_X2 hown hK.1 hP 4 rfl rfl 2 (by decide) (hts (.fieldLink RX7 177 "Nestlimit$Interval" "high" "J") (List.mem_of_getElem? (i := 5) rfl)) (fun _ h9 => h9) rfl dX7_compareAt_70 ?_
        refine lv_aload_n hx hb dX7_compareAt_73 rfl (lv_at hl 0 rfl) ?_
        refine va_get (D := D) (ci := 5) (v := .ref (q 2)) (C := RX7) (T := TX7) (N := 8) hx hb hts in_X7_compareAt_X7 hown hK.1 hP 0 rfl rfl 3 (by decide) (hts (.fieldLink RX7 26 "Nestlimit" "first" "LNestlimit$Interval;") (List.mem_of_getElem? (i := 2) rfl)) (fun _ h9 => h9) rfl dX7_compareAt_74 ?_
        refine va_get (D := D) (ci := 1) (v := .long (sp_X6_load_lo1 (tb k) (tl k) (th k) p)) (C := RX2) (T := TX2) (N := 3) hx hb hts in_X7_compareAt_X2 hown hK.1 hP 3 rfl rfl 1 (by decide) (hts (.fieldLink RX7 181 "Nestlimit$Interval" "low" "J") (List.mem_of_getElem? (i := 6) rfl)) (fun _ h9 => h9) rfl dX7_compareAt_77 ?_
        refine g_ge (tgt := 88) hx hb dX7_compareAt_80 dX7_compareAt_81 (by decide) (fun c_80 => ?_) (fun c_80 => ?_)
        · skip
          refine lv_iconst (v := 0) hx hb dX7_compareAt_88 (by decide) ?_
          exact W.iret (v := 0) hx hb hr (fun t ht hW => ⟨⟨some (.int (0)), wXp y ad h q n b1 l1 r1 (sp_X6_load_b1 (tb k) (tl k) (th k) p) (sp_X6_load_lo1 (tb k) (tl k) (th k) p) (sp_X6_load_hi1 (tb k) (tl k) (th k) p) (sp_X6_load_b1 (tb j) (tl j) (th j) p) (sp_X6_load_lo1 (tb j) (tl j) (th j) p) (sp_X6_load_hi1 (tb j) (tl j) (th j) p) uz ul uh f1 g1 f2 g2 pa kd on ot pt fb fl fh tb tl th dg ds, rfl, ⟨congrArg (fun z => some (Value.int z)) (by simp only [sp_X7_compareAt, if_pos c_31, if_pos c_41, if_pos c_60, if_pos c_80]), ⟨_, _, _, _, _, _, _, _, _, _, _, _, _, _, _, _, rfl⟩⟩, rfl, by rw [ht]; exact hP⟩, by rw [← hAe]; exact hS.F ht⟩) (by rw [← hAe]; exact hS.2.2) dX7_compareAt_89
        · skip
          refine lv_iconst (v := 1) hx hb dX7_compareAt_84 (by decide) ?_
          refine lv_goto (tgt := 89) hx hb dX7_compareAt_85 (by decide) ?_
          exact W.iret (v := 1) hx hb hr (fun t ht hW => ⟨⟨some (.int (1)), wXp y ad h q n b1 l1 r1 (sp_X6_load_b1 (tb k) (tl k) (th k) p) (sp_X6_load_lo1 (tb k) (tl k) (th k) p) (sp_X6_load_hi1 (tb k) (tl k) (th k) p) (sp_X6_load_b1 (tb j) (tl j) (th j) p) (sp_X6_load_lo1 (tb j) (tl j) (th j) p) (sp_X6_load_hi1 (tb j) (tl j) (th j) p) uz ul uh f1 g1 f2 g2 pa kd on ot pt fb fl fh tb tl th dg ds, rfl, ⟨congrArg (fun z => some (Value.int z)) (by simp only [sp_X7_compareAt, if_pos c_31, if_pos c_41, if_pos c_60, if_neg c_80]), ⟨_, _, _, _, _, _, _, _, _, _, _, _, _, _, _, _, rfl⟩⟩, rfl, by rw [ht]; exact hP⟩, by rw [← hAe]; exact hS.F ht⟩) (by rw [← hAe]; exact hS.2.2) dX7_compareAt_89
      · skip
        refine lv_iconst (v := -1) hx hb dX7_compareAt_64 (by decide) ?_
        exact W.iret (v := -1) hx hb hr (fun t ht hW => ⟨⟨some (.int (-1)), wXp y ad h q n b1 l1 r1 (sp_X6_load_b1 (tb k) (tl k) (th k) p) (sp_X6_load_lo1 (tb k) (tl k) (th k) p) (sp_X6_load_hi1 (tb k) (tl k) (th k) p) (sp_X6_load_b1 (tb j) (tl j) (th j) p) (sp_X6_load_lo1 (tb j) (tl j) (th j) p) (sp_X6_load_hi1 (tb j) (tl j) (th j) p) uz ul uh f1 g1 f2 g2 pa kd on ot pt fb fl fh tb tl th dg ds, rfl, ⟨congrArg (fun z => some (Value.int z)) (by simp only [sp_X7_compareAt, if_pos c_31, if_pos c_41, if_neg c_60]), ⟨_, _, _, _, _, _, _, _, _, _, _, _, _, _, _, _, rfl⟩⟩, rfl, by rw [ht]; exact hP⟩, by rw [← hAe]; exact hS.F ht⟩) (by rw [← hAe]; exact hS.2.2) dX7_compareAt_65
    · skip
      refine lv_iconst (v := 0) hx hb dX7_compareAt_44 (by decide) ?_
      exact W.iret (v := 0) hx hb hr (fun t ht hW => ⟨⟨some (.int (0)), wXp y ad h q n b1 l1 r1 (sp_X6_load_b1 (tb k) (tl k) (th k) p) (sp_X6_load_lo1 (tb k) (tl k) (th k) p) (sp_X6_load_hi1 (tb k) (tl k) (th k) p) (sp_X6_load_b1 (tb j) (tl j) (th j) p) (sp_X6_load_lo1 (tb j) (tl j) (th j) p) (sp_X6_load_hi1 (tb j) (tl j) (th j) p) uz ul uh f1 g1 f2 g2 pa kd on ot pt fb fl fh tb tl th dg ds, rfl, ⟨congrArg (fun z => some (Value.int z)) (by simp only [sp_X7_compareAt, if_pos c_31, if_neg c_41]), ⟨_, _, _, _, _, _, _, _, _, _, _, _, _, _, _, _, rfl⟩⟩, rfl, by rw [ht]; exact hP⟩, by rw [← hAe]; exact hS.F ht⟩) (by rw [← hAe]; exact hS.2.2) dX7_compareAt_45
set_option maxHeartbeats 4000000 in
set_option maxRecDepth 100000 in
theorem c_X7_compare_X1a (l : Launch) (hfl : l.stackTraces = false) (D : va_G) (y : Nat → ClassId) (ad : Nat → Nat) (sz : Nat) (h : Nat) (q : Nat → Nat) (n : Nat) (b1 : Bool) (l1 r1 : Int64) (b2 : Bool) (l2 r2 : Int64) (b3 : Bool) (l3 r3 : Int64) (uz : Nat → Bool) (ul uh : Nat → Int64) (f1 g1 f2 g2 : Int64) (pa : Nat → Nat → Nat) (kd : Nat → Nat) (on ot : Nat → Int32) (pt : Nat → Int64) (fb : Nat → Nat → Bool) (fl fh : Nat → Nat → Int64) (tb : Nat → Nat → Bool) (tl th : Nat → Nat → Int64) (dg : Nat → Int32) (ds : Nat → Int64) (a b c0 : Int32) (hbad : a < 0 ∨ nI n ≤ a) : vx_Met l yX7_compare wsX7_compare ({ frames := 7, cells := 1, slots := 6, locals := 114 } : Room) (gPX D y ad [.ref h, .int a, .int b, .int c0] (wXp y ad h q n b1 l1 r1 b2 l2 r2 b3 l3 r3 uz ul uh f1 g1 f2 g2 pa kd on ot pt fb fl fh tb tl th dg ds) sz) gNo (gXC D (wXp y ad h q n b1 l1 r1 b2 l2 r2 b3 l3 r3 uz ul uh f1 g1 f2 g2 pa kd on ot pt fb fl fh tb tl th dg ds) gIOB (fun w => w = wXp y ad h q n b1 l1 r1 b2 l2 r2 b3 l3 r3 uz ul uh f1 g1 f2 g2 pa kd on ot pt fb fl fh tb tl th dg ds)) 1 6 (va_A (wXp y ad h q n b1 l1 r1 b2 l2 r2 b3 l3 r3 uz ul uh f1 g1 f2 g2 pa kd on ot pt fb fl fh tb tl th dg ds) sz) := by
  refine vx_ofW (cc := cX7_compare) (maxL := 6) (ret := (some .int)) (by decide) rfl ?_
  intro pg e s m args below meth c s₁ B hml hno hv
  obtain ⟨rfl, hsz, hP, hK, hD0, hE0⟩ := hv
  have hx := B.exec
  have hb := B.bytes
  have hr := B.returns
  have hts := atoms_spec (ws := wsX7_compare) B.pre
  have hown : s.vm.findClass RX7 = some m.cls := findClass_of_methodNamed B.named
  have hlocks := B.notSynchronized
  subst hsz
  obtain ⟨A, hAe⟩ : ∃ A : Nat → Prop, A = va_A (wXp y ad h q n b1 l1 r1 b2 l2 r2 b3 l3 r3 uz ul uh f1 g1 f2 g2 pa kd on ot pt fb fl fh tb tl th dg ds) s.heap.size := ⟨_, rfl⟩
  have hE : gE ad A s s.heap := by rw [hAe]; exact hE0
  have hD : va_D A (wXp y ad h q n b1 l1 r1 b2 l2 r2 b3 l3 r3 uz ul uh f1 g1 f2 g2 pa kd on ot pt fb fl fh tb tl th dg ds) := by rw [hAe]; exact hD0.self (sz := s.heap.size)
  have hA : ∀ q : Nat, s.heap.size ≤ q → A q := fun q h => by rw [hAe]; exact Or.inr h
  have hS : va_S A s.heap s.heap [] := va_S.rf
  have hl := lv_entry ([.ref h, .int a, .int b, .int c0]) (n := 6) (Nat.le_of_ble_eq_true rfl)
  rw [lg_entry_eq]
  generalize (lg_sl ([.ref h, .int a, .int b, .int c0]) ++ List.replicate (6 - (lg_sl ([.ref h, .int a, .int b, .int c0])).length) Slot.unset).toArray = ls at hl ⊢
  have hl : lv_has ls 6 [(0, .ref h), (1, .int a), (2, .int b), (3, .int c0)] := hl
  refine lv_aload_n hx hb dX7_compare_0 rfl (lv_at hl 0 rfl) ?_
  refine lv_iload_n hx hb dX7_compare_1 rfl (lv_at hl 1 rfl) ?_
  exact g_outX (vx_runV (As := [.int a]) (rest := []) ⟨hx, hb, hml, hown, hts⟩ (c_X7_existing_X l hfl D y ad s.heap.size h q n b1 l1 r1 b2 l2 r2 b3 l3 r3 uz ul uh f1 g1 f2 g2 pa kd on ot pt fb fl fh tb tl th dg ds a hbad) (cwV 1 hts gX7_compare_X7_existing rfl rfl rfl (by decide +kernel) ⟨Nat.le_of_ble_eq_true rfl, Nat.le_of_ble_eq_true rfl⟩) (gPX_VA hP hD hK hE hS hA 0 rfl rfl) rfl rfl hl.1 rfl (lv_room (Nat.le_of_ble_eq_true rfl)) dX7_compare_2 ⟨Nat.le_of_ble_eq_true rfl, Nat.le_of_ble_eq_true rfl⟩) hAe hD hS hA (fun w1 h9 => h9) rfl hno hlocks (Nat.le_of_ble_eq_true rfl) (Nat.le_of_ble_eq_true rfl)
set_option maxHeartbeats 4000000 in
set_option maxRecDepth 100000 in
theorem c_X7_compare_X1b (l : Launch) (hfl : l.stackTraces = false) (D : va_G) (y : Nat → ClassId) (ad : Nat → Nat) (sz : Nat) (h : Nat) (q : Nat → Nat) (n : Nat) (b1 : Bool) (l1 r1 : Int64) (b2 : Bool) (l2 r2 : Int64) (b3 : Bool) (l3 r3 : Int64) (uz : Nat → Bool) (ul uh : Nat → Int64) (f1 g1 f2 g2 : Int64) (pa : Nat → Nat → Nat) (kd : Nat → Nat) (on ot : Nat → Int32) (pt : Nat → Int64) (fb : Nat → Nat → Bool) (fl fh : Nat → Nat → Int64) (tb : Nat → Nat → Bool) (tl th : Nat → Nat → Int64) (dg : Nat → Int32) (ds : Nat → Int64) (k : Nat) (b c0 : Int32) (hn : n ≤ 40) (hk : k < n) (hbad : b < 0 ∨ nI n ≤ b) : vx_Met l yX7_compare wsX7_compare ({ frames := 7, cells := 1, slots := 6, locals := 114 } : Room) (gPX D y ad [.ref h, .int (nI k), .int b, .int c0] (wXp y ad h q n b1 l1 r1 b2 l2 r2 b3 l3 r3 uz ul uh f1 g1 f2 g2 pa kd on ot pt fb fl fh tb tl th dg ds) sz) gNo (gXC D (wXp y ad h q n b1 l1 r1 b2 l2 r2 b3 l3 r3 uz ul uh f1 g1 f2 g2 pa kd on ot pt fb fl fh tb tl th dg ds) gIOB (fun w => w = wXp y ad h q n b1 l1 r1 b2 l2 r2 b3 l3 r3 uz ul uh f1 g1 f2 g2 pa kd on ot pt fb fl fh tb tl th dg ds)) 1 6 (va_A (wXp y ad h q n b1 l1 r1 b2 l2 r2 b3 l3 r3 uz ul uh f1 g1 f2 g2 pa kd on ot pt fb fl fh tb tl th dg ds) sz) := by
  refine vx_ofW (cc := cX7_compare) (maxL := 6) (ret := (some .int)) (by decide) rfl ?_
  intro pg e s m args below meth c s₁ B hml hno hv
  obtain ⟨rfl, hsz, hP, hK, hD0, hE0⟩ := hv
  have hx := B.exec
  have hb := B.bytes
  have hr := B.returns
  have hts := atoms_spec (ws := wsX7_compare) B.pre
  have hown : s.vm.findClass RX7 = some m.cls := findClass_of_methodNamed B.named
  have hlocks := B.notSynchronized
  subst hsz
  obtain ⟨A, hAe⟩ : ∃ A : Nat → Prop, A = va_A (wXp y ad h q n b1 l1 r1 b2 l2 r2 b3 l3 r3 uz ul uh f1 g1 f2 g2 pa kd on ot pt fb fl fh tb tl th dg ds) s.heap.size := ⟨_, rfl⟩
  have hE : gE ad A s s.heap := by rw [hAe]; exact hE0
  have hD : va_D A (wXp y ad h q n b1 l1 r1 b2 l2 r2 b3 l3 r3 uz ul uh f1 g1 f2 g2 pa kd on ot pt fb fl fh tb tl th dg ds) := by rw [hAe]; exact hD0.self (sz := s.heap.size)
  have hA : ∀ q : Nat, s.heap.size ≤ q → A q := fun q h => by rw [hAe]; exact Or.inr h
  have hS : va_S A s.heap s.heap [] := va_S.rf
  have hl := lv_entry ([.ref h, .int (nI k), .int b, .int c0]) (n := 6) (Nat.le_of_ble_eq_true rfl)
  rw [lg_entry_eq]
  generalize (lg_sl ([.ref h, .int (nI k), .int b, .int c0]) ++ List.replicate (6 - (lg_sl ([.ref h, .int (nI k), .int b, .int c0])).length) Slot.unset).toArray = ls at hl ⊢
  have hl : lv_has ls 6 [(0, .ref h), (1, .int (nI k)), (2, .int b), (3, .int c0)] := hl
  refine lv_aload_n hx hb dX7_compare_0 rfl (lv_at hl 0 rfl) ?_
  refine lv_iload_n hx hb dX7_compare_1 rfl (lv_at hl 1 rfl) ?_
  refine g_callR (v0 := .ref (pa k 0)) (va_runV (As := [.int (nI k)]) (rest := []) ⟨hx, hb, hml, hown, hts⟩ (c_X7_existing_0 l hfl D y ad s.heap.size h q n b1 l1 r1 b2 l2 r2 b3 l3 r3 uz ul uh f1 g1 f2 g2 pa kd on ot pt fb fl fh tb tl th dg ds k hn hk) (cwV 1 hts gX7_compare_X7_existing rfl rfl rfl (by decide +kernel) ⟨Nat.le_of_ble_eq_true rfl, Nat.le_of_ble_eq_true rfl⟩) (gPX_VA hP hD hK hE hS hA 0 rfl rfl) rfl rfl hl.1 rfl (lv_room (Nat.le_of_ble_eq_true rfl)) dX7_compare_2 ⟨Nat.zero_le _, Nat.zero_le _⟩) ?_
  refine lv_astore (lv' := [(4, .ref (pa k 0)), (0, .ref h), (1, .int (nI k)), (2, .int b), (3, .int c0)]) hx hb dX7_compare_5 hl (by decide) rfl (fun ls hl => ?_)
  refine lv_aload_n hx hb dX7_compare_7 rfl (lv_at hl 1 rfl) ?_
  refine lv_iload_n hx hb dX7_compare_8 rfl (lv_at hl 3 rfl) ?_
  exact g_outX (vx_runV (As := [.int b]) (rest := []) ⟨hx, hb, hml, hown, hts⟩ (c_X7_existing_X l hfl D y ad s.heap.size h q n b1 l1 r1 b2 l2 r2 b3 l3 r3 uz ul uh f1 g1 f2 g2 pa kd on ot pt fb fl fh tb tl th dg ds b hbad) (cwV 1 hts gX7_compare_X7_existing rfl rfl rfl (by decide +kernel) ⟨Nat.le_of_ble_eq_true rfl, Nat.le_of_ble_eq_true rfl⟩) (gPX_VA hP hD hK hE hS hA 0 rfl rfl) rfl rfl hl.1 rfl (lv_room (Nat.le_of_ble_eq_true rfl)) dX7_compare_9 ⟨Nat.le_of_ble_eq_true rfl, Nat.le_of_ble_eq_true rfl⟩) hAe hD hS hA (fun w1 h9 => h9) rfl hno hlocks (Nat.le_of_ble_eq_true rfl) (Nat.le_of_ble_eq_true rfl)
set_option maxHeartbeats 4000000 in
set_option maxRecDepth 100000 in
theorem c_X7_compare_X2 (l : Launch) (hfl : l.stackTraces = false) (D : va_G) (y : Nat → ClassId) (ad : Nat → Nat) (sz : Nat) (h : Nat) (q : Nat → Nat) (n : Nat) (b1 : Bool) (l1 r1 : Int64) (b2 : Bool) (l2 r2 : Int64) (b3 : Bool) (l3 r3 : Int64) (uz : Nat → Bool) (ul uh : Nat → Int64) (f1 g1 f2 g2 : Int64) (pa : Nat → Nat → Nat) (kd : Nat → Nat) (on ot : Nat → Int32) (pt : Nat → Int64) (fb : Nat → Nat → Bool) (fl fh : Nat → Nat → Int64) (tb : Nat → Nat → Bool) (tl th : Nat → Nat → Int64) (dg : Nat → Int32) (ds : Nat → Int64) (k j : Nat) (c0 : Int32) (hn : n ≤ 40) (hk : k < n) (hj : j < n) (hp : c0 < 0 ∨ ¬ c0 ≤ 24) : vx_Met l yX7_compare wsX7_compare ({ frames := 7, cells := 1, slots := 6, locals := 114 } : Room) (gPX D y ad [.ref h, .int (nI k), .int (nI j), .int c0] (wXp y ad h q n b1 l1 r1 b2 l2 r2 b3 l3 r3 uz ul uh f1 g1 f2 g2 pa kd on ot pt fb fl fh tb tl th dg ds) sz) gNo (gXC D (wXp y ad h q n b1 l1 r1 b2 l2 r2 b3 l3 r3 uz ul uh f1 g1 f2 g2 pa kd on ot pt fb fl fh tb tl th dg ds) gIAE (fun w => w = wXp y ad h q n b1 l1 r1 b2 l2 r2 b3 l3 r3 uz ul uh f1 g1 f2 g2 pa kd on ot pt fb fl fh tb tl th dg ds)) 1 6 (va_A (wXp y ad h q n b1 l1 r1 b2 l2 r2 b3 l3 r3 uz ul uh f1 g1 f2 g2 pa kd on ot pt fb fl fh tb tl th dg ds) sz) := by
  refine vx_ofW (cc := cX7_compare) (maxL := 6) (ret := (some .int)) (by decide) rfl ?_
  intro pg e s m args below meth c s₁ B hml hno hv
  obtain ⟨rfl, hsz, hP, hK, hD0, hE0⟩ := hv
  have hx := B.exec
  have hb := B.bytes
  have hr := B.returns
  have hts := atoms_spec (ws := wsX7_compare) B.pre
  have hown : s.vm.findClass RX7 = some m.cls := findClass_of_methodNamed B.named
  have hlocks := B.notSynchronized
  subst hsz
  obtain ⟨A, hAe⟩ : ∃ A : Nat → Prop, A = va_A (wXp y ad h q n b1 l1 r1 b2 l2 r2 b3 l3 r3 uz ul uh f1 g1 f2 g2 pa kd on ot pt fb fl fh tb tl th dg ds) s.heap.size := ⟨_, rfl⟩
  have hE : gE ad A s s.heap := by rw [hAe]; exact hE0
  have hD : va_D A (wXp y ad h q n b1 l1 r1 b2 l2 r2 b3 l3 r3 uz ul uh f1 g1 f2 g2 pa kd on ot pt fb fl fh tb tl th dg ds) := by rw [hAe]; exact hD0.self (sz := s.heap.size)
  have hA : ∀ q : Nat, s.heap.size ≤ q → A q := fun q h => by rw [hAe]; exact Or.inr h
  have hS : va_S A s.heap s.heap [] := va_S.rf
  have hl := lv_entry ([.ref h, .int (nI k), .int (nI j), .int c0]) (n := 6) (Nat.le_of_ble_eq_true rfl)
  rw [lg_entry_eq]
  generalize (lg_sl ([.ref h, .int (nI k), .int (nI j), .int c0]) ++ List.replicate (6 - (lg_sl ([.ref h, .int (nI k), .int (nI j), .int c0])).length) Slot.unset).toArray = ls at hl ⊢
  have hl : lv_has ls 6 [(0, .ref h), (1, .int (nI k)), (2, .int (nI j)), (3, .int c0)] := hl
  refine lv_aload_n hx hb dX7_compare_0 rfl (lv_at hl 0 rfl) ?_
  refine lv_iload_n hx hb dX7_compare_1 rfl (lv_at hl 1 rfl) ?_
  refine g_callR (v0 := .ref (pa k 0)) (va_runV (As := [.int (nI k)]) (rest := []) ⟨hx, hb, hml, hown, hts⟩ (c_X7_existing_0 l hfl D y ad s.heap.size h q n b1 l1 r1 b2 l2 r2 b3 l3 r3 uz ul uh f1 g1 f2 g2 pa kd on ot pt fb fl fh tb tl th dg ds k hn hk) (cwV 1 hts gX7_compare_X7_existing rfl rfl rfl (by decide +kernel) ⟨Nat.le_of_ble_eq_true rfl, Nat.le_of_ble_eq_true rfl⟩) (gPX_VA hP hD hK hE hS hA 0 rfl rfl) rfl rfl hl.1 rfl (lv_room (Nat.le_of_ble_eq_true rfl)) dX7_compare_2 ⟨Nat.zero_le _, Nat.zero_le _⟩) ?_
  refine lv_astore (lv' := [(4, .ref (pa k 0)), (0, .ref h), (1, .int (nI k)), (2, .int (nI j)), (3, .int c0)]) hx hb dX7_compare_5 hl (by decide) rfl (fun ls hl => ?_)
  refine lv_aload_n hx hb dX7_compare_7 rfl (lv_at hl 1 rfl) ?_
  refine lv_iload_n hx hb dX7_compare_8 rfl (lv_at hl 3 rfl) ?_
  refine g_callR (v0 := .ref (pa j 0)) (va_runV (As := [.int (nI j)]) (rest := []) ⟨hx, hb, hml, hown, hts⟩ (c_X7_existing_0 l hfl D y ad s.heap.size h q n b1 l1 r1 b2 l2 r2 b3 l3 r3 uz ul uh f1 g1 f2 g2 pa kd on ot pt fb fl fh tb tl th dg ds j hn hj) (cwV 1 hts gX7_compare_X7_existing rfl rfl rfl (by decide +kernel) ⟨Nat.le_of_ble_eq_true rfl, Nat.le_of_ble_eq_true rfl⟩) (gPX_VA hP hD hK hE hS hA 0 rfl rfl) rfl rfl hl.1 rfl (lv_room (Nat.le_of_ble_eq_true rfl)) dX7_compare_9 ⟨Nat.zero_le _, Nat.zero_le _⟩) ?_
  refine lv_astore (lv' := [(5, .ref (pa j 0)), (4, .ref (pa k 0)), (0, .ref h), (1, .int (nI k)), (2, .int (nI j)), (3, .int c0)]) hx hb dX7_compare_12 hl (by decide) rfl (fun ls hl => ?_)
  refine lv_iload_n hx hb dX7_compare_14 rfl (lv_at hl 5 rfl) ?_
  refine lv_iconst (v := 0) hx hb dX7_compare_15 (by decide) ?_
  refine lv_bipush (v := 24) hx hb dX7_compare_16 (by decide) ?_
  exact g_outS (vx_runS (As := [.int c0, .int 0, .int 24]) (rest := []) ⟨hx, hb, hml, hown, hts⟩ (c_X7_requireWithin_X l hfl D y ad s.heap.size c0 0 24 hp) (va_cwS 3 hts gX7_compare_X7_requireWithin rfl rfl rfl (by decide +kernel) ⟨Nat.le_of_ble_eq_true rfl, Nat.le_of_ble_eq_true rfl⟩) (gPX_S0 hK hE hS hA) rfl rfl hl.1 rfl (lv_room (Nat.le_of_ble_eq_true rfl)) dX7_compare_18 ⟨Nat.le_of_ble_eq_true rfl, Nat.le_of_ble_eq_true rfl⟩) hAe hP hS hA rfl rfl hno hlocks (Nat.le_of_ble_eq_true rfl) (Nat.le_of_ble_eq_true rfl)
def sp_X7_compare (h : Nat) (q : Nat → Nat) (n : Nat) (b1 : Bool) (l1 r1 : Int64) (b2 : Bool) (l2 r2 : Int64) (b3 : Bool) (l3 r3 : Int64) (uz : Nat → Bool) (ul uh : Nat → Int64) (f1 g1 f2 g2 : Int64) (pa : Nat → Nat → Nat) (kd : Nat → Nat) (on ot : Nat → Int32) (pt : Nat → Int64) (fb : Nat → Nat → Bool) (fl fh : Nat → Nat → Int64) (tb : Nat → Nat → Bool) (tl th : Nat → Nat → Int64) (dg : Nat → Int32) (ds : Nat → Int64) (k j p : Nat) : Int32 := sp_X7_compareAt tb tl th k j p
set_option maxHeartbeats 4000000 in
set_option maxRecDepth 100000 in
theorem c_X7_compare_0 (l : Launch) (hfl : l.stackTraces = false) (D : va_G) (y : Nat → ClassId) (ad : Nat → Nat) (sz : Nat) (h : Nat) (q : Nat → Nat) (n : Nat) (b1 : Bool) (l1 r1 : Int64) (b2 : Bool) (l2 r2 : Int64) (b3 : Bool) (l3 r3 : Int64) (uz : Nat → Bool) (ul uh : Nat → Int64) (f1 g1 f2 g2 : Int64) (pa : Nat → Nat → Nat) (kd : Nat → Nat) (on ot : Nat → Int32) (pt : Nat → Int64) (fb : Nat → Nat → Bool) (fl fh : Nat → Nat → Int64) (tb : Nat → Nat → Bool) (tl th : Nat → Nat → Int64) (dg : Nat → Int32) (ds : Nat → Int64) (k j p : Nat) (hn : n ≤ 40) (hk : k < n) (hj : j < n) (hp : p < 25) : Met l yX7_compare wsX7_compare ({ frames := 3, cells := 0, slots := 0, locals := 69 } : Room) (gPX D y ad [.ref h, .int (nI k), .int (nI j), .int (nI p)] (wXp y ad h q n b1 l1 r1 b2 l2 r2 b3 l3 r3 uz ul uh f1 g1 f2 g2 pa kd on ot pt fb fl fh tb tl th dg ds) sz) (gQ D (wXp y ad h q n b1 l1 r1 b2 l2 r2 b3 l3 r3 uz ul uh f1 g1 f2 g2 pa kd on ot pt fb fl fh tb tl th dg ds) (fun v w => v = some (.int (sp_X7_compareAt tb tl th k j p)) ∧ xScr y ad h q n pa kd on ot pt fb fl fh tb tl th dg ds w)) 0 0 (va_A (wXp y ad h q n b1 l1 r1 b2 l2 r2 b3 l3 r3 uz ul uh f1 g1 f2 g2 pa kd on ot pt fb fl fh tb tl th dg ds) sz) := by
  refine Met.ofW (cc := cX7_compare) (maxL := 6) (ret := (some .int)) (by decide) rfl ?_
  intro pg e s m args below meth c s₁ B hml hv
  obtain ⟨rfl, hsz, hP, hK, hD0, hE0⟩ := hv
  have hx := B.exec
  have hb := B.bytes
  have hr := B.returns
  have hts := atoms_spec (ws := wsX7_compare) B.pre
  have hown : s.vm.findClass RX7 = some m.cls := findClass_of_methodNamed B.named
  have hlocks := B.notSynchronized
  subst hsz
  obtain ⟨A, hAe⟩ : ∃ A : Nat → Prop, A = va_A (wXp y ad h q n b1 l1 r1 b2 l2 r2 b3 l3 r3 uz ul uh f1 g1 f2 g2 pa kd on ot pt fb fl fh tb tl th dg ds) s.heap.size := ⟨_, rfl⟩
  have hE : gE ad A s s.heap := by rw [hAe]; exact hE0
  have hD : va_D A (wXp y ad h q n b1 l1 r1 b2 l2 r2 b3 l3 r3 uz ul uh f1 g1 f2 g2 pa kd on ot pt fb fl fh tb tl th dg ds) := by rw [hAe]; exact hD0.self (sz := s.heap.size)
  have hA : ∀ q : Nat, s.heap.size ≤ q → A q := fun q h => by rw [hAe]; exact Or.inr h
  have hS : va_S A s.heap s.heap [] := va_S.rf
  have hl := lv_entry ([.ref h, .int (nI k), .int (nI j), .int (nI p)]) (n := 6) (Nat.le_of_ble_eq_true rfl)
  rw [lg_entry_eq]
  generalize (lg_sl ([.ref h, .int (nI k), .int (nI j), .int (nI p)]) ++ List.replicate (6 - (lg_sl ([.ref h, .int (nI k), .int (nI j), .int (nI p)])).length) Slot.unset).toArray = ls at hl ⊢
  have hl : lv_has ls 6 [(0, .ref h), (1, .int (nI k)), (2, .int (nI j)), (3, .int (nI p))] := hl
  refine lv_aload_n hx hb dX7_compare_0 rfl (lv_at hl 0 rfl) ?_
  refine lv_iload_n hx hb dX7_compare_1 rfl (lv_at hl 1 rfl) ?_
  refine g_callR (v0 := .ref (pa k 0)) (va_runV (As := [.int (nI k)]) (rest := []) ⟨hx, hb, hml, hown, hts⟩ (c_X7_existing_0 l hfl D y ad s.heap.size h q n b1 l1 r1 b2 l2 r2 b3 l3 r3 uz ul uh f1 g1 f2 g2 pa kd on ot pt fb fl fh tb tl th dg ds k hn hk) (cwV 1 hts gX7_compare_X7_existing rfl rfl rfl (by decide +kernel) ⟨Nat.le_of_ble_eq_true rfl, Nat.le_of_ble_eq_true rfl⟩) (gPX_VA hP hD hK hE hS hA 0 rfl rfl) rfl rfl hl.1 rfl (lv_room (Nat.le_of_ble_eq_true rfl)) dX7_compare_2 ⟨Nat.zero_le _, Nat.zero_le _⟩) ?_
  refine lv_astore (lv' := [(4, .ref (pa k 0)), (0, .ref h), (1, .int (nI k)), (2, .int (nI j)), (3, .int (nI p))]) hx hb dX7_compare_5 hl (by decide) rfl (fun ls hl => ?_)
  refine lv_aload_n hx hb dX7_compare_7 rfl (lv_at hl 1 rfl) ?_
  refine lv_iload_n hx hb dX7_compare_8 rfl (lv_at hl 3 rfl) ?_
  refine g_callR (v0 := .ref (pa j 0)) (va_runV (As := [.int (nI j)]) (rest := []) ⟨hx, hb, hml, hown, hts⟩ (c_X7_existing_0 l hfl D y ad s.heap.size h q n b1 l1 r1 b2 l2 r2 b3 l3 r3 uz ul uh f1 g1 f2 g2 pa kd on ot pt fb fl fh tb tl th dg ds j hn hj) (cwV 1 hts gX7_compare_X7_existing rfl rfl rfl (by decide +kernel) ⟨Nat.le_of_ble_eq_true rfl, Nat.le_of_ble_eq_true rfl⟩) (gPX_VA hP hD hK hE hS hA 0 rfl rfl) rfl rfl hl.1 rfl (lv_room (Nat.le_of_ble_eq_true rfl)) dX7_compare_9 ⟨Nat.zero_le _, Nat.zero_le _⟩) ?_
  refine lv_astore (lv' := [(5, .ref (pa j 0)), (4, .ref (pa k 0)), (0, .ref h), (1, .int (nI k)), (2, .int (nI j)), (3, .int (nI p))]) hx hb dX7_compare_12 hl (by decide) rfl (fun ls hl => ?_)
  refine lv_iload_n hx hb dX7_compare_14 rfl (lv_at hl 5 rfl) ?_
  refine lv_iconst (v := 0) hx hb dX7_compare_15 (by decide) ?_
  refine lv_bipush (v := 24) hx hb dX7_compare_16 (by decide) ?_
  refine g_callv (va_runS (As := [.int (nI p), .int 0, .int 24]) (rest := []) ⟨hx, hb, hml, hown, hts⟩ (c_X7_requireWithin_0 l hfl D y ad s.heap.size (nI p) 0 24 (nI_pos (by omega)) (g_p24 hp)) (va_cwS 3 hts gX7_compare_X7_requireWithin rfl rfl rfl (by decide +kernel) ⟨Nat.le_of_ble_eq_true rfl, Nat.le_of_ble_eq_true rfl⟩) (gPX_S0 hK hE hS hA) rfl rfl hl.1 rfl (lv_room (Nat.le_of_ble_eq_true rfl)) dX7_compare_18 ⟨Nat.zero_le _, Nat.zero_le _⟩) hP hD hS hA [] rfl (fun H locs hP hD hS => ?_)
  have hP : va_P D vwCl (wXp y ad h q n b1 l1 r1 b2 l2 r2 b3 l3 r3 uz ul uh f1 g1 f2 g2 pa kd on ot pt fb fl fh tb tl th dg ds) H := hP
  have hD : va_D A (wXp y ad h q n b1 l1 r1 b2 l2 r2 b3 l3 r3 uz ul uh f1 g1 f2 g2 pa kd on ot pt fb fl fh tb tl th dg ds) := hD
  refine lv_aload_n hx hb dX7_compare_21 rfl (lv_at hl 2 rfl) ?_
  refine lv_aload hx hb dX7_compare_22 (lv_at hl 1 rfl) ?_
  refine lv_aload hx hb dX7_compare_24 (lv_at hl 0 rfl) ?_
  refine lv_iload_n hx hb dX7_compare_26 rfl (lv_at hl 5 rfl) ?_
  refine g_callA (va_runV (As := [.ref (pa k 0), .ref (pa j 0), .int (nI p)]) (rest := []) ⟨hx, hb, hml, hown, hts⟩ (c_X7_compareAt l hfl D y ad H.size h q n b1 l1 r1 b2 l2 r2 b3 l3 r3 uz ul uh f1 g1 f2 g2 pa kd on ot pt fb fl fh tb tl th dg ds k j p hn hk hj hp) (cwV 3 hts gX7_compare_X7_compareAt rfl rfl rfl (by decide +kernel) ⟨Nat.le_of_ble_eq_true rfl, Nat.le_of_ble_eq_true rfl⟩) (gPX_VA hP hD hK hE hS hA 0 rfl rfl) rfl rfl hl.1 rfl (lv_room (Nat.le_of_ble_eq_true rfl)) dX7_compare_27 ⟨Nat.zero_le _, Nat.zero_le _⟩) hP hD hS hA (fun v w1 H locs hf hP hD hS => ?_)
  obtain ⟨rfl, b1_27, l1_27, r1_27, b2_27, l2_27, r2_27, b3_27, l3_27, r3_27, uz_27, ul_27, uh_27, f1_27, g1_27, f2_27, g2_27, rfl⟩ := hf
  have hP : va_P D vwCl (wXp y ad h q n b1_27 l1_27 r1_27 b2_27 l2_27 r2_27 b3_27 l3_27 r3_27 uz_27 ul_27 uh_27 f1_27 g1_27 f2_27 g2_27 pa kd on ot pt fb fl fh tb tl th dg ds) H := hP
  have hD : va_D A (wXp y ad h q n b1_27 l1_27 r1_27 b2_27 l2_27 r2_27 b3_27 l3_27 r3_27 uz_27 ul_27 uh_27 f1_27 g1_27 f2_27 g2_27 pa kd on ot pt fb fl fh tb tl th dg ds) := hD
  exact W.iret (v := sp_X7_compareAt tb tl th k j p) hx hb hr (fun t ht hW => ⟨⟨some (.int (sp_X7_compareAt tb tl th k j p)), wXp y ad h q n b1_27 l1_27 r1_27 b2_27 l2_27 r2_27 b3_27 l3_27 r3_27 uz_27 ul_27 uh_27 f1_27 g1_27 f2_27 g2_27 pa kd on ot pt fb fl fh tb tl th dg ds, rfl, ⟨rfl, ⟨_, _, _, _, _, _, _, _, _, _, _, _, _, _, _, _, rfl⟩⟩, rfl, by rw [ht]; exact hP⟩, by rw [← hAe]; exact hS.F ht⟩) (by rw [← hAe]; exact hS.2.2) dX7_compare_30
def deX (f : Nat → Int32) : Nat → Nat → Int32
  | 0, _ => -1
  | n + 1, p => if f p = 0 then deX f n (p + 1) else nI p
set_option maxHeartbeats 4000000 in
set_option maxRecDepth 100000 in
theorem c_X7_decided_X1a (l : Launch) (hfl : l.stackTraces = false) (D : va_G) (y : Nat → ClassId) (ad : Nat → Nat) (sz : Nat) (h : Nat) (q : Nat → Nat) (n : Nat) (b1 : Bool) (l1 r1 : Int64) (b2 : Bool) (l2 r2 : Int64) (b3 : Bool) (l3 r3 : Int64) (uz : Nat → Bool) (ul uh : Nat → Int64) (f1 g1 f2 g2 : Int64) (pa : Nat → Nat → Nat) (kd : Nat → Nat) (on ot : Nat → Int32) (pt : Nat → Int64) (fb : Nat → Nat → Bool) (fl fh : Nat → Nat → Int64) (tb : Nat → Nat → Bool) (tl th : Nat → Nat → Int64) (dg : Nat → Int32) (ds : Nat → Int64) (a b : Int32) (hbad : a < 0 ∨ nI n ≤ a) : vx_Met l yX7_decided wsX7_decided ({ frames := 7, cells := 1, slots := 6, locals := 114 } : Room) (gPX D y ad [.ref h, .int a, .int b] (wXp y ad h q n b1 l1 r1 b2 l2 r2 b3 l3 r3 uz ul uh f1 g1 f2 g2 pa kd on ot pt fb fl fh tb tl th dg ds) sz) gNo (gXC D (wXp y ad h q n b1 l1 r1 b2 l2 r2 b3 l3 r3 uz ul uh f1 g1 f2 g2 pa kd on ot pt fb fl fh tb tl th dg ds) gIOB (fun w => w = wXp y ad h q n b1 l1 r1 b2 l2 r2 b3 l3 r3 uz ul uh f1 g1 f2 g2 pa kd on ot pt fb fl fh tb tl th dg ds)) 1 6 (va_A (wXp y ad h q n b1 l1 r1 b2 l2 r2 b3 l3 r3 uz ul uh f1 g1 f2 g2 pa kd on ot pt fb fl fh tb tl th dg ds) sz) := by
  refine vx_ofW (cc := cX7_decided) (maxL := 6) (ret := (some .int)) (by decide) rfl ?_
  intro pg e s m args below meth c s₁ B hml hno hv
  obtain ⟨rfl, hsz, hP, hK, hD0, hE0⟩ := hv
  have hx := B.exec
  have hb := B.bytes
  have hr := B.returns
  have hts := atoms_spec (ws := wsX7_decided) B.pre
  have hown : s.vm.findClass RX7 = some m.cls := findClass_of_methodNamed B.named
  have hlocks := B.notSynchronized
  subst hsz
  obtain ⟨A, hAe⟩ : ∃ A : Nat → Prop, A = va_A (wXp y ad h q n b1 l1 r1 b2 l2 r2 b3 l3 r3 uz ul uh f1 g1 f2 g2 pa kd on ot pt fb fl fh tb tl th dg ds) s.heap.size := ⟨_, rfl⟩
  have hE : gE ad A s s.heap := by rw [hAe]; exact hE0
  have hD : va_D A (wXp y ad h q n b1 l1 r1 b2 l2 r2 b3 l3 r3 uz ul uh f1 g1 f2 g2 pa kd on ot pt fb fl fh tb tl th dg ds) := by rw [hAe]; exact hD0.self (sz := s.heap.size)
  have hA : ∀ q : Nat, s.heap.size ≤ q → A q := fun q h => by rw [hAe]; exact Or.inr h
  have hS : va_S A s.heap s.heap [] := va_S.rf
  have hl := lv_entry ([.ref h, .int a, .int b]) (n := 6) (Nat.le_of_ble_eq_true rfl)
  rw [lg_entry_eq]
  generalize (lg_sl ([.ref h, .int a, .int b]) ++ List.replicate (6 - (lg_sl ([.ref h, .int a, .int b])).length) Slot.unset).toArray = ls at hl ⊢
  have hl : lv_has ls 6 [(0, .ref h), (1, .int a), (2, .int b)] := hl
  refine lv_aload_n hx hb dX7_decided_0 rfl (lv_at hl 0 rfl) ?_
  refine lv_iload_n hx hb dX7_decided_1 rfl (lv_at hl 1 rfl) ?_
  exact g_outX (vx_runV (As := [.int a]) (rest := []) ⟨hx, hb, hml, hown, hts⟩ (c_X7_existing_X l hfl D y ad s.heap.size h q n b1 l1 r1 b2 l2 r2 b3 l3 r3 uz ul uh f1 g1 f2 g2 pa kd on ot pt fb fl fh tb tl th dg ds a hbad) (cwV 1 hts gX7_decided_X7_existing rfl rfl rfl (by decide +kernel) ⟨Nat.le_of_ble_eq_true rfl, Nat.le_of_ble_eq_true rfl⟩) (gPX_VA hP hD hK hE hS hA 0 rfl rfl) rfl rfl hl.1 rfl (lv_room (Nat.le_of_ble_eq_true rfl)) dX7_decided_2 ⟨Nat.le_of_ble_eq_true rfl, Nat.le_of_ble_eq_true rfl⟩) hAe hD hS hA (fun w1 h9 => h9) rfl hno hlocks (Nat.le_of_ble_eq_true rfl) (Nat.le_of_ble_eq_true rfl)
set_option maxHeartbeats 4000000 in
set_option maxRecDepth 100000 in
theorem c_X7_decided_X1b (l : Launch) (hfl : l.stackTraces = false) (D : va_G) (y : Nat → ClassId) (ad : Nat → Nat) (sz : Nat) (h : Nat) (q : Nat → Nat) (n : Nat) (b1 : Bool) (l1 r1 : Int64) (b2 : Bool) (l2 r2 : Int64) (b3 : Bool) (l3 r3 : Int64) (uz : Nat → Bool) (ul uh : Nat → Int64) (f1 g1 f2 g2 : Int64) (pa : Nat → Nat → Nat) (kd : Nat → Nat) (on ot : Nat → Int32) (pt : Nat → Int64) (fb : Nat → Nat → Bool) (fl fh : Nat → Nat → Int64) (tb : Nat → Nat → Bool) (tl th : Nat → Nat → Int64) (dg : Nat → Int32) (ds : Nat → Int64) (k : Nat) (b : Int32) (hn : n ≤ 40) (hk : k < n) (hbad : b < 0 ∨ nI n ≤ b) : vx_Met l yX7_decided wsX7_decided ({ frames := 7, cells := 1, slots := 6, locals := 114 } : Room) (gPX D y ad [.ref h, .int (nI k), .int b] (wXp y ad h q n b1 l1 r1 b2 l2 r2 b3 l3 r3 uz ul uh f1 g1 f2 g2 pa kd on ot pt fb fl fh tb tl th dg ds) sz) gNo (gXC D (wXp y ad h q n b1 l1 r1 b2 l2 r2 b3 l3 r3 uz ul uh f1 g1 f2 g2 pa kd on ot pt fb fl fh tb tl th dg ds) gIOB (fun w => w = wXp y ad h q n b1 l1 r1 b2 l2 r2 b3 l3 r3 uz ul uh f1 g1 f2 g2 pa kd on ot pt fb fl fh tb tl th dg ds)) 1 6 (va_A (wXp y ad h q n b1 l1 r1 b2 l2 r2 b3 l3 r3 uz ul uh f1 g1 f2 g2 pa kd on ot pt fb fl fh tb tl th dg ds) sz) := by
  refine vx_ofW (cc := cX7_decided) (maxL := 6) (ret := (some .int)) (by decide) rfl ?_
  intro pg e s m args below meth c s₁ B hml hno hv
  obtain ⟨rfl, hsz, hP, hK, hD0, hE0⟩ := hv
  have hx := B.exec
  have hb := B.bytes
  have hr := B.returns
  have hts := atoms_spec (ws := wsX7_decided) B.pre
  have hown : s.vm.findClass RX7 = some m.cls := findClass_of_methodNamed B.named
  have hlocks := B.notSynchronized
  subst hsz
  obtain ⟨A, hAe⟩ : ∃ A : Nat → Prop, A = va_A (wXp y ad h q n b1 l1 r1 b2 l2 r2 b3 l3 r3 uz ul uh f1 g1 f2 g2 pa kd on ot pt fb fl fh tb tl th dg ds) s.heap.size := ⟨_, rfl⟩
  have hE : gE ad A s s.heap := by rw [hAe]; exact hE0
  have hD : va_D A (wXp y ad h q n b1 l1 r1 b2 l2 r2 b3 l3 r3 uz ul uh f1 g1 f2 g2 pa kd on ot pt fb fl fh tb tl th dg ds) := by rw [hAe]; exact hD0.self (sz := s.heap.size)
  have hA : ∀ q : Nat, s.heap.size ≤ q → A q := fun q h => by rw [hAe]; exact Or.inr h
  have hS : va_S A s.heap s.heap [] := va_S.rf
  have hl := lv_entry ([.ref h, .int (nI k), .int b]) (n := 6) (Nat.le_of_ble_eq_true rfl)
  rw [lg_entry_eq]
  generalize (lg_sl ([.ref h, .int (nI k), .int b]) ++ List.replicate (6 - (lg_sl ([.ref h, .int (nI k), .int b])).length) Slot.unset).toArray = ls at hl ⊢
  have hl : lv_has ls 6 [(0, .ref h), (1, .int (nI k)), (2, .int b)] := hl
  refine lv_aload_n hx hb dX7_decided_0 rfl (lv_at hl 0 rfl) ?_
  refine lv_iload_n hx hb dX7_decided_1 rfl (lv_at hl 1 rfl) ?_
  refine g_callR (v0 := .ref (pa k 0)) (va_runV (As := [.int (nI k)]) (rest := []) ⟨hx, hb, hml, hown, hts⟩ (c_X7_existing_0 l hfl D y ad s.heap.size h q n b1 l1 r1 b2 l2 r2 b3 l3 r3 uz ul uh f1 g1 f2 g2 pa kd on ot pt fb fl fh tb tl th dg ds k hn hk) (cwV 1 hts gX7_decided_X7_existing rfl rfl rfl (by decide +kernel) ⟨Nat.le_of_ble_eq_true rfl, Nat.le_of_ble_eq_true rfl⟩) (gPX_VA hP hD hK hE hS hA 0 rfl rfl) rfl rfl hl.1 rfl (lv_room (Nat.le_of_ble_eq_true rfl)) dX7_decided_2 ⟨Nat.zero_le _, Nat.zero_le _⟩) ?_
  refine lv_astore_n (lv' := [(3, .ref (pa k 0)), (0, .ref h), (1, .int (nI k)), (2, .int b)]) hx hb dX7_decided_5 rfl hl (by decide) rfl (fun ls hl => ?_)
  refine lv_aload_n hx hb dX7_decided_6 rfl (lv_at hl 1 rfl) ?_
  refine lv_iload_n hx hb dX7_decided_7 rfl (lv_at hl 3 rfl) ?_
  exact g_outX (vx_runV (As := [.int b]) (rest := []) ⟨hx, hb, hml, hown, hts⟩ (c_X7_existing_X l hfl D y ad s.heap.size h q n b1 l1 r1 b2 l2 r2 b3 l3 r3 uz ul uh f1 g1 f2 g2 pa kd on ot pt fb fl fh tb tl th dg ds b hbad) (cwV 1 hts gX7_decided_X7_existing rfl rfl rfl (by decide +kernel) ⟨Nat.le_of_ble_eq_true rfl, Nat.le_of_ble_eq_true rfl⟩) (gPX_VA hP hD hK hE hS hA 0 rfl rfl) rfl rfl hl.1 rfl (lv_room (Nat.le_of_ble_eq_true rfl)) dX7_decided_8 ⟨Nat.le_of_ble_eq_true rfl, Nat.le_of_ble_eq_true rfl⟩) hAe hD hS hA (fun w1 h9 => h9) rfl hno hlocks (Nat.le_of_ble_eq_true rfl) (Nat.le_of_ble_eq_true rfl)
set_option maxHeartbeats 4000000 in
set_option maxRecDepth 100000 in
theorem c_X7_decided_0 (l : Launch) (hfl : l.stackTraces = false) (D : va_G) (y : Nat → ClassId) (ad : Nat → Nat) (sz : Nat) (h : Nat) (q : Nat → Nat) (n : Nat) (b1 : Bool) (l1 r1 : Int64) (b2 : Bool) (l2 r2 : Int64) (b3 : Bool) (l3 r3 : Int64) (uz : Nat → Bool) (ul uh : Nat → Int64) (f1 g1 f2 g2 : Int64) (pa : Nat → Nat → Nat) (kd : Nat → Nat) (on ot : Nat → Int32) (pt : Nat → Int64) (fb : Nat → Nat → Bool) (fl fh : Nat → Nat → Int64) (tb : Nat → Nat → Bool) (tl th : Nat → Nat → Int64) (dg : Nat → Int32) (ds : Nat → Int64) (k j : Nat) (hn : n ≤ 40) (hk : k < n) (hj : j < n) : Met l yX7_decided wsX7_decided ({ frames := 3, cells := 0, slots := 0, locals := 69 } : Room) (gPX D y ad [.ref h, .int (nI k), .int (nI j)] (wXp y ad h q n b1 l1 r1 b2 l2 r2 b3 l3 r3 uz ul uh f1 g1 f2 g2 pa kd on ot pt fb fl fh tb tl th dg ds) sz) (gQ D (wXp y ad h q n b1 l1 r1 b2 l2 r2 b3 l3 r3 uz ul uh f1 g1 f2 g2 pa kd on ot pt fb fl fh tb tl th dg ds) (fun v w => v = some (.int (deX (sp_X7_compareAt tb tl th k j) 25 0)) ∧ xScr y ad h q n pa kd on ot pt fb fl fh tb tl th dg ds w)) 0 0 (va_A (wXp y ad h q n b1 l1 r1 b2 l2 r2 b3 l3 r3 uz ul uh f1 g1 f2 g2 pa kd on ot pt fb fl fh tb tl th dg ds) sz) := by
  refine Met.ofW (cc := cX7_decided) (maxL := 6) (ret := (some .int)) (by decide) rfl ?_
  intro pg e s m args below meth c s₁ B hml hv
  obtain ⟨rfl, hsz, hP, hK, hD0, hE0⟩ := hv
  have hx := B.exec
  have hb := B.bytes
  have hr := B.returns
  have hts := atoms_spec (ws := wsX7_decided) B.pre
  have hown : s.vm.findClass RX7 = some m.cls := findClass_of_methodNamed B.named
  have hlocks := B.notSynchronized
  subst hsz
  obtain ⟨A, hAe⟩ : ∃ A : Nat → Prop, A = va_A (wXp y ad h q n b1 l1 r1 b2 l2 r2 b3 l3 r3 uz ul uh f1 g1 f2 g2 pa kd on ot pt fb fl fh tb tl th dg ds) s.heap.size := ⟨_, rfl⟩
  have hE : gE ad A s s.heap := by rw [hAe]; exact hE0
  have hD : va_D A (wXp y ad h q n b1 l1 r1 b2 l2 r2 b3 l3 r3 uz ul uh f1 g1 f2 g2 pa kd on ot pt fb fl fh tb tl th dg ds) := by rw [hAe]; exact hD0.self (sz := s.heap.size)
  have hA : ∀ q : Nat, s.heap.size ≤ q → A q := fun q h => by rw [hAe]; exact Or.inr h
  have hS : va_S A s.heap s.heap [] := va_S.rf
  have hl := lv_entry ([.ref h, .int (nI k), .int (nI j)]) (n := 6) (Nat.le_of_ble_eq_true rfl)
  rw [lg_entry_eq]
  generalize (lg_sl ([.ref h, .int (nI k), .int (nI j)]) ++ List.replicate (6 - (lg_sl ([.ref h, .int (nI k), .int (nI j)])).length) Slot.unset).toArray = ls at hl ⊢
  have hl : lv_has ls 6 [(0, .ref h), (1, .int (nI k)), (2, .int (nI j))] := hl
  refine lv_aload_n hx hb dX7_decided_0 rfl (lv_at hl 0 rfl) ?_
  refine lv_iload_n hx hb dX7_decided_1 rfl (lv_at hl 1 rfl) ?_
  refine g_callR (v0 := .ref (pa k 0)) (va_runV (As := [.int (nI k)]) (rest := []) ⟨hx, hb, hml, hown, hts⟩ (c_X7_existing_0 l hfl D y ad s.heap.size h q n b1 l1 r1 b2 l2 r2 b3 l3 r3 uz ul uh f1 g1 f2 g2 pa kd on ot pt fb fl fh tb tl th dg ds k hn hk) (cwV 1 hts gX7_decided_X7_existing rfl rfl rfl (by decide +kernel) ⟨Nat.le_of_ble_eq_true rfl, Nat.le_of_ble_eq_true rfl⟩) (gPX_VA hP hD hK hE hS hA 0 rfl rfl) rfl rfl hl.1 rfl (lv_room (Nat.le_of_ble_eq_true rfl)) dX7_decided_2 ⟨Nat.zero_le _, Nat.zero_le _⟩) ?_
  refine lv_astore_n (lv' := [(3, .ref (pa k 0)), (0, .ref h), (1, .int (nI k)), (2, .int (nI j))]) hx hb dX7_decided_5 rfl hl (by decide) rfl (fun ls hl => ?_)
  refine lv_aload_n hx hb dX7_decided_6 rfl (lv_at hl 1 rfl) ?_
  refine lv_iload_n hx hb dX7_decided_7 rfl (lv_at hl 3 rfl) ?_
  refine g_callR (v0 := .ref (pa j 0)) (va_runV (As := [.int (nI j)]) (rest := []) ⟨hx, hb, hml, hown, hts⟩ (c_X7_existing_0 l hfl D y ad s.heap.size h q n b1 l1 r1 b2 l2 r2 b3 l3 r3 uz ul uh f1 g1 f2 g2 pa kd on ot pt fb fl fh tb tl th dg ds j hn hj) (cwV 1 hts gX7_decided_X7_existing rfl rfl rfl (by decide +kernel) ⟨Nat.le_of_ble_eq_true rfl, Nat.le_of_ble_eq_true rfl⟩) (gPX_VA hP hD hK hE hS hA 0 rfl rfl) rfl rfl hl.1 rfl (lv_room (Nat.le_of_ble_eq_true rfl)) dX7_decided_8 ⟨Nat.zero_le _, Nat.zero_le _⟩) ?_
  refine lv_astore (lv' := [(4, .ref (pa j 0)), (3, .ref (pa k 0)), (0, .ref h), (1, .int (nI k)), (2, .int (nI j))]) hx hb dX7_decided_11 hl (by decide) rfl (fun ls hl => ?_)
  refine lv_iconst (v := 0) hx hb dX7_decided_13 (by decide) ?_
  refine lv_istore (lv' := [(5, .int 0), (4, .ref (pa j 0)), (3, .ref (pa k 0)), (0, .ref h), (1, .int (nI k)), (2, .int (nI j))]) hx hb dX7_decided_14 hl (by decide) rfl (fun ls hl => ?_)
  have LOOP16 : ∀ (m9 : Nat) (p : Nat) (xb1 : Bool) (xl1 : Int64) (xr1 : Int64) (xb2 : Bool) (xl2 : Int64) (xr2 : Int64) (xb3 : Bool) (xl3 : Int64) (xr3 : Int64) (xuz : Nat → Bool) (xul : Nat → Int64) (xuh : Nat → Int64) (xf1 : Int64) (xg1 : Int64) (xf2 : Int64) (xg2 : Int64), (p + m9 = 25) → (deX (sp_X7_compareAt tb tl th k j) m9 p = deX (sp_X7_compareAt tb tl th k j) 25 0) → ∀ (H : Heap) (locs : List Loc), va_P D vwCl (wXp y ad h q n xb1 xl1 xr1 xb2 xl2 xr2 xb3 xl3 xr3 xuz xul xuh xf1 xg1 xf2 xg2 pa kd on ot pt fb fl fh tb tl th dg ds) H → va_D A (wXp y ad h q n xb1 xl1 xr1 xb2 xl2 xr2 xb3 xl3 xr3 xuz xul xuh xf1 xg1 xf2 xg2 pa kd on ot pt fb fl fh tb tl th dg ds) → va_S A s.heap H locs → ∀ (ls : Array Slot), lv_has ls 6 [(0, .ref h), (1, .int (nI k)), (2, .int (nI j)), (3, .ref (pa k 0)), (4, .ref (pa j 0)), (5, .int (nI p))] → W pg l e (headSpec wsX7_decided ({ frames := 3, cells := 0, slots := 0, locals := 69 } : Room)).room s m (([.ref h, .int (nI k), .int (nI j)] : List Value).toArray) below meth c H locs 0 0 (MQ below (gQ D (wXp y ad h q n b1 l1 r1 b2 l2 r2 b3 l3 r3 uz ul uh f1 g1 f2 g2 pa kd on ot pt fb fl fh tb tl th dg ds) (fun v w => v = some (.int (deX (sp_X7_compareAt tb tl th k j) 25 0)) ∧ xScr y ad h q n pa kd on ot pt fb fl fh tb tl th dg ds w)) (([.ref h, .int (nI k), .int (nI j)] : List Value).toArray) s 0 0 (va_A (wXp y ad h q n b1 l1 r1 b2 l2 r2 b3 l3 r3 uz ul uh f1 g1 f2 g2 pa kd on ot pt fb fl fh tb tl th dg ds) s.heap.size)) (F0 m 16 ls []) := by
    intro m9
    induction m9 with
    | zero =>
      intro p xb1 xl1 xr1 xb2 xl2 xr2 xb3 xl3 xr3 xuz xul xuh xf1 xg1 xf2 xg2 hp2 hF H locs hP hD hS ls hl
      refine lv_iload hx hb dX7_decided_16 (lv_at hl 5 rfl) ?_
      refine lv_bipush (v := 24) hx hb dX7_decided_18 (by decide) ?_
      refine lv_icmp_gt (tgt := 44) hx hb dX7_decided_20 (by decide) (fun c_20 => ?_) (fun c_20 => absurd (nI_lt (a := 24) (b := p) (by omega) (by omega)) c_20)
      refine lv_iconst (v := -1) hx hb dX7_decided_44 (by decide) ?_
      exact W.iret (v := -1) hx hb hr (fun t ht hW => ⟨⟨some (.int (-1)), wXp y ad h q n xb1 xl1 xr1 xb2 xl2 xr2 xb3 xl3 xr3 xuz xul xuh xf1 xg1 xf2 xg2 pa kd on ot pt fb fl fh tb tl th dg ds, rfl, ⟨congrArg (fun z => some (Value.int z)) (hF), ⟨_, _, _, _, _, _, _, _, _, _, _, _, _, _, _, _, rfl⟩⟩, rfl, by rw [ht]; exact hP⟩, by rw [← hAe]; exact hS.F ht⟩) (by rw [← hAe]; exact hS.2.2) dX7_decided_45
    | succ m9 ih16 =>
      intro p xb1 xl1 xr1 xb2 xl2 xr2 xb3 xl3 xr3 xuz xul xuh xf1 xg1 xf2 xg2 hp2 hF H locs hP hD hS ls hl
      refine lv_iload hx hb dX7_decided_16 (lv_at hl 5 rfl) ?_
      refine lv_bipush (v := 24) hx hb dX7_decided_18 (by decide) ?_
      refine lv_icmp_gt (tgt := 44) hx hb dX7_decided_20 (by decide) (fun c_20 => absurd c_20 (nI_nlt (a := 24) (b := p) (by omega) (by omega))) (fun c_20 => ?_)
      refine lv_aload_n hx hb dX7_decided_23 rfl (lv_at hl 0 rfl) ?_
      refine lv_aload_n hx hb dX7_decided_24 rfl (lv_at hl 3 rfl) ?_
      refine lv_aload hx hb dX7_decided_25 (lv_at hl 4 rfl) ?_
      refine lv_iload hx hb dX7_decided_27 (lv_at hl 5 rfl) ?_
      refine g_callA (va_runV (As := [.ref (pa k 0), .ref (pa j 0), .int (nI p)]) (rest := []) ⟨hx, hb, hml, hown, hts⟩ (c_X7_compareAt l hfl D y ad H.size h q n xb1 xl1 xr1 xb2 xl2 xr2 xb3 xl3 xr3 xuz xul xuh xf1 xg1 xf2 xg2 pa kd on ot pt fb fl fh tb tl th dg ds k j p hn hk hj (by omega)) (cwV 3 hts gX7_decided_X7_compareAt rfl rfl rfl (by decide +kernel) ⟨Nat.le_of_ble_eq_true rfl, Nat.le_of_ble_eq_true rfl⟩) (gPX_VA hP hD hK hE hS hA 0 rfl rfl) rfl rfl hl.1 rfl (lv_room (Nat.le_of_ble_eq_true rfl)) dX7_decided_29 ⟨Nat.zero_le _, Nat.zero_le _⟩) hP hD hS hA (fun v w1 H locs hf hP hD hS => ?_)
      obtain ⟨rfl, b1_29, l1_29, r1_29, b2_29, l2_29, r2_29, b3_29, l3_29, r3_29, uz_29, ul_29, uh_29, f1_29, g1_29, f2_29, g2_29, rfl⟩ := hf
      have hP : va_P D vwCl (wXp y ad h q n b1_29 l1_29 r1_29 b2_29 l2_29 r2_29 b3_29 l3_29 r3_29 uz_29 ul_29 uh_29 f1_29 g1_29 f2_29 g2_29 pa kd on ot pt fb fl fh tb tl th dg ds) H := hP
      have hD : va_D A (wXp y ad h q n b1_29 l1_29 r1_29 b2_29 l2_29 r2_29 b3_29 l3_29 r3_29 uz_29 ul_29 uh_29 f1_29 g1_29 f2_29 g2_29 pa kd on ot pt fb fl fh tb tl th dg ds) := hD
      refine lv_if_eq (tgt := 38) hx hb dX7_decided_32 (by decide) (fun c_32 => ?_) (fun c_32 => ?_)
      · skip
        refine lv_iinc (v := nI (p + 1)) (lv' := [(5, .int (nI (p + 1))), (0, .ref h), (1, .int (nI k)), (2, .int (nI j)), (3, .ref (pa k 0)), (4, .ref (pa j 0))]) hx hb dX7_decided_38 hl (k := 5) rfl (nI_add p 1) (by decide) rfl (fun ls hl => ?_)
        refine lv_goto (tgt := 16) hx hb dX7_decided_41 (by decide) ?_
        exact ih16 (p + 1) b1_29 l1_29 r1_29 b2_29 l2_29 r2_29 b3_29 l3_29 r3_29 uz_29 ul_29 uh_29 f1_29 g1_29 f2_29 g2_29 (by omega) (by rw [← hF]; show _ = (if _ then _ else _); simp only [if_pos c_32]) _ _ hP hD hS ls (lv_sub hl [1, 2, 3, 4, 5, 0] rfl)
      · skip
        refine lv_iload hx hb dX7_decided_35 (lv_at hl 5 rfl) ?_
        exact W.iret (v := nI p) hx hb hr (fun t ht hW => ⟨⟨some (.int (nI p)), wXp y ad h q n b1_29 l1_29 r1_29 b2_29 l2_29 r2_29 b3_29 l3_29 r3_29 uz_29 ul_29 uh_29 f1_29 g1_29 f2_29 g2_29 pa kd on ot pt fb fl fh tb tl th dg ds, rfl, ⟨congrArg (fun z => some (Value.int z)) (by rw [← hF]; show _ = (if _ then _ else _); simp only [if_neg c_32]), ⟨_, _, _, _, _, _, _, _, _, _, _, _, _, _, _, _, rfl⟩⟩, rfl, by rw [ht]; exact hP⟩, by rw [← hAe]; exact hS.F ht⟩) (by rw [← hAe]; exact hS.2.2) dX7_decided_37
  exact LOOP16 25 0 b1 l1 r1 b2 l2 r2 b3 l3 r3 uz ul uh f1 g1 f2 g2 (by omega) (rfl) _ _ hP hD hS ls (lv_sub hl [3, 4, 5, 2, 1, 0] rfl)
set_option maxHeartbeats 4000000 in
set_option maxRecDepth 100000 in
theorem c_X7_shifted (l : Launch) (hfl : l.stackTraces = false) (D : va_G) (y : Nat → ClassId) (ad : Nat → Nat) (sz : Nat) (a : Int64) (d : Nat) (i : Int32) (hd : d < 8) : Met l yX7_shifted wsX7_shifted ({ frames := 2, cells := 0, slots := 0, locals := 48 } : Room) (gPX D y ad [.long a, .int (nI d), .int i] [] sz) (gR (.long (sp_X7_cut (a * tenF d 1) (sp_X7_unitsAt i)))) 0 0 (fun _ => False) := by
  refine Met.ofW (cc := cX7_shifted) (maxL := 6) (ret := (some .long)) (by decide) rfl ?_
  intro pg e s m args below meth c s₁ B hml hv
  obtain ⟨rfl, hsz, hP, hK, hD0, hE0⟩ := hv
  have hx := B.exec
  have hb := B.bytes
  have hr := B.returns
  have hts := atoms_spec (ws := wsX7_shifted) B.pre
  have hown : s.vm.findClass RX7 = some m.cls := findClass_of_methodNamed B.named
  have hlocks := B.notSynchronized
  subst hsz
  obtain ⟨A, hAe⟩ : ∃ A : Nat → Prop, A = va_A [] s.heap.size := ⟨_, rfl⟩
  have hE : gE ad A s s.heap := by rw [hAe]; exact hE0
  have hD : va_D A [] := by rw [hAe]; exact hD0.self (sz := s.heap.size)
  have hA : ∀ q : Nat, s.heap.size ≤ q → A q := fun q h => by rw [hAe]; exact Or.inr h
  have hS : va_S A s.heap s.heap [] := va_S.rf
  have hl := lv_entry ([.long a, .int (nI d), .int i]) (n := 6) (Nat.le_of_ble_eq_true rfl)
  rw [lg_entry_eq]
  generalize (lg_sl ([.long a, .int (nI d), .int i]) ++ List.replicate (6 - (lg_sl ([.long a, .int (nI d), .int i])).length) Slot.unset).toArray = ls at hl ⊢
  have hl : lv_has ls 6 [(0, .long a), (2, .int (nI d)), (3, .int i)] := hl
  refine lv_iload_n hx hb dX7_shifted_0 rfl (lv_at hl 1 rfl) ?_
  refine lv_if_lt (tgt := 20) hx hb dX7_shifted_1 (by decide) (fun c_1 => absurd c_1 (nI_pos (by omega))) (fun c_1 => ?_)
  refine lv_iload_n hx hb dX7_shifted_4 rfl (lv_at hl 1 rfl) ?_
  refine va_gets hx hb (hE.2.2.2.1.1) hS hown (hts (.fieldLink RX7 314 "Nestlimit" "TENS" "[J") (List.mem_of_getElem? (i := 1) rfl)) (fun _ h9 => h9) dX7_shifted_5 ?_
  refine va_tlen (v := 8) hx hb (hE.2.2.2.1.2) hS rfl dX7_shifted_8 ?_
  refine lv_icmp_ge (tgt := 20) hx hb dX7_shifted_9 (by decide) (fun c_9 => absurd c_9 (nI_ge (b := 8) hd (by decide))) (fun c_9 => ?_)
  refine va_gets hx hb (hE.2.2.2.1.1) hS hown (hts (.fieldLink RX7 314 "Nestlimit" "TENS" "[J") (List.mem_of_getElem? (i := 1) rfl)) (fun _ h9 => h9) dX7_shifted_12 ?_
  refine lv_iload_n hx hb dX7_shifted_15 rfl (lv_at hl 1 rfl) ?_
  refine va_tl (v := .long (tenF d 1)) hx hb (hE.2.2.2.1.2) hS (g_tin (hd)) (g_ten (hd)) dX7_shifted_16 ?_
  refine lv_goto (tgt := 21) hx hb dX7_shifted_17 (by decide) ?_
  refine lv_lstore (lv' := [(4, .long (tenF d 1)), (0, .long a), (2, .int (nI d)), (3, .int i)]) hx hb dX7_shifted_21 hl (by decide) rfl (fun ls hl => ?_)
  refine lv_lload_n hx hb dX7_shifted_23 rfl (lv_at hl 1 rfl) ?_
  refine lv_lload hx hb dX7_shifted_24 (lv_at hl 0 rfl) ?_
  refine lv_lmul hx hb dX7_shifted_26 ?_
  refine lv_iload_n hx hb dX7_shifted_27 rfl (lv_at hl 3 rfl) ?_
  refine g_callR (v0 := .long (sp_X7_unitsAt i)) (va_runS (As := [.int i]) (rest := [.long (a * (tenF d 1))]) ⟨hx, hb, hml, hown, hts⟩ (c_X7_unitsAt l D y s.heap.size i) (va_cwS 1 hts gX7_shifted_X7_unitsAt rfl rfl rfl (by decide +kernel) ⟨Nat.le_of_ble_eq_true rfl, Nat.le_of_ble_eq_true rfl⟩) (gP_S hP hD hK [] (by decide) rfl) rfl rfl hl.1 rfl (lv_room (Nat.le_of_ble_eq_true rfl)) dX7_shifted_28 ⟨Nat.zero_le _, Nat.zero_le _⟩) ?_
  refine g_callR (v0 := .long (sp_X7_cut (a * (tenF d 1)) (sp_X7_unitsAt i))) (va_runS (As := [.long (a * (tenF d 1)), .long (sp_X7_unitsAt i)]) (rest := []) ⟨hx, hb, hml, hown, hts⟩ (c_X7_cut l D y s.heap.size (a * (tenF d 1)) (sp_X7_unitsAt i)) (va_cwS 2 hts gX7_shifted_X7_cut rfl rfl rfl (by decide +kernel) ⟨Nat.le_of_ble_eq_true rfl, Nat.le_of_ble_eq_true rfl⟩) (gP_S hP hD hK [] (by decide) rfl) rfl rfl hl.1 rfl (lv_room (Nat.le_of_ble_eq_true rfl)) dX7_shifted_31 ⟨Nat.zero_le _, Nat.zero_le _⟩) ?_
  exact W.lret (v := sp_X7_cut (a * (tenF d 1)) (sp_X7_unitsAt i)) hx hb hr (fun t ht hW => ⟨congrArg (fun z => Outcome.returned (some (Value.long z))) (rfl), ht⟩) (fun q h => by cases h) dX7_shifted_34
def sdX (b : Bool) (x z : Int64) (i : Int32) : Nat → Nat → Int32
  | 0, d => nI d - 1
  | n + 1, d => if sp_X7_cut (x * tenF d 1) (sp_X7_unitsAt i) = sp_X7_cut (z * tenF d 1) (sp_X7_unitsAt i) then sdX b x z i n (d + 1) else nI d - 1
def sdR (b : Bool) (x z : Int64) (i : Int32) : Int32 := if b = true then sdX b x z i 8 0 else -1
theorem g_d1 (d : Nat) : nI d = nI (d + 1) - 1 := (nI_pred d).symm
theorem in_X7_sureDecimals_X2 : ∀ w ∈ wsX20, w ∈ wsX7_sureDecimals := fun _ h => List.mem_cons_of_mem _ (List.mem_append_right _ h)
theorem in_X7_sureDecimals_X7 : ∀ w ∈ wsX70, w ∈ wsX7_sureDecimals := fun _ h => List.mem_cons_of_mem _ (List.mem_append_left _ (List.mem_append_right _ h))
set_option maxHeartbeats 4000000 in
set_option maxRecDepth 100000 in
theorem c_X7_sureDecimals (l : Launch) (hfl : l.stackTraces = false) (D : va_G) (y : Nat → ClassId) (ad : Nat → Nat) (sz : Nat) (h : Nat) (q : Nat → Nat) (n : Nat) (b1 : Bool) (l1 r1 : Int64) (b2 : Bool) (l2 r2 : Int64) (b3 : Bool) (l3 r3 : Int64) (uz : Nat → Bool) (ul uh : Nat → Int64) (f1 g1 f2 g2 : Int64) (pa : Nat → Nat → Nat) (kd : Nat → Nat) (on ot : Nat → Int32) (pt : Nat → Int64) (fb : Nat → Nat → Bool) (fl fh : Nat → Nat → Int64) (tb : Nat → Nat → Bool) (tl th : Nat → Nat → Int64) (dg : Nat → Int32) (ds : Nat → Int64) (i : Int32) : Met l yX7_sureDecimals wsX7_sureDecimals ({ frames := 3, cells := 0, slots := 0, locals := 73 } : Room) (gPX D y ad [.ref h, .int i] (wXp y ad h q n b1 l1 r1 b2 l2 r2 b3 l3 r3 uz ul uh f1 g1 f2 g2 pa kd on ot pt fb fl fh tb tl th dg ds) sz) (gR (.int (sdR b1 l1 r1 i))) 0 0 (fun _ => False) := by
  refine Met.ofW (cc := cX7_sureDecimals) (maxL := 4) (ret := (some .int)) (by decide) rfl ?_
  intro pg e s m args below meth c s₁ B hml hv
  obtain ⟨rfl, hsz, hP, hK, hD0, hE0⟩ := hv
  have hx := B.exec
  have hb := B.bytes
  have hr := B.returns
  have hts := atoms_spec (ws := wsX7_sureDecimals) B.pre
  have hown : s.vm.findClass RX7 = some m.cls := findClass_of_methodNamed B.named
  have hlocks := B.notSynchronized
  subst hsz
  obtain ⟨A, hAe⟩ : ∃ A : Nat → Prop, A = va_A (wXp y ad h q n b1 l1 r1 b2 l2 r2 b3 l3 r3 uz ul uh f1 g1 f2 g2 pa kd on ot pt fb fl fh tb tl th dg ds) s.heap.size := ⟨_, rfl⟩
  have hE : gE ad A s s.heap := by rw [hAe]; exact hE0
  have hD : va_D A (wXp y ad h q n b1 l1 r1 b2 l2 r2 b3 l3 r3 uz ul uh f1 g1 f2 g2 pa kd on ot pt fb fl fh tb tl th dg ds) := by rw [hAe]; exact hD0.self (sz := s.heap.size)
  have hA : ∀ q : Nat, s.heap.size ≤ q → A q := fun q h => by rw [hAe]; exact Or.inr h
  have hS : va_S A s.heap s.heap [] := va_S.rf
  have hl := lv_entry ([.ref h, .int i]) (n := 4) (Nat.le_of_ble_eq_true rfl)
  rw [lg_entry_eq]
  generalize (lg_sl ([.ref h, .int i]) ++ List.replicate (4 - (lg_sl ([.ref h, .int i])).length) Slot.unset).toArray = ls at hl ⊢
  have hl : lv_has ls 4 [(0, .ref h), (1, .int i)] := hl
  refine lv_iconst (v := -1) hx hb dX7_sureDecimals_0 (by decide) ?_
  refine g_topi (y := nI 0 - 1) (by decide) ?_
  refine lv_istore_n (lv' := [(2, .int (nI 0 - 1)), (0, .ref h), (1, .int i)]) hx hb dX7_sureDecimals_1 rfl hl (by decide) rfl (fun ls hl => ?_)
  refine lv_aload_n hx hb dX7_sureDecimals_2 rfl (lv_at hl 1 rfl) ?_
  refine va_get (D := D) (ci := 5) (v := .ref (q 1)) (C := RX7) (T := TX7) (N := 8) hx hb hts in_X7_sureDecimals_X7 hown hK.1 hP 0 rfl rfl 2 (by decide) (hts (.fieldLink RX7 22 "Nestlimit" "answer" "LNestlimit$Interval;") (List.mem_of_getElem? (i := 1) rfl)) (fun _ h9 => h9) rfl dX7_sureDecimals_3 ?_
  refine va_get (D := D) (ci := 1) (v := .int (gB b1)) (C := RX2) (T := TX2) (N := 3) hx hb hts in_X7_sureDecimals_X2 hown hK.1 hP 2 rfl rfl 0 (by decide) (hts (.fieldLink RX7 173 "Nestlimit$Interval" "isThere" "Z") (List.mem_of_getElem? (i := 2) rfl)) (fun _ h9 => h9) rfl dX7_sureDecimals_6 ?_
  refine g_bne (tgt := 14) hx hb dX7_sureDecimals_9 (by decide) (fun c_9 => ?_) (fun c_9 => ?_)
  · skip
    refine lv_iconst (v := 0) hx hb dX7_sureDecimals_14 (by decide) ?_
    refine lv_istore_n (lv' := [(3, .int 0), (2, .int (nI 0 - 1)), (0, .ref h), (1, .int i)]) hx hb dX7_sureDecimals_15 rfl hl (by decide) rfl (fun ls hl => ?_)
    have LOOP16 : ∀ (m9 : Nat) (d : Nat), (d + m9 = 8) → (sdX b1 l1 r1 i m9 d = sdX b1 l1 r1 i 8 0) → ∀ (ls : Array Slot), lv_has ls 4 [(0, .ref h), (1, .int i), (2, .int (nI d - 1)), (3, .int (nI d))] → W pg l e (headSpec wsX7_sureDecimals ({ frames := 3, cells := 0, slots := 0, locals := 73 } : Room)).room s m (([.ref h, .int i] : List Value).toArray) below meth c s.heap [] 0 0 (MQ below (gR (.int (sdR b1 l1 r1 i))) (([.ref h, .int i] : List Value).toArray) s 0 0 (fun _ => False)) (F0 m 16 ls []) := by
      intro m9
      induction m9 with
      | zero =>
        intro d hd hF ls hl
        refine lv_iload_n hx hb dX7_sureDecimals_16 rfl (lv_at hl 3 rfl) ?_
        refine lv_bipush (v := 7) hx hb dX7_sureDecimals_17 (by decide) ?_
        refine lv_icmp_gt (tgt := 60) hx hb dX7_sureDecimals_19 (by decide) (fun c_19 => ?_) (fun c_19 => absurd (nI_lt (a := 7) (b := d) (by omega) (by omega)) c_19)
        refine lv_iload_n hx hb dX7_sureDecimals_60 rfl (lv_at hl 2 rfl) ?_
        exact W.iret (v := nI d - 1) hx hb hr (fun t ht hW => ⟨congrArg (fun z => Outcome.returned (some (Value.int z))) (by unfold sdR; rw [if_pos c_9, ← hF]; rfl), ht⟩) (fun q h => by cases h) dX7_sureDecimals_61
      | succ m9 ih16 =>
        intro d hd hF ls hl
        refine lv_iload_n hx hb dX7_sureDecimals_16 rfl (lv_at hl 3 rfl) ?_
        refine lv_bipush (v := 7) hx hb dX7_sureDecimals_17 (by decide) ?_
        refine lv_icmp_gt (tgt := 60) hx hb dX7_sureDecimals_19 (by decide) (fun c_19 => absurd c_19 (nI_nlt (a := 7) (b := d) (by omega) (by omega))) (fun c_19 => ?_)
        refine lv_aload_n hx hb dX7_sureDecimals_22 rfl (lv_at hl 0 rfl) ?_
        refine va_get (D := D) (ci := 5) (v := .ref (q 1)) (C := RX7) (T := TX7) (N := 8) hx hb hts in_X7_sureDecimals_X7 hown hK.1 hP 0 rfl rfl 2 (by decide) (hts (.fieldLink RX7 22 "Nestlimit" "answer" "LNestlimit$Interval;") (List.mem_of_getElem? (i := 1) rfl)) (fun _ h9 => h9) rfl dX7_sureDecimals_23 ?_
        refine va_get (D := D) (ci := 1) (v := .long l1) (C := RX2) (T := TX2) (N := 3) hx hb hts in_X7_sureDecimals_X2 hown hK.1 hP 2 rfl rfl 1 (by decide) (hts (.fieldLink RX7 181 "Nestlimit$Interval" "low" "J") (List.mem_of_getElem? (i := 3) rfl)) (fun _ h9 => h9) rfl dX7_sureDecimals_26 ?_
        refine lv_iload_n hx hb dX7_sureDecimals_29 rfl (lv_at hl 3 rfl) ?_
        refine lv_iload_n hx hb dX7_sureDecimals_30 rfl (lv_at hl 1 rfl) ?_
        refine g_callR (v0 := .long (sp_X7_cut (l1 * tenF d 1) (sp_X7_unitsAt i))) (va_runS (As := [.long l1, .int (nI d), .int i]) (rest := []) ⟨hx, hb, hml, hown, hts⟩ (c_X7_shifted l hfl D y ad s.heap.size l1 d i (by omega)) (va_cwS 3 hts gX7_sureDecimals_X7_shifted rfl rfl rfl (by decide +kernel) ⟨Nat.le_of_ble_eq_true rfl, Nat.le_of_ble_eq_true rfl⟩) (gPX_S0 hK hE hS hA) rfl rfl hl.1 rfl (lv_room (Nat.le_of_ble_eq_true rfl)) dX7_sureDecimals_31 ⟨Nat.zero_le _, Nat.zero_le _⟩) ?_
        refine lv_aload_n hx hb dX7_sureDecimals_34 rfl (lv_at hl 0 rfl) ?_
        refine va_get (D := D) (ci := 5) (v := .ref (q 1)) (C := RX7) (T := TX7) (N := 8) hx hb hts in_X7_sureDecimals_X7 hown hK.1 hP 0 rfl rfl 2 (by decide) (hts (.fieldLink RX7 22 "Nestlimit" "answer" "LNestlimit$Interval;") (List.mem_of_getElem? (i := 1) rfl)) (fun _ h9 => h9) rfl dX7_sureDecimals_35 ?_
        refine va_get (D := D) (ci := 1) (v := .long r1) (C := RX2) (T := TX2) (N := 3) hx hb hts in_X7_sureDecimals_X2 hown hK.1 hP 2 rfl rfl 2 (by decide) (hts (.fieldLink RX7 177 "Nestlimit$Interval" "high" "J") (List.mem_of_getElem? (i := 4) rfl)) (fun _ h9 => h9) rfl dX7_sureDecimals_38 ?_
        refine lv_iload_n hx hb dX7_sureDecimals_41 rfl (lv_at hl 3 rfl) ?_
        refine lv_iload_n hx hb dX7_sureDecimals_42 rfl (lv_at hl 1 rfl) ?_
        refine g_callR (v0 := .long (sp_X7_cut (r1 * tenF d 1) (sp_X7_unitsAt i))) (va_runS (As := [.long r1, .int (nI d), .int i]) (rest := [.long (sp_X7_cut (l1 * tenF d 1) (sp_X7_unitsAt i))]) ⟨hx, hb, hml, hown, hts⟩ (c_X7_shifted l hfl D y ad s.heap.size r1 d i (by omega)) (va_cwS 3 hts gX7_sureDecimals_X7_shifted rfl rfl rfl (by decide +kernel) ⟨Nat.le_of_ble_eq_true rfl, Nat.le_of_ble_eq_true rfl⟩) (gPX_S0 hK hE hS hA) rfl rfl hl.1 rfl (lv_room (Nat.le_of_ble_eq_true rfl)) dX7_sureDecimals_43 ⟨Nat.zero_le _, Nat.zero_le _⟩) ?_
        refine g_eq (tgt := 52) hx hb dX7_sureDecimals_46 dX7_sureDecimals_47 (by decide) (fun c_46 => ?_) (fun c_46 => ?_)
        · skip
          refine lv_iload_n hx hb dX7_sureDecimals_52 rfl (lv_at hl 3 rfl) ?_
          refine g_topi (y := nI (d + 1) - 1) (g_d1 d) ?_
          refine lv_istore_n (lv' := [(2, .int (nI (d + 1) - 1)), (0, .ref h), (1, .int i), (3, .int (nI d))]) hx hb dX7_sureDecimals_53 rfl hl (by decide) rfl (fun ls hl => ?_)
          refine lv_iinc (v := nI (d + 1)) (lv' := [(3, .int (nI (d + 1))), (2, .int (nI (d + 1) - 1)), (0, .ref h), (1, .int i)]) hx hb dX7_sureDecimals_54 hl (k := 3) rfl (nI_add d 1) (by decide) rfl (fun ls hl => ?_)
          refine lv_goto (tgt := 16) hx hb dX7_sureDecimals_57 (by decide) ?_
          exact ih16 (d + 1) (by omega) (by rw [← hF]; show _ = (if _ then _ else _); rw [if_pos c_46]) ls (lv_sub hl [2, 3, 1, 0] rfl)
        · skip
          refine lv_iload_n hx hb dX7_sureDecimals_50 rfl (lv_at hl 2 rfl) ?_
          exact W.iret (v := nI d - 1) hx hb hr (fun t ht hW => ⟨congrArg (fun z => Outcome.returned (some (Value.int z))) (by unfold sdR; rw [if_pos c_9, ← hF]; show _ = (if _ then _ else _); rw [if_neg c_46]), ht⟩) (fun q h => by cases h) dX7_sureDecimals_51
    exact LOOP16 8 0 (by omega) (rfl) ls (lv_sub hl [2, 3, 1, 0] rfl)
  · skip
    refine lv_iload_n hx hb dX7_sureDecimals_12 rfl (lv_at hl 0 rfl) ?_
    exact W.iret (v := nI 0 - 1) hx hb hr (fun t ht hW => ⟨congrArg (fun z => Outcome.returned (some (Value.int z))) (by unfold sdR; rw [if_neg c_9]; decide), ht⟩) (fun q h => by cases h) dX7_sureDecimals_13
set_option maxHeartbeats 4000000 in
set_option maxRecDepth 100000 in
theorem c_X7_decimals_X1 (l : Launch) (hfl : l.stackTraces = false) (D : va_G) (y : Nat → ClassId) (ad : Nat → Nat) (sz : Nat) (h : Nat) (q : Nat → Nat) (n : Nat) (b1 : Bool) (l1 r1 : Int64) (b2 : Bool) (l2 r2 : Int64) (b3 : Bool) (l3 r3 : Int64) (uz : Nat → Bool) (ul uh : Nat → Int64) (f1 g1 f2 g2 : Int64) (pa : Nat → Nat → Nat) (kd : Nat → Nat) (on ot : Nat → Int32) (pt : Nat → Int64) (fb : Nat → Nat → Bool) (fl fh : Nat → Nat → Int64) (tb : Nat → Nat → Bool) (tl th : Nat → Nat → Int64) (dg : Nat → Int32) (ds : Nat → Int64) (a b : Int32) (hbad : a < 0 ∨ nI n ≤ a) : vx_Met l yX7_decimals wsX7_decimals ({ frames := 8, cells := 1, slots := 6, locals := 137 } : Room) (gPX D y ad [.ref h, .int a, .int b] (wXp y ad h q n b1 l1 r1 b2 l2 r2 b3 l3 r3 uz ul uh f1 g1 f2 g2 pa kd on ot pt fb fl fh tb tl th dg ds) sz) gNo (gXC D (wXp y ad h q n b1 l1 r1 b2 l2 r2 b3 l3 r3 uz ul uh f1 g1 f2 g2 pa kd on ot pt fb fl fh tb tl th dg ds) gIOB (xScr y ad h q n pa kd on ot pt fb fl fh tb tl th dg ds)) 1 6 (va_A (wXp y ad h q n b1 l1 r1 b2 l2 r2 b3 l3 r3 uz ul uh f1 g1 f2 g2 pa kd on ot pt fb fl fh tb tl th dg ds) sz) := by
  refine vx_ofW (cc := cX7_decimals) (maxL := 3) (ret := (some .int)) (by decide) rfl ?_
  intro pg e s m args below meth c s₁ B hml hno hv
  obtain ⟨rfl, hsz, hP, hK, hD0, hE0⟩ := hv
  have hx := B.exec
  have hb := B.bytes
  have hr := B.returns
  have hts := atoms_spec (ws := wsX7_decimals) B.pre
  have hown : s.vm.findClass RX7 = some m.cls := findClass_of_methodNamed B.named
  have hlocks := B.notSynchronized
  subst hsz
  obtain ⟨A, hAe⟩ : ∃ A : Nat → Prop, A = va_A (wXp y ad h q n b1 l1 r1 b2 l2 r2 b3 l3 r3 uz ul uh f1 g1 f2 g2 pa kd on ot pt fb fl fh tb tl th dg ds) s.heap.size := ⟨_, rfl⟩
  have hE : gE ad A s s.heap := by rw [hAe]; exact hE0
  have hD : va_D A (wXp y ad h q n b1 l1 r1 b2 l2 r2 b3 l3 r3 uz ul uh f1 g1 f2 g2 pa kd on ot pt fb fl fh tb tl th dg ds) := by rw [hAe]; exact hD0.self (sz := s.heap.size)
  have hA : ∀ q : Nat, s.heap.size ≤ q → A q := fun q h => by rw [hAe]; exact Or.inr h
  have hS : va_S A s.heap s.heap [] := va_S.rf
  have hl := lv_entry ([.ref h, .int a, .int b]) (n := 3) (Nat.le_of_ble_eq_true rfl)
  rw [lg_entry_eq]
  generalize (lg_sl ([.ref h, .int a, .int b]) ++ List.replicate (3 - (lg_sl ([.ref h, .int a, .int b])).length) Slot.unset).toArray = ls at hl ⊢
  have hl : lv_has ls 3 [(0, .ref h), (1, .int a), (2, .int b)] := hl
  refine lv_aload_n hx hb dX7_decimals_0 rfl (lv_at hl 0 rfl) ?_
  refine lv_iload_n hx hb dX7_decimals_1 rfl (lv_at hl 1 rfl) ?_
  refine lv_iload_n hx hb dX7_decimals_2 rfl (lv_at hl 2 rfl) ?_
  exact g_outX (vx_runV (As := [.int a, .int b]) (rest := []) ⟨hx, hb, hml, hown, hts⟩ (c_X7_loadTold_X1 l hfl D y ad s.heap.size h q n b1 l1 r1 b2 l2 r2 b3 l3 r3 uz ul uh f1 g1 f2 g2 pa kd on ot pt fb fl fh tb tl th dg ds a b hbad) (cwV 2 hts gX7_decimals_X7_loadTold rfl rfl rfl (by decide +kernel) ⟨Nat.le_of_ble_eq_true rfl, Nat.le_of_ble_eq_true rfl⟩) (gPX_VA hP hD hK hE hS hA 0 rfl rfl) rfl rfl hl.1 rfl (lv_room (Nat.le_of_ble_eq_true rfl)) dX7_decimals_3 ⟨Nat.le_of_ble_eq_true rfl, Nat.le_of_ble_eq_true rfl⟩) hAe hD hS hA (fun w1 h9 => by subst h9; exact ⟨_, _, _, _, _, _, _, _, _, _, _, _, _, _, _, _, rfl⟩) rfl hno hlocks (Nat.le_of_ble_eq_true rfl) (Nat.le_of_ble_eq_true rfl)
set_option maxHeartbeats 4000000 in
set_option maxRecDepth 100000 in
theorem c_X7_decimals_X2 (l : Launch) (hfl : l.stackTraces = false) (D : va_G) (y : Nat → ClassId) (ad : Nat → Nat) (sz : Nat) (h : Nat) (q : Nat → Nat) (n : Nat) (b1 : Bool) (l1 r1 : Int64) (b2 : Bool) (l2 r2 : Int64) (b3 : Bool) (l3 r3 : Int64) (uz : Nat → Bool) (ul uh : Nat → Int64) (f1 g1 f2 g2 : Int64) (pa : Nat → Nat → Nat) (kd : Nat → Nat) (on ot : Nat → Int32) (pt : Nat → Int64) (fb : Nat → Nat → Bool) (fl fh : Nat → Nat → Int64) (tb : Nat → Nat → Bool) (tl th : Nat → Nat → Int64) (dg : Nat → Int32) (ds : Nat → Int64) (k : Nat) (b : Int32) (hn : n ≤ 40) (hk : k < n) (hp : b < 0 ∨ ¬ b ≤ 24) : vx_Met l yX7_decimals wsX7_decimals ({ frames := 8, cells := 1, slots := 6, locals := 137 } : Room) (gPX D y ad [.ref h, .int (nI k), .int b] (wXp y ad h q n b1 l1 r1 b2 l2 r2 b3 l3 r3 uz ul uh f1 g1 f2 g2 pa kd on ot pt fb fl fh tb tl th dg ds) sz) gNo (gXC D (wXp y ad h q n b1 l1 r1 b2 l2 r2 b3 l3 r3 uz ul uh f1 g1 f2 g2 pa kd on ot pt fb fl fh tb tl th dg ds) gIAE (xScr y ad h q n pa kd on ot pt fb fl fh tb tl th dg ds)) 1 6 (va_A (wXp y ad h q n b1 l1 r1 b2 l2 r2 b3 l3 r3 uz ul uh f1 g1 f2 g2 pa kd on ot pt fb fl fh tb tl th dg ds) sz) := by
  refine vx_ofW (cc := cX7_decimals) (maxL := 3) (ret := (some .int)) (by decide) rfl ?_
  intro pg e s m args below meth c s₁ B hml hno hv
  obtain ⟨rfl, hsz, hP, hK, hD0, hE0⟩ := hv
  have hx := B.exec
  have hb := B.bytes
  have hr := B.returns
  have hts := atoms_spec (ws := wsX7_decimals) B.pre
  have hown : s.vm.findClass RX7 = some m.cls := findClass_of_methodNamed B.named
  have hlocks := B.notSynchronized
  subst hsz
  obtain ⟨A, hAe⟩ : ∃ A : Nat → Prop, A = va_A (wXp y ad h q n b1 l1 r1 b2 l2 r2 b3 l3 r3 uz ul uh f1 g1 f2 g2 pa kd on ot pt fb fl fh tb tl th dg ds) s.heap.size := ⟨_, rfl⟩
  have hE : gE ad A s s.heap := by rw [hAe]; exact hE0
  have hD : va_D A (wXp y ad h q n b1 l1 r1 b2 l2 r2 b3 l3 r3 uz ul uh f1 g1 f2 g2 pa kd on ot pt fb fl fh tb tl th dg ds) := by rw [hAe]; exact hD0.self (sz := s.heap.size)
  have hA : ∀ q : Nat, s.heap.size ≤ q → A q := fun q h => by rw [hAe]; exact Or.inr h
  have hS : va_S A s.heap s.heap [] := va_S.rf
  have hl := lv_entry ([.ref h, .int (nI k), .int b]) (n := 3) (Nat.le_of_ble_eq_true rfl)
  rw [lg_entry_eq]
  generalize (lg_sl ([.ref h, .int (nI k), .int b]) ++ List.replicate (3 - (lg_sl ([.ref h, .int (nI k), .int b])).length) Slot.unset).toArray = ls at hl ⊢
  have hl : lv_has ls 3 [(0, .ref h), (1, .int (nI k)), (2, .int b)] := hl
  refine lv_aload_n hx hb dX7_decimals_0 rfl (lv_at hl 0 rfl) ?_
  refine lv_iload_n hx hb dX7_decimals_1 rfl (lv_at hl 1 rfl) ?_
  refine lv_iload_n hx hb dX7_decimals_2 rfl (lv_at hl 2 rfl) ?_
  exact g_outX (vx_runV (As := [.int (nI k), .int b]) (rest := []) ⟨hx, hb, hml, hown, hts⟩ (c_X7_loadTold_X2 l hfl D y ad s.heap.size h q n b1 l1 r1 b2 l2 r2 b3 l3 r3 uz ul uh f1 g1 f2 g2 pa kd on ot pt fb fl fh tb tl th dg ds k b hn hk hp) (cwV 2 hts gX7_decimals_X7_loadTold rfl rfl rfl (by decide +kernel) ⟨Nat.le_of_ble_eq_true rfl, Nat.le_of_ble_eq_true rfl⟩) (gPX_VA hP hD hK hE hS hA 0 rfl rfl) rfl rfl hl.1 rfl (lv_room (Nat.le_of_ble_eq_true rfl)) dX7_decimals_3 ⟨Nat.le_of_ble_eq_true rfl, Nat.le_of_ble_eq_true rfl⟩) hAe hD hS hA (fun w1 h9 => by subst h9; exact ⟨_, _, _, _, _, _, _, _, _, _, _, _, _, _, _, _, rfl⟩) rfl hno hlocks (Nat.le_of_ble_eq_true rfl) (Nat.le_of_ble_eq_true rfl)
set_option maxHeartbeats 4000000 in
set_option maxRecDepth 100000 in
theorem c_X7_decimal_X1 (l : Launch) (hfl : l.stackTraces = false) (D : va_G) (y : Nat → ClassId) (ad : Nat → Nat) (sz : Nat) (h : Nat) (q : Nat → Nat) (n : Nat) (b1 : Bool) (l1 r1 : Int64) (b2 : Bool) (l2 r2 : Int64) (b3 : Bool) (l3 r3 : Int64) (uz : Nat → Bool) (ul uh : Nat → Int64) (f1 g1 f2 g2 : Int64) (pa : Nat → Nat → Nat) (kd : Nat → Nat) (on ot : Nat → Int32) (pt : Nat → Int64) (fb : Nat → Nat → Bool) (fl fh : Nat → Nat → Int64) (tb : Nat → Nat → Bool) (tl th : Nat → Nat → Int64) (dg : Nat → Int32) (ds : Nat → Int64) (a b c0 : Int32) (hbad : a < 0 ∨ nI n ≤ a) : vx_Met l yX7_decimal wsX7_decimal ({ frames := 8, cells := 1, slots := 6, locals := 137 } : Room) (gPX D y ad [.ref h, .int a, .int b, .int c0] (wXp y ad h q n b1 l1 r1 b2 l2 r2 b3 l3 r3 uz ul uh f1 g1 f2 g2 pa kd on ot pt fb fl fh tb tl th dg ds) sz) gNo (gXC D (wXp y ad h q n b1 l1 r1 b2 l2 r2 b3 l3 r3 uz ul uh f1 g1 f2 g2 pa kd on ot pt fb fl fh tb tl th dg ds) gIOB (xScr y ad h q n pa kd on ot pt fb fl fh tb tl th dg ds)) 1 6 (va_A (wXp y ad h q n b1 l1 r1 b2 l2 r2 b3 l3 r3 uz ul uh f1 g1 f2 g2 pa kd on ot pt fb fl fh tb tl th dg ds) sz) := by
  refine vx_ofW (cc := cX7_decimal) (maxL := 6) (ret := (some .int)) (by decide) rfl ?_
  intro pg e s m args below meth c s₁ B hml hno hv
  obtain ⟨rfl, hsz, hP, hK, hD0, hE0⟩ := hv
  have hx := B.exec
  have hb := B.bytes
  have hr := B.returns
  have hts := atoms_spec (ws := wsX7_decimal) B.pre
  have hown : s.vm.findClass RX7 = some m.cls := findClass_of_methodNamed B.named
  have hlocks := B.notSynchronized
  subst hsz
  obtain ⟨A, hAe⟩ : ∃ A : Nat → Prop, A = va_A (wXp y ad h q n b1 l1 r1 b2 l2 r2 b3 l3 r3 uz ul uh f1 g1 f2 g2 pa kd on ot pt fb fl fh tb tl th dg ds) s.heap.size := ⟨_, rfl⟩
  have hE : gE ad A s s.heap := by rw [hAe]; exact hE0
  have hD : va_D A (wXp y ad h q n b1 l1 r1 b2 l2 r2 b3 l3 r3 uz ul uh f1 g1 f2 g2 pa kd on ot pt fb fl fh tb tl th dg ds) := by rw [hAe]; exact hD0.self (sz := s.heap.size)
  have hA : ∀ q : Nat, s.heap.size ≤ q → A q := fun q h => by rw [hAe]; exact Or.inr h
  have hS : va_S A s.heap s.heap [] := va_S.rf
  have hl := lv_entry ([.ref h, .int a, .int b, .int c0]) (n := 6) (Nat.le_of_ble_eq_true rfl)
  rw [lg_entry_eq]
  generalize (lg_sl ([.ref h, .int a, .int b, .int c0]) ++ List.replicate (6 - (lg_sl ([.ref h, .int a, .int b, .int c0])).length) Slot.unset).toArray = ls at hl ⊢
  have hl : lv_has ls 6 [(0, .ref h), (1, .int a), (2, .int b), (3, .int c0)] := hl
  refine lv_aload_n hx hb dX7_decimal_0 rfl (lv_at hl 0 rfl) ?_
  refine lv_iload_n hx hb dX7_decimal_1 rfl (lv_at hl 1 rfl) ?_
  refine lv_iload_n hx hb dX7_decimal_2 rfl (lv_at hl 2 rfl) ?_
  exact g_outX (vx_runV (As := [.int a, .int b]) (rest := []) ⟨hx, hb, hml, hown, hts⟩ (c_X7_loadTold_X1 l hfl D y ad s.heap.size h q n b1 l1 r1 b2 l2 r2 b3 l3 r3 uz ul uh f1 g1 f2 g2 pa kd on ot pt fb fl fh tb tl th dg ds a b hbad) (cwV 2 hts gX7_decimal_X7_loadTold rfl rfl rfl (by decide +kernel) ⟨Nat.le_of_ble_eq_true rfl, Nat.le_of_ble_eq_true rfl⟩) (gPX_VA hP hD hK hE hS hA 0 rfl rfl) rfl rfl hl.1 rfl (lv_room (Nat.le_of_ble_eq_true rfl)) dX7_decimal_3 ⟨Nat.le_of_ble_eq_true rfl, Nat.le_of_ble_eq_true rfl⟩) hAe hD hS hA (fun w1 h9 => by subst h9; exact ⟨_, _, _, _, _, _, _, _, _, _, _, _, _, _, _, _, rfl⟩) rfl hno hlocks (Nat.le_of_ble_eq_true rfl) (Nat.le_of_ble_eq_true rfl)
set_option maxHeartbeats 4000000 in
set_option maxRecDepth 100000 in
theorem c_X7_decimal_X2 (l : Launch) (hfl : l.stackTraces = false) (D : va_G) (y : Nat → ClassId) (ad : Nat → Nat) (sz : Nat) (h : Nat) (q : Nat → Nat) (n : Nat) (b1 : Bool) (l1 r1 : Int64) (b2 : Bool) (l2 r2 : Int64) (b3 : Bool) (l3 r3 : Int64) (uz : Nat → Bool) (ul uh : Nat → Int64) (f1 g1 f2 g2 : Int64) (pa : Nat → Nat → Nat) (kd : Nat → Nat) (on ot : Nat → Int32) (pt : Nat → Int64) (fb : Nat → Nat → Bool) (fl fh : Nat → Nat → Int64) (tb : Nat → Nat → Bool) (tl th : Nat → Nat → Int64) (dg : Nat → Int32) (ds : Nat → Int64) (k : Nat) (b c0 : Int32) (hn : n ≤ 40) (hk : k < n) (hp : b < 0 ∨ ¬ b ≤ 24) : vx_Met l yX7_decimal wsX7_decimal ({ frames := 8, cells := 1, slots := 6, locals := 137 } : Room) (gPX D y ad [.ref h, .int (nI k), .int b, .int c0] (wXp y ad h q n b1 l1 r1 b2 l2 r2 b3 l3 r3 uz ul uh f1 g1 f2 g2 pa kd on ot pt fb fl fh tb tl th dg ds) sz) gNo (gXC D (wXp y ad h q n b1 l1 r1 b2 l2 r2 b3 l3 r3 uz ul uh f1 g1 f2 g2 pa kd on ot pt fb fl fh tb tl th dg ds) gIAE (xScr y ad h q n pa kd on ot pt fb fl fh tb tl th dg ds)) 1 6 (va_A (wXp y ad h q n b1 l1 r1 b2 l2 r2 b3 l3 r3 uz ul uh f1 g1 f2 g2 pa kd on ot pt fb fl fh tb tl th dg ds) sz) := by
  refine vx_ofW (cc := cX7_decimal) (maxL := 6) (ret := (some .int)) (by decide) rfl ?_
  intro pg e s m args below meth c s₁ B hml hno hv
  obtain ⟨rfl, hsz, hP, hK, hD0, hE0⟩ := hv
  have hx := B.exec
  have hb := B.bytes
  have hr := B.returns
  have hts := atoms_spec (ws := wsX7_decimal) B.pre
  have hown : s.vm.findClass RX7 = some m.cls := findClass_of_methodNamed B.named
  have hlocks := B.notSynchronized
  subst hsz
  obtain ⟨A, hAe⟩ : ∃ A : Nat → Prop, A = va_A (wXp y ad h q n b1 l1 r1 b2 l2 r2 b3 l3 r3 uz ul uh f1 g1 f2 g2 pa kd on ot pt fb fl fh tb tl th dg ds) s.heap.size := ⟨_, rfl⟩
  have hE : gE ad A s s.heap := by rw [hAe]; exact hE0
  have hD : va_D A (wXp y ad h q n b1 l1 r1 b2 l2 r2 b3 l3 r3 uz ul uh f1 g1 f2 g2 pa kd on ot pt fb fl fh tb tl th dg ds) := by rw [hAe]; exact hD0.self (sz := s.heap.size)
  have hA : ∀ q : Nat, s.heap.size ≤ q → A q := fun q h => by rw [hAe]; exact Or.inr h
  have hS : va_S A s.heap s.heap [] := va_S.rf
  have hl := lv_entry ([.ref h, .int (nI k), .int b, .int c0]) (n := 6) (Nat.le_of_ble_eq_true rfl)
  rw [lg_entry_eq]
  generalize (lg_sl ([.ref h, .int (nI k), .int b, .int c0]) ++ List.replicate (6 - (lg_sl ([.ref h, .int (nI k), .int b, .int c0])).length) Slot.unset).toArray = ls at hl ⊢
  have hl : lv_has ls 6 [(0, .ref h), (1, .int (nI k)), (2, .int b), (3, .int c0)] := hl
  refine lv_aload_n hx hb dX7_decimal_0 rfl (lv_at hl 0 rfl) ?_
  refine lv_iload_n hx hb dX7_decimal_1 rfl (lv_at hl 1 rfl) ?_
  refine lv_iload_n hx hb dX7_decimal_2 rfl (lv_at hl 2 rfl) ?_
  exact g_outX (vx_runV (As := [.int (nI k), .int b]) (rest := []) ⟨hx, hb, hml, hown, hts⟩ (c_X7_loadTold_X2 l hfl D y ad s.heap.size h q n b1 l1 r1 b2 l2 r2 b3 l3 r3 uz ul uh f1 g1 f2 g2 pa kd on ot pt fb fl fh tb tl th dg ds k b hn hk hp) (cwV 2 hts gX7_decimal_X7_loadTold rfl rfl rfl (by decide +kernel) ⟨Nat.le_of_ble_eq_true rfl, Nat.le_of_ble_eq_true rfl⟩) (gPX_VA hP hD hK hE hS hA 0 rfl rfl) rfl rfl hl.1 rfl (lv_room (Nat.le_of_ble_eq_true rfl)) dX7_decimal_3 ⟨Nat.le_of_ble_eq_true rfl, Nat.le_of_ble_eq_true rfl⟩) hAe hD hS hA (fun w1 h9 => by subst h9; exact ⟨_, _, _, _, _, _, _, _, _, _, _, _, _, _, _, _, rfl⟩) rfl hno hlocks (Nat.le_of_ble_eq_true rfl) (Nat.le_of_ble_eq_true rfl)
set_option maxHeartbeats 4000000 in
set_option maxRecDepth 100000 in
theorem c_X7_quotient_X1 (l : Launch) (hfl : l.stackTraces = false) (D : va_G) (y : Nat → ClassId) (ad : Nat → Nat) (sz : Nat) (h : Nat) (q : Nat → Nat) (n : Nat) (b1 : Bool) (l1 r1 : Int64) (b2 : Bool) (l2 r2 : Int64) (b3 : Bool) (l3 r3 : Int64) (uz : Nat → Bool) (ul uh : Nat → Int64) (f1 g1 f2 g2 : Int64) (pa : Nat → Nat → Nat) (kd : Nat → Nat) (on ot : Nat → Int32) (pt : Nat → Int64) (fb : Nat → Nat → Bool) (fl fh : Nat → Nat → Int64) (tb : Nat → Nat → Bool) (tl th : Nat → Nat → Int64) (dg : Nat → Int32) (ds : Nat → Int64) (a b c0 : Int32) (hbad : a < 0 ∨ nI n ≤ a) : vx_Met l yX7_quotient wsX7_quotient ({ frames := 8, cells := 1, slots := 6, locals := 137 } : Room) (gPX D y ad [.ref h, .int a, .int b, .int c0] (wXp y ad h q n b1 l1 r1 b2 l2 r2 b3 l3 r3 uz ul uh f1 g1 f2 g2 pa kd on ot pt fb fl fh tb tl th dg ds) sz) gNo (gXC D (wXp y ad h q n b1 l1 r1 b2 l2 r2 b3 l3 r3 uz ul uh f1 g1 f2 g2 pa kd on ot pt fb fl fh tb tl th dg ds) gIOB (xScr y ad h q n pa kd on ot pt fb fl fh tb tl th dg ds)) 1 6 (va_A (wXp y ad h q n b1 l1 r1 b2 l2 r2 b3 l3 r3 uz ul uh f1 g1 f2 g2 pa kd on ot pt fb fl fh tb tl th dg ds) sz) := by
  refine vx_ofW (cc := cX7_quotient) (maxL := 5) (ret := (some .int)) (by decide) rfl ?_
  intro pg e s m args below meth c s₁ B hml hno hv
  obtain ⟨rfl, hsz, hP, hK, hD0, hE0⟩ := hv
  have hx := B.exec
  have hb := B.bytes
  have hr := B.returns
  have hts := atoms_spec (ws := wsX7_quotient) B.pre
  have hown : s.vm.findClass RX7 = some m.cls := findClass_of_methodNamed B.named
  have hlocks := B.notSynchronized
  subst hsz
  obtain ⟨A, hAe⟩ : ∃ A : Nat → Prop, A = va_A (wXp y ad h q n b1 l1 r1 b2 l2 r2 b3 l3 r3 uz ul uh f1 g1 f2 g2 pa kd on ot pt fb fl fh tb tl th dg ds) s.heap.size := ⟨_, rfl⟩
  have hE : gE ad A s s.heap := by rw [hAe]; exact hE0
  have hD : va_D A (wXp y ad h q n b1 l1 r1 b2 l2 r2 b3 l3 r3 uz ul uh f1 g1 f2 g2 pa kd on ot pt fb fl fh tb tl th dg ds) := by rw [hAe]; exact hD0.self (sz := s.heap.size)
  have hA : ∀ q : Nat, s.heap.size ≤ q → A q := fun q h => by rw [hAe]; exact Or.inr h
  have hS : va_S A s.heap s.heap [] := va_S.rf
  have hl := lv_entry ([.ref h, .int a, .int b, .int c0]) (n := 5) (Nat.le_of_ble_eq_true rfl)
  rw [lg_entry_eq]
  generalize (lg_sl ([.ref h, .int a, .int b, .int c0]) ++ List.replicate (5 - (lg_sl ([.ref h, .int a, .int b, .int c0])).length) Slot.unset).toArray = ls at hl ⊢
  have hl : lv_has ls 5 [(0, .ref h), (1, .int a), (2, .int b), (3, .int c0)] := hl
  refine lv_aload_n hx hb dX7_quotient_0 rfl (lv_at hl 0 rfl) ?_
  refine lv_iload_n hx hb dX7_quotient_1 rfl (lv_at hl 1 rfl) ?_
  refine lv_iload_n hx hb dX7_quotient_2 rfl (lv_at hl 2 rfl) ?_
  exact g_outX (vx_runV (As := [.int a, .int b]) (rest := []) ⟨hx, hb, hml, hown, hts⟩ (c_X7_loadTold_X1 l hfl D y ad s.heap.size h q n b1 l1 r1 b2 l2 r2 b3 l3 r3 uz ul uh f1 g1 f2 g2 pa kd on ot pt fb fl fh tb tl th dg ds a b hbad) (cwV 2 hts gX7_quotient_X7_loadTold rfl rfl rfl (by decide +kernel) ⟨Nat.le_of_ble_eq_true rfl, Nat.le_of_ble_eq_true rfl⟩) (gPX_VA hP hD hK hE hS hA 0 rfl rfl) rfl rfl hl.1 rfl (lv_room (Nat.le_of_ble_eq_true rfl)) dX7_quotient_3 ⟨Nat.le_of_ble_eq_true rfl, Nat.le_of_ble_eq_true rfl⟩) hAe hD hS hA (fun w1 h9 => by subst h9; exact ⟨_, _, _, _, _, _, _, _, _, _, _, _, _, _, _, _, rfl⟩) rfl hno hlocks (Nat.le_of_ble_eq_true rfl) (Nat.le_of_ble_eq_true rfl)
set_option maxHeartbeats 4000000 in
set_option maxRecDepth 100000 in
theorem c_X7_quotient_X2 (l : Launch) (hfl : l.stackTraces = false) (D : va_G) (y : Nat → ClassId) (ad : Nat → Nat) (sz : Nat) (h : Nat) (q : Nat → Nat) (n : Nat) (b1 : Bool) (l1 r1 : Int64) (b2 : Bool) (l2 r2 : Int64) (b3 : Bool) (l3 r3 : Int64) (uz : Nat → Bool) (ul uh : Nat → Int64) (f1 g1 f2 g2 : Int64) (pa : Nat → Nat → Nat) (kd : Nat → Nat) (on ot : Nat → Int32) (pt : Nat → Int64) (fb : Nat → Nat → Bool) (fl fh : Nat → Nat → Int64) (tb : Nat → Nat → Bool) (tl th : Nat → Nat → Int64) (dg : Nat → Int32) (ds : Nat → Int64) (k : Nat) (b c0 : Int32) (hn : n ≤ 40) (hk : k < n) (hp : b < 0 ∨ ¬ b ≤ 24) : vx_Met l yX7_quotient wsX7_quotient ({ frames := 8, cells := 1, slots := 6, locals := 137 } : Room) (gPX D y ad [.ref h, .int (nI k), .int b, .int c0] (wXp y ad h q n b1 l1 r1 b2 l2 r2 b3 l3 r3 uz ul uh f1 g1 f2 g2 pa kd on ot pt fb fl fh tb tl th dg ds) sz) gNo (gXC D (wXp y ad h q n b1 l1 r1 b2 l2 r2 b3 l3 r3 uz ul uh f1 g1 f2 g2 pa kd on ot pt fb fl fh tb tl th dg ds) gIAE (xScr y ad h q n pa kd on ot pt fb fl fh tb tl th dg ds)) 1 6 (va_A (wXp y ad h q n b1 l1 r1 b2 l2 r2 b3 l3 r3 uz ul uh f1 g1 f2 g2 pa kd on ot pt fb fl fh tb tl th dg ds) sz) := by
  refine vx_ofW (cc := cX7_quotient) (maxL := 5) (ret := (some .int)) (by decide) rfl ?_
  intro pg e s m args below meth c s₁ B hml hno hv
  obtain ⟨rfl, hsz, hP, hK, hD0, hE0⟩ := hv
  have hx := B.exec
  have hb := B.bytes
  have hr := B.returns
  have hts := atoms_spec (ws := wsX7_quotient) B.pre
  have hown : s.vm.findClass RX7 = some m.cls := findClass_of_methodNamed B.named
  have hlocks := B.notSynchronized
  subst hsz
  obtain ⟨A, hAe⟩ : ∃ A : Nat → Prop, A = va_A (wXp y ad h q n b1 l1 r1 b2 l2 r2 b3 l3 r3 uz ul uh f1 g1 f2 g2 pa kd on ot pt fb fl fh tb tl th dg ds) s.heap.size := ⟨_, rfl⟩
  have hE : gE ad A s s.heap := by rw [hAe]; exact hE0
  have hD : va_D A (wXp y ad h q n b1 l1 r1 b2 l2 r2 b3 l3 r3 uz ul uh f1 g1 f2 g2 pa kd on ot pt fb fl fh tb tl th dg ds) := by rw [hAe]; exact hD0.self (sz := s.heap.size)
  have hA : ∀ q : Nat, s.heap.size ≤ q → A q := fun q h => by rw [hAe]; exact Or.inr h
  have hS : va_S A s.heap s.heap [] := va_S.rf
  have hl := lv_entry ([.ref h, .int (nI k), .int b, .int c0]) (n := 5) (Nat.le_of_ble_eq_true rfl)
  rw [lg_entry_eq]
  generalize (lg_sl ([.ref h, .int (nI k), .int b, .int c0]) ++ List.replicate (5 - (lg_sl ([.ref h, .int (nI k), .int b, .int c0])).length) Slot.unset).toArray = ls at hl ⊢
  have hl : lv_has ls 5 [(0, .ref h), (1, .int (nI k)), (2, .int b), (3, .int c0)] := hl
  refine lv_aload_n hx hb dX7_quotient_0 rfl (lv_at hl 0 rfl) ?_
  refine lv_iload_n hx hb dX7_quotient_1 rfl (lv_at hl 1 rfl) ?_
  refine lv_iload_n hx hb dX7_quotient_2 rfl (lv_at hl 2 rfl) ?_
  exact g_outX (vx_runV (As := [.int (nI k), .int b]) (rest := []) ⟨hx, hb, hml, hown, hts⟩ (c_X7_loadTold_X2 l hfl D y ad s.heap.size h q n b1 l1 r1 b2 l2 r2 b3 l3 r3 uz ul uh f1 g1 f2 g2 pa kd on ot pt fb fl fh tb tl th dg ds k b hn hk hp) (cwV 2 hts gX7_quotient_X7_loadTold rfl rfl rfl (by decide +kernel) ⟨Nat.le_of_ble_eq_true rfl, Nat.le_of_ble_eq_true rfl⟩) (gPX_VA hP hD hK hE hS hA 0 rfl rfl) rfl rfl hl.1 rfl (lv_room (Nat.le_of_ble_eq_true rfl)) dX7_quotient_3 ⟨Nat.le_of_ble_eq_true rfl, Nat.le_of_ble_eq_true rfl⟩) hAe hD hS hA (fun w1 h9 => by subst h9; exact ⟨_, _, _, _, _, _, _, _, _, _, _, _, _, _, _, _, rfl⟩) rfl hno hlocks (Nat.le_of_ble_eq_true rfl) (Nat.le_of_ble_eq_true rfl)
set_option maxHeartbeats 4000000 in
set_option maxRecDepth 100000 in
theorem c_X7_decimals_0 (l : Launch) (hfl : l.stackTraces = false) (D : va_G) (y : Nat → ClassId) (ad : Nat → Nat) (sz : Nat) (h : Nat) (q : Nat → Nat) (n : Nat) (b1 : Bool) (l1 r1 : Int64) (b2 : Bool) (l2 r2 : Int64) (b3 : Bool) (l3 r3 : Int64) (uz : Nat → Bool) (ul uh : Nat → Int64) (f1 g1 f2 g2 : Int64) (pa : Nat → Nat → Nat) (kd : Nat → Nat) (on ot : Nat → Int32) (pt : Nat → Int64) (fb : Nat → Nat → Bool) (fl fh : Nat → Nat → Int64) (tb : Nat → Nat → Bool) (tl th : Nat → Nat → Int64) (dg : Nat → Int32) (ds : Nat → Int64) (k p : Nat) (hn : n ≤ 40) (hk : k < n) (hp : p < 25) : Met l yX7_decimals wsX7_decimals ({ frames := 4, cells := 0, slots := 0, locals := 96 } : Room) (gPX D y ad [.ref h, .int (nI k), .int (nI p)] (wXp y ad h q n b1 l1 r1 b2 l2 r2 b3 l3 r3 uz ul uh f1 g1 f2 g2 pa kd on ot pt fb fl fh tb tl th dg ds) sz) (gQ D (wXp y ad h q n b1 l1 r1 b2 l2 r2 b3 l3 r3 uz ul uh f1 g1 f2 g2 pa kd on ot pt fb fl fh tb tl th dg ds) (fun v w => v = some (.int (sdR (sp_X6_load_b1 (tb k) (tl k) (th k) p) (sp_X6_load_lo1 (tb k) (tl k) (th k) p) (sp_X6_load_hi1 (tb k) (tl k) (th k) p) (nI p))) ∧ xScr y ad h q n pa kd on ot pt fb fl fh tb tl th dg ds w)) 0 0 (va_A (wXp y ad h q n b1 l1 r1 b2 l2 r2 b3 l3 r3 uz ul uh f1 g1 f2 g2 pa kd on ot pt fb fl fh tb tl th dg ds) sz) := by
  refine Met.ofW (cc := cX7_decimals) (maxL := 3) (ret := (some .int)) (by decide) rfl ?_
  intro pg e s m args below meth c s₁ B hml hv
  obtain ⟨rfl, hsz, hP, hK, hD0, hE0⟩ := hv
  have hx := B.exec
  have hb := B.bytes
  have hr := B.returns
  have hts := atoms_spec (ws := wsX7_decimals) B.pre
  have hown : s.vm.findClass RX7 = some m.cls := findClass_of_methodNamed B.named
  have hlocks := B.notSynchronized
  subst hsz
  obtain ⟨A, hAe⟩ : ∃ A : Nat → Prop, A = va_A (wXp y ad h q n b1 l1 r1 b2 l2 r2 b3 l3 r3 uz ul uh f1 g1 f2 g2 pa kd on ot pt fb fl fh tb tl th dg ds) s.heap.size := ⟨_, rfl⟩
  have hE : gE ad A s s.heap := by rw [hAe]; exact hE0
  have hD : va_D A (wXp y ad h q n b1 l1 r1 b2 l2 r2 b3 l3 r3 uz ul uh f1 g1 f2 g2 pa kd on ot pt fb fl fh tb tl th dg ds) := by rw [hAe]; exact hD0.self (sz := s.heap.size)
  have hA : ∀ q : Nat, s.heap.size ≤ q → A q := fun q h => by rw [hAe]; exact Or.inr h
  have hS : va_S A s.heap s.heap [] := va_S.rf
  have hl := lv_entry ([.ref h, .int (nI k), .int (nI p)]) (n := 3) (Nat.le_of_ble_eq_true rfl)
  rw [lg_entry_eq]
  generalize (lg_sl ([.ref h, .int (nI k), .int (nI p)]) ++ List.replicate (3 - (lg_sl ([.ref h, .int (nI k), .int (nI p)])).length) Slot.unset).toArray = ls at hl ⊢
  have hl : lv_has ls 3 [(0, .ref h), (1, .int (nI k)), (2, .int (nI p))] := hl
  refine lv_aload_n hx hb dX7_decimals_0 rfl (lv_at hl 0 rfl) ?_
  refine lv_iload_n hx hb dX7_decimals_1 rfl (lv_at hl 1 rfl) ?_
  refine lv_iload_n hx hb dX7_decimals_2 rfl (lv_at hl 2 rfl) ?_
  refine g_callAv (w0 := wXp y ad h q n (sp_X6_load_b1 (tb k) (tl k) (th k) p) (sp_X6_load_lo1 (tb k) (tl k) (th k) p) (sp_X6_load_hi1 (tb k) (tl k) (th k) p) b2 l2 r2 b3 l3 r3 uz ul uh f1 g1 f2 g2 pa kd on ot pt fb fl fh tb tl th dg ds) (va_runV (As := [.int (nI k), .int (nI p)]) (rest := []) ⟨hx, hb, hml, hown, hts⟩ (c_X7_loadTold_0 l hfl D y ad s.heap.size h q n b1 l1 r1 b2 l2 r2 b3 l3 r3 uz ul uh f1 g1 f2 g2 pa kd on ot pt fb fl fh tb tl th dg ds k p hn hk hp) (cwV 2 hts gX7_decimals_X7_loadTold rfl rfl rfl (by decide +kernel) ⟨Nat.le_of_ble_eq_true rfl, Nat.le_of_ble_eq_true rfl⟩) (gPX_VA hP hD hK hE hS hA 0 rfl rfl) rfl rfl hl.1 rfl (lv_room (Nat.le_of_ble_eq_true rfl)) dX7_decimals_3 ⟨Nat.zero_le _, Nat.zero_le _⟩) hP hD hS hA rfl (fun H locs hP hD hS => ?_)
  refine lv_aload_n hx hb dX7_decimals_6 rfl (lv_at hl 0 rfl) ?_
  refine lv_iload_n hx hb dX7_decimals_7 rfl (lv_at hl 2 rfl) ?_
  refine g_callR (v0 := .int (sdR (sp_X6_load_b1 (tb k) (tl k) (th k) p) (sp_X6_load_lo1 (tb k) (tl k) (th k) p) (sp_X6_load_hi1 (tb k) (tl k) (th k) p) (nI p))) (va_runV (As := [.int (nI p)]) (rest := []) ⟨hx, hb, hml, hown, hts⟩ (c_X7_sureDecimals l hfl D y ad H.size h q n (sp_X6_load_b1 (tb k) (tl k) (th k) p) (sp_X6_load_lo1 (tb k) (tl k) (th k) p) (sp_X6_load_hi1 (tb k) (tl k) (th k) p) b2 l2 r2 b3 l3 r3 uz ul uh f1 g1 f2 g2 pa kd on ot pt fb fl fh tb tl th dg ds (nI p)) (cwV 1 hts gX7_decimals_X7_sureDecimals rfl rfl rfl (by decide +kernel) ⟨Nat.le_of_ble_eq_true rfl, Nat.le_of_ble_eq_true rfl⟩) (gPX_VA hP hD hK hE hS hA 0 rfl rfl) rfl rfl hl.1 rfl (lv_room (Nat.le_of_ble_eq_true rfl)) dX7_decimals_8 ⟨Nat.zero_le _, Nat.zero_le _⟩) ?_
  exact W.iret (v := sdR (sp_X6_load_b1 (tb k) (tl k) (th k) p) (sp_X6_load_lo1 (tb k) (tl k) (th k) p) (sp_X6_load_hi1 (tb k) (tl k) (th k) p) (nI p)) hx hb hr (fun t ht hW => ⟨⟨some (.int (sdR (sp_X6_load_b1 (tb k) (tl k) (th k) p) (sp_X6_load_lo1 (tb k) (tl k) (th k) p) (sp_X6_load_hi1 (tb k) (tl k) (th k) p) (nI p))), wXp y ad h q n (sp_X6_load_b1 (tb k) (tl k) (th k) p) (sp_X6_load_lo1 (tb k) (tl k) (th k) p) (sp_X6_load_hi1 (tb k) (tl k) (th k) p) b2 l2 r2 b3 l3 r3 uz ul uh f1 g1 f2 g2 pa kd on ot pt fb fl fh tb tl th dg ds, rfl, ⟨rfl, ⟨_, _, _, _, _, _, _, _, _, _, _, _, _, _, _, _, rfl⟩⟩, rfl, by rw [ht]; exact hP⟩, by rw [← hAe]; exact hS.F ht⟩) (by rw [← hAe]; exact hS.2.2) dX7_decimals_11
set_option maxHeartbeats 4000000 in
set_option maxRecDepth 100000 in
theorem c_X7_decimal_X2b (l : Launch) (hfl : l.stackTraces = false) (D : va_G) (y : Nat → ClassId) (ad : Nat → Nat) (sz : Nat) (h : Nat) (q : Nat → Nat) (n : Nat) (b1 : Bool) (l1 r1 : Int64) (b2 : Bool) (l2 r2 : Int64) (b3 : Bool) (l3 r3 : Int64) (uz : Nat → Bool) (ul uh : Nat → Int64) (f1 g1 f2 g2 : Int64) (pa : Nat → Nat → Nat) (kd : Nat → Nat) (on ot : Nat → Int32) (pt : Nat → Int64) (fb : Nat → Nat → Bool) (fl fh : Nat → Nat → Int64) (tb : Nat → Nat → Bool) (tl th : Nat → Nat → Int64) (dg : Nat → Int32) (ds : Nat → Int64) (k p : Nat) (c0 : Int32) (hn : n ≤ 40) (hk : k < n) (hp : p < 25) (hd : c0 < 0 ∨ ¬ c0 ≤ 7) : vx_Met l yX7_decimal wsX7_decimal ({ frames := 7, cells := 1, slots := 6, locals := 114 } : Room) (gPX D y ad [.ref h, .int (nI k), .int (nI p), .int c0] (wXp y ad h q n b1 l1 r1 b2 l2 r2 b3 l3 r3 uz ul uh f1 g1 f2 g2 pa kd on ot pt fb fl fh tb tl th dg ds) sz) gNo (gXC D (wXp y ad h q n b1 l1 r1 b2 l2 r2 b3 l3 r3 uz ul uh f1 g1 f2 g2 pa kd on ot pt fb fl fh tb tl th dg ds) gIAE (xScr y ad h q n pa kd on ot pt fb fl fh tb tl th dg ds)) 1 6 (va_A (wXp y ad h q n b1 l1 r1 b2 l2 r2 b3 l3 r3 uz ul uh f1 g1 f2 g2 pa kd on ot pt fb fl fh tb tl th dg ds) sz) := by
  refine vx_ofW (cc := cX7_decimal) (maxL := 6) (ret := (some .int)) (by decide) rfl ?_
  intro pg e s m args below meth c s₁ B hml hno hv
  obtain ⟨rfl, hsz, hP, hK, hD0, hE0⟩ := hv
  have hx := B.exec
  have hb := B.bytes
  have hr := B.returns
  have hts := atoms_spec (ws := wsX7_decimal) B.pre
  have hown : s.vm.findClass RX7 = some m.cls := findClass_of_methodNamed B.named
  have hlocks := B.notSynchronized
  subst hsz
  obtain ⟨A, hAe⟩ : ∃ A : Nat → Prop, A = va_A (wXp y ad h q n b1 l1 r1 b2 l2 r2 b3 l3 r3 uz ul uh f1 g1 f2 g2 pa kd on ot pt fb fl fh tb tl th dg ds) s.heap.size := ⟨_, rfl⟩
  have hE : gE ad A s s.heap := by rw [hAe]; exact hE0
  have hD : va_D A (wXp y ad h q n b1 l1 r1 b2 l2 r2 b3 l3 r3 uz ul uh f1 g1 f2 g2 pa kd on ot pt fb fl fh tb tl th dg ds) := by rw [hAe]; exact hD0.self (sz := s.heap.size)
  have hA : ∀ q : Nat, s.heap.size ≤ q → A q := fun q h => by rw [hAe]; exact Or.inr h
  have hS : va_S A s.heap s.heap [] := va_S.rf
  have hl := lv_entry ([.ref h, .int (nI k), .int (nI p), .int c0]) (n := 6) (Nat.le_of_ble_eq_true rfl)
  rw [lg_entry_eq]
  generalize (lg_sl ([.ref h, .int (nI k), .int (nI p), .int c0]) ++ List.replicate (6 - (lg_sl ([.ref h, .int (nI k), .int (nI p), .int c0])).length) Slot.unset).toArray = ls at hl ⊢
  have hl : lv_has ls 6 [(0, .ref h), (1, .int (nI k)), (2, .int (nI p)), (3, .int c0)] := hl
  refine lv_aload_n hx hb dX7_decimal_0 rfl (lv_at hl 0 rfl) ?_
  refine lv_iload_n hx hb dX7_decimal_1 rfl (lv_at hl 1 rfl) ?_
  refine lv_iload_n hx hb dX7_decimal_2 rfl (lv_at hl 2 rfl) ?_
  refine g_callAv (w0 := wXp y ad h q n (sp_X6_load_b1 (tb k) (tl k) (th k) p) (sp_X6_load_lo1 (tb k) (tl k) (th k) p) (sp_X6_load_hi1 (tb k) (tl k) (th k) p) b2 l2 r2 b3 l3 r3 uz ul uh f1 g1 f2 g2 pa kd on ot pt fb fl fh tb tl th dg ds) (va_runV (As := [.int (nI k), .int (nI p)]) (rest := []) ⟨hx, hb, hml, hown, hts⟩ (c_X7_loadTold_0 l hfl D y ad s.heap.size h q n b1 l1 r1 b2 l2 r2 b3 l3 r3 uz ul uh f1 g1 f2 g2 pa kd on ot pt fb fl fh tb tl th dg ds k p hn hk hp) (cwV 2 hts gX7_decimal_X7_loadTold rfl rfl rfl (by decide +kernel) ⟨Nat.le_of_ble_eq_true rfl, Nat.le_of_ble_eq_true rfl⟩) (gPX_VA hP hD hK hE hS hA 0 rfl rfl) rfl rfl hl.1 rfl (lv_room (Nat.le_of_ble_eq_true rfl)) dX7_decimal_3 ⟨Nat.zero_le _, Nat.zero_le _⟩) hP hD hS hA rfl (fun H locs hP hD hS => ?_)
  refine lv_iload_n hx hb dX7_decimal_6 rfl (lv_at hl 3 rfl) ?_
  refine lv_iconst (v := 0) hx hb dX7_decimal_7 (by decide) ?_
  refine lv_bipush (v := 7) hx hb dX7_decimal_8 (by decide) ?_
  exact g_outS (vx_runS (As := [.int c0, .int 0, .int 7]) (rest := []) ⟨hx, hb, hml, hown, hts⟩ (c_X7_requireWithin_X l hfl D y ad H.size c0 0 7 hd) (va_cwS 3 hts gX7_decimal_X7_requireWithin rfl rfl rfl (by decide +kernel) ⟨Nat.le_of_ble_eq_true rfl, Nat.le_of_ble_eq_true rfl⟩) (gPX_S0 hK hE hS hA) rfl rfl hl.1 rfl (lv_room (Nat.le_of_ble_eq_true rfl)) dX7_decimal_10 ⟨Nat.le_of_ble_eq_true rfl, Nat.le_of_ble_eq_true rfl⟩) hAe hP hS hA ⟨_, _, _, _, _, _, _, _, _, _, _, _, _, _, _, _, rfl⟩ rfl hno hlocks (Nat.le_of_ble_eq_true rfl) (Nat.le_of_ble_eq_true rfl)
set_option maxHeartbeats 4000000 in
set_option maxRecDepth 100000 in
theorem c_X7_quotient_X2b (l : Launch) (hfl : l.stackTraces = false) (D : va_G) (y : Nat → ClassId) (ad : Nat → Nat) (sz : Nat) (h : Nat) (q : Nat → Nat) (n : Nat) (b1 : Bool) (l1 r1 : Int64) (b2 : Bool) (l2 r2 : Int64) (b3 : Bool) (l3 r3 : Int64) (uz : Nat → Bool) (ul uh : Nat → Int64) (f1 g1 f2 g2 : Int64) (pa : Nat → Nat → Nat) (kd : Nat → Nat) (on ot : Nat → Int32) (pt : Nat → Int64) (fb : Nat → Nat → Bool) (fl fh : Nat → Nat → Int64) (tb : Nat → Nat → Bool) (tl th : Nat → Nat → Int64) (dg : Nat → Int32) (ds : Nat → Int64) (k p : Nat) (c0 : Int32) (hn : n ≤ 40) (hk : k < n) (hp : p < 25) (hd : c0 < 0 ∨ ¬ c0 ≤ 24) : vx_Met l yX7_quotient wsX7_quotient ({ frames := 7, cells := 1, slots := 6, locals := 114 } : Room) (gPX D y ad [.ref h, .int (nI k), .int (nI p), .int c0] (wXp y ad h q n b1 l1 r1 b2 l2 r2 b3 l3 r3 uz ul uh f1 g1 f2 g2 pa kd on ot pt fb fl fh tb tl th dg ds) sz) gNo (gXC D (wXp y ad h q n b1 l1 r1 b2 l2 r2 b3 l3 r3 uz ul uh f1 g1 f2 g2 pa kd on ot pt fb fl fh tb tl th dg ds) gIAE (xScr y ad h q n pa kd on ot pt fb fl fh tb tl th dg ds)) 1 6 (va_A (wXp y ad h q n b1 l1 r1 b2 l2 r2 b3 l3 r3 uz ul uh f1 g1 f2 g2 pa kd on ot pt fb fl fh tb tl th dg ds) sz) := by
  refine vx_ofW (cc := cX7_quotient) (maxL := 5) (ret := (some .int)) (by decide) rfl ?_
  intro pg e s m args below meth c s₁ B hml hno hv
  obtain ⟨rfl, hsz, hP, hK, hD0, hE0⟩ := hv
  have hx := B.exec
  have hb := B.bytes
  have hr := B.returns
  have hts := atoms_spec (ws := wsX7_quotient) B.pre
  have hown : s.vm.findClass RX7 = some m.cls := findClass_of_methodNamed B.named
  have hlocks := B.notSynchronized
  subst hsz
  obtain ⟨A, hAe⟩ : ∃ A : Nat → Prop, A = va_A (wXp y ad h q n b1 l1 r1 b2 l2 r2 b3 l3 r3 uz ul uh f1 g1 f2 g2 pa kd on ot pt fb fl fh tb tl th dg ds) s.heap.size := ⟨_, rfl⟩
  have hE : gE ad A s s.heap := by rw [hAe]; exact hE0
  have hD : va_D A (wXp y ad h q n b1 l1 r1 b2 l2 r2 b3 l3 r3 uz ul uh f1 g1 f2 g2 pa kd on ot pt fb fl fh tb tl th dg ds) := by rw [hAe]; exact hD0.self (sz := s.heap.size)
  have hA : ∀ q : Nat, s.heap.size ≤ q → A q := fun q h => by rw [hAe]; exact Or.inr h
  have hS : va_S A s.heap s.heap [] := va_S.rf
  have hl := lv_entry ([.ref h, .int (nI k), .int (nI p), .int c0]) (n := 5) (Nat.le_of_ble_eq_true rfl)
  rw [lg_entry_eq]
  generalize (lg_sl ([.ref h, .int (nI k), .int (nI p), .int c0]) ++ List.replicate (5 - (lg_sl ([.ref h, .int (nI k), .int (nI p), .int c0])).length) Slot.unset).toArray = ls at hl ⊢
  have hl : lv_has ls 5 [(0, .ref h), (1, .int (nI k)), (2, .int (nI p)), (3, .int c0)] := hl
  refine lv_aload_n hx hb dX7_quotient_0 rfl (lv_at hl 0 rfl) ?_
  refine lv_iload_n hx hb dX7_quotient_1 rfl (lv_at hl 1 rfl) ?_
  refine lv_iload_n hx hb dX7_quotient_2 rfl (lv_at hl 2 rfl) ?_
  refine g_callAv (w0 := wXp y ad h q n (sp_X6_load_b1 (tb k) (tl k) (th k) p) (sp_X6_load_lo1 (tb k) (tl k) (th k) p) (sp_X6_load_hi1 (tb k) (tl k) (th k) p) b2 l2 r2 b3 l3 r3 uz ul uh f1 g1 f2 g2 pa kd on ot pt fb fl fh tb tl th dg ds) (va_runV (As := [.int (nI k), .int (nI p)]) (rest := []) ⟨hx, hb, hml, hown, hts⟩ (c_X7_loadTold_0 l hfl D y ad s.heap.size h q n b1 l1 r1 b2 l2 r2 b3 l3 r3 uz ul uh f1 g1 f2 g2 pa kd on ot pt fb fl fh tb tl th dg ds k p hn hk hp) (cwV 2 hts gX7_quotient_X7_loadTold rfl rfl rfl (by decide +kernel) ⟨Nat.le_of_ble_eq_true rfl, Nat.le_of_ble_eq_true rfl⟩) (gPX_VA hP hD hK hE hS hA 0 rfl rfl) rfl rfl hl.1 rfl (lv_room (Nat.le_of_ble_eq_true rfl)) dX7_quotient_3 ⟨Nat.zero_le _, Nat.zero_le _⟩) hP hD hS hA rfl (fun H locs hP hD hS => ?_)
  refine lv_iload_n hx hb dX7_quotient_6 rfl (lv_at hl 3 rfl) ?_
  refine lv_iconst (v := 0) hx hb dX7_quotient_7 (by decide) ?_
  refine lv_bipush (v := 24) hx hb dX7_quotient_8 (by decide) ?_
  exact g_outS (vx_runS (As := [.int c0, .int 0, .int 24]) (rest := []) ⟨hx, hb, hml, hown, hts⟩ (c_X7_requireWithin_X l hfl D y ad H.size c0 0 24 hd) (va_cwS 3 hts gX7_quotient_X7_requireWithin rfl rfl rfl (by decide +kernel) ⟨Nat.le_of_ble_eq_true rfl, Nat.le_of_ble_eq_true rfl⟩) (gPX_S0 hK hE hS hA) rfl rfl hl.1 rfl (lv_room (Nat.le_of_ble_eq_true rfl)) dX7_quotient_10 ⟨Nat.le_of_ble_eq_true rfl, Nat.le_of_ble_eq_true rfl⟩) hAe hP hS hA ⟨_, _, _, _, _, _, _, _, _, _, _, _, _, _, _, _, rfl⟩ rfl hno hlocks (Nat.le_of_ble_eq_true rfl) (Nat.le_of_ble_eq_true rfl)
theorem in_X7_decimal_ise : ∀ w ∈ (vx_atS RX7 138 "java/lang/IllegalStateException" ["java/lang/RuntimeException", "java/lang/Exception"]).filter goodWord, w ∈ wsX7_decimal := fun _ h => List.mem_cons_of_mem _ (List.mem_append_left _ (List.mem_append_left _ (List.mem_append_right _ h)))
set_option maxHeartbeats 4000000 in
set_option maxRecDepth 100000 in
theorem c_X7_decimal_X3 (l : Launch) (hfl : l.stackTraces = false) (D : va_G) (y : Nat → ClassId) (ad : Nat → Nat) (sz : Nat) (h : Nat) (q : Nat → Nat) (n : Nat) (b1 : Bool) (l1 r1 : Int64) (b2 : Bool) (l2 r2 : Int64) (b3 : Bool) (l3 r3 : Int64) (uz : Nat → Bool) (ul uh : Nat → Int64) (f1 g1 f2 g2 : Int64) (pa : Nat → Nat → Nat) (kd : Nat → Nat) (on ot : Nat → Int32) (pt : Nat → Int64) (fb : Nat → Nat → Bool) (fl fh : Nat → Nat → Int64) (tb : Nat → Nat → Bool) (tl th : Nat → Nat → Int64) (dg : Nat → Int32) (ds : Nat → Int64) (k p d : Nat) (hn : n ≤ 40) (hk : k < n) (hp : p < 25) (hd : d < 8) (hs : ¬ nI d ≤ sdR (sp_X6_load_b1 (tb k) (tl k) (th k) p) (sp_X6_load_lo1 (tb k) (tl k) (th k) p) (sp_X6_load_hi1 (tb k) (tl k) (th k) p) (nI p)) : vx_Met l yX7_decimal wsX7_decimal ({ frames := 6, cells := 1, slots := 6, locals := 96 } : Room) (gPX D y ad [.ref h, .int (nI k), .int (nI p), .int (nI d)] (wXp y ad h q n b1 l1 r1 b2 l2 r2 b3 l3 r3 uz ul uh f1 g1 f2 g2 pa kd on ot pt fb fl fh tb tl th dg ds) sz) gNo (gXC D (wXp y ad h q n b1 l1 r1 b2 l2 r2 b3 l3 r3 uz ul uh f1 g1 f2 g2 pa kd on ot pt fb fl fh tb tl th dg ds) gISE (xScr y ad h q n pa kd on ot pt fb fl fh tb tl th dg ds)) 1 6 (va_A (wXp y ad h q n b1 l1 r1 b2 l2 r2 b3 l3 r3 uz ul uh f1 g1 f2 g2 pa kd on ot pt fb fl fh tb tl th dg ds) sz) := by
  refine vx_ofW (cc := cX7_decimal) (maxL := 6) (ret := (some .int)) (by decide) rfl ?_
  intro pg e s m args below meth c s₁ B hml hno hv
  obtain ⟨rfl, hsz, hP, hK, hD0, hE0⟩ := hv
  have hx := B.exec
  have hb := B.bytes
  have hr := B.returns
  have hts := atoms_spec (ws := wsX7_decimal) B.pre
  have hown : s.vm.findClass RX7 = some m.cls := findClass_of_methodNamed B.named
  have hlocks := B.notSynchronized
  subst hsz
  obtain ⟨A, hAe⟩ : ∃ A : Nat → Prop, A = va_A (wXp y ad h q n b1 l1 r1 b2 l2 r2 b3 l3 r3 uz ul uh f1 g1 f2 g2 pa kd on ot pt fb fl fh tb tl th dg ds) s.heap.size := ⟨_, rfl⟩
  have hE : gE ad A s s.heap := by rw [hAe]; exact hE0
  have hD : va_D A (wXp y ad h q n b1 l1 r1 b2 l2 r2 b3 l3 r3 uz ul uh f1 g1 f2 g2 pa kd on ot pt fb fl fh tb tl th dg ds) := by rw [hAe]; exact hD0.self (sz := s.heap.size)
  have hA : ∀ q : Nat, s.heap.size ≤ q → A q := fun q h => by rw [hAe]; exact Or.inr h
  have hS : va_S A s.heap s.heap [] := va_S.rf
  have hl := lv_entry ([.ref h, .int (nI k), .int (nI p), .int (nI d)]) (n := 6) (Nat.le_of_ble_eq_true rfl)
  rw [lg_entry_eq]
  generalize (lg_sl ([.ref h, .int (nI k), .int (nI p), .int (nI d)]) ++ List.replicate (6 - (lg_sl ([.ref h, .int (nI k), .int (nI p), .int (nI d)])).length) Slot.unset).toArray = ls at hl ⊢
  have hl : lv_has ls 6 [(0, .ref h), (1, .int (nI k)), (2, .int (nI p)), (3, .int (nI d))] := hl
  refine lv_aload_n hx hb dX7_decimal_0 rfl (lv_at hl 0 rfl) ?_
  refine lv_iload_n hx hb dX7_decimal_1 rfl (lv_at hl 1 rfl) ?_
  refine lv_iload_n hx hb dX7_decimal_2 rfl (lv_at hl 2 rfl) ?_
  refine g_callAv (w0 := wXp y ad h q n (sp_X6_load_b1 (tb k) (tl k) (th k) p) (sp_X6_load_lo1 (tb k) (tl k) (th k) p) (sp_X6_load_hi1 (tb k) (tl k) (th k) p) b2 l2 r2 b3 l3 r3 uz ul uh f1 g1 f2 g2 pa kd on ot pt fb fl fh tb tl th dg ds) (va_runV (As := [.int (nI k), .int (nI p)]) (rest := []) ⟨hx, hb, hml, hown, hts⟩ (c_X7_loadTold_0 l hfl D y ad s.heap.size h q n b1 l1 r1 b2 l2 r2 b3 l3 r3 uz ul uh f1 g1 f2 g2 pa kd on ot pt fb fl fh tb tl th dg ds k p hn hk hp) (cwV 2 hts gX7_decimal_X7_loadTold rfl rfl rfl (by decide +kernel) ⟨Nat.le_of_ble_eq_true rfl, Nat.le_of_ble_eq_true rfl⟩) (gPX_VA hP hD hK hE hS hA 0 rfl rfl) rfl rfl hl.1 rfl (lv_room (Nat.le_of_ble_eq_true rfl)) dX7_decimal_3 ⟨Nat.zero_le _, Nat.zero_le _⟩) hP hD hS hA rfl (fun H locs hP hD hS => ?_)
  refine lv_iload_n hx hb dX7_decimal_6 rfl (lv_at hl 3 rfl) ?_
  refine lv_iconst (v := 0) hx hb dX7_decimal_7 (by decide) ?_
  refine lv_bipush (v := 7) hx hb dX7_decimal_8 (by decide) ?_
  refine g_callv (va_runS (As := [.int (nI d), .int 0, .int 7]) (rest := []) ⟨hx, hb, hml, hown, hts⟩ (c_X7_requireWithin_0 l hfl D y ad H.size (nI d) 0 7 (nI_pos (by omega)) (nI_le (b := 7) (by omega) (by decide))) (va_cwS 3 hts gX7_decimal_X7_requireWithin rfl rfl rfl (by decide +kernel) ⟨Nat.le_of_ble_eq_true rfl, Nat.le_of_ble_eq_true rfl⟩) (gPX_S0 hK hE hS hA) rfl rfl hl.1 rfl (lv_room (Nat.le_of_ble_eq_true rfl)) dX7_decimal_10 ⟨Nat.zero_le _, Nat.zero_le _⟩) hP hD hS hA [] rfl (fun H locs hP hD hS => ?_)
  have hP : va_P D vwCl (wXp y ad h q n (sp_X6_load_b1 (tb k) (tl k) (th k) p) (sp_X6_load_lo1 (tb k) (tl k) (th k) p) (sp_X6_load_hi1 (tb k) (tl k) (th k) p) b2 l2 r2 b3 l3 r3 uz ul uh f1 g1 f2 g2 pa kd on ot pt fb fl fh tb tl th dg ds) H := hP
  have hD : va_D A (wXp y ad h q n (sp_X6_load_b1 (tb k) (tl k) (th k) p) (sp_X6_load_lo1 (tb k) (tl k) (th k) p) (sp_X6_load_hi1 (tb k) (tl k) (th k) p) b2 l2 r2 b3 l3 r3 uz ul uh f1 g1 f2 g2 pa kd on ot pt fb fl fh tb tl th dg ds) := hD
  refine lv_iload_n hx hb dX7_decimal_13 rfl (lv_at hl 3 rfl) ?_
  refine lv_aload_n hx hb dX7_decimal_14 rfl (lv_at hl 0 rfl) ?_
  refine lv_iload_n hx hb dX7_decimal_15 rfl (lv_at hl 2 rfl) ?_
  refine g_callR (v0 := .int (sdR (sp_X6_load_b1 (tb k) (tl k) (th k) p) (sp_X6_load_lo1 (tb k) (tl k) (th k) p) (sp_X6_load_hi1 (tb k) (tl k) (th k) p) (nI p))) (va_runV (As := [.int (nI p)]) (rest := [.int (nI d)]) ⟨hx, hb, hml, hown, hts⟩ (c_X7_sureDecimals l hfl D y ad H.size h q n (sp_X6_load_b1 (tb k) (tl k) (th k) p) (sp_X6_load_lo1 (tb k) (tl k) (th k) p) (sp_X6_load_hi1 (tb k) (tl k) (th k) p) b2 l2 r2 b3 l3 r3 uz ul uh f1 g1 f2 g2 pa kd on ot pt fb fl fh tb tl th dg ds (nI p)) (cwV 1 hts gX7_decimal_X7_sureDecimals rfl rfl rfl (by decide +kernel) ⟨Nat.le_of_ble_eq_true rfl, Nat.le_of_ble_eq_true rfl⟩) (gPX_VA hP hD hK hE hS hA 0 rfl rfl) rfl rfl hl.1 rfl (lv_room (Nat.le_of_ble_eq_true rfl)) dX7_decimal_16 ⟨Nat.zero_le _, Nat.zero_le _⟩) ?_
  refine lv_icmp_le (tgt := 32) hx hb dX7_decimal_19 (by decide) (fun c_19 => absurd c_19 hs) (fun c_19 => ?_)
  obtain ⟨sa, hsa⟩ := hE.str 1 rfl
  exact vx_throwS hx hb hfl (own := RX7) (cls := gISE) (names := gNm) (A := A) hown (by decide +kernel) (by decide +kernel) (hts (.classLink RX7 134 "java/lang/IllegalStateException") (List.mem_of_getElem? (i := 1) rfl)) (hts (.initialized "java/lang/IllegalStateException") (List.mem_of_getElem? (i := 2) rfl)) hsa (vx_hat (fun w hw => hts w (in_X7_decimal_ise w hw)) gAt_ise hE.cw) gOt_ise hE.1.1 hE.1.2 hS (hl.1.trans hml.symm) dX7_decimal_22 dX7_decimal_25 dX7_decimal_26 dX7_decimal_28 dX7_decimal_31 (fun x hx9 => (hno x hx9).elim) (Nat.le_of_ble_eq_true rfl) (Nat.le_of_ble_eq_true rfl) (Nat.le_of_ble_eq_true rfl) (Nat.le_of_ble_eq_true rfl) hlocks (g_xc hAe hP hS ⟨_, _, _, _, _, _, _, _, _, _, _, _, _, _, _, _, rfl⟩ rfl) (by rw [← hAe]; exact hS.2.2) (Nat.le_of_ble_eq_true rfl) (Nat.le_of_ble_eq_true rfl)
def dvX (x : Int64) (d : Nat) : Int32 := (if nI d = 0 then x else sp_J9_floorMod_f86c9 x 10).toInt32
theorem in_X7_decimal_X2 : ∀ w ∈ wsX20, w ∈ wsX7_decimal := fun _ h => List.mem_cons_of_mem _ (List.mem_append_left _ (List.mem_append_left _ (List.mem_append_left _ (List.mem_append_left _ (List.mem_append_left _ (List.mem_append_right _ h))))))
theorem in_X7_decimal_X7 : ∀ w ∈ wsX70, w ∈ wsX7_decimal := fun _ h => List.mem_cons_of_mem _ (List.mem_append_left _ (List.mem_append_left _ (List.mem_append_left _ (List.mem_append_left _ (List.mem_append_left _ (List.mem_append_left _ (List.mem_append_right _ h)))))))
set_option maxHeartbeats 4000000 in
set_option maxRecDepth 100000 in
theorem c_X7_decimal_0 (l : Launch) (hfl : l.stackTraces = false) (D : va_G) (y : Nat → ClassId) (ad : Nat → Nat) (sz : Nat) (h : Nat) (q : Nat → Nat) (n : Nat) (b1 : Bool) (l1 r1 : Int64) (b2 : Bool) (l2 r2 : Int64) (b3 : Bool) (l3 r3 : Int64) (uz : Nat → Bool) (ul uh : Nat → Int64) (f1 g1 f2 g2 : Int64) (pa : Nat → Nat → Nat) (kd : Nat → Nat) (on ot : Nat → Int32) (pt : Nat → Int64) (fb : Nat → Nat → Bool) (fl fh : Nat → Nat → Int64) (tb : Nat → Nat → Bool) (tl th : Nat → Nat → Int64) (dg : Nat → Int32) (ds : Nat → Int64) (k p d : Nat) (hn : n ≤ 40) (hk : k < n) (hp : p < 25) (hd : d < 8) (hs : nI d ≤ sdR (sp_X6_load_b1 (tb k) (tl k) (th k) p) (sp_X6_load_lo1 (tb k) (tl k) (th k) p) (sp_X6_load_hi1 (tb k) (tl k) (th k) p) (nI p)) : Met l yX7_decimal wsX7_decimal ({ frames := 4, cells := 0, slots := 0, locals := 96 } : Room) (gPX D y ad [.ref h, .int (nI k), .int (nI p), .int (nI d)] (wXp y ad h q n b1 l1 r1 b2 l2 r2 b3 l3 r3 uz ul uh f1 g1 f2 g2 pa kd on ot pt fb fl fh tb tl th dg ds) sz) (gQ D (wXp y ad h q n b1 l1 r1 b2 l2 r2 b3 l3 r3 uz ul uh f1 g1 f2 g2 pa kd on ot pt fb fl fh tb tl th dg ds) (fun v w => v = some (.int (dvX (sp_X7_cut ((sp_X6_load_lo1 (tb k) (tl k) (th k) p) * tenF d 1) (sp_X7_unitsAt (nI p))) d)) ∧ xScr y ad h q n pa kd on ot pt fb fl fh tb tl th dg ds w)) 0 0 (va_A (wXp y ad h q n b1 l1 r1 b2 l2 r2 b3 l3 r3 uz ul uh f1 g1 f2 g2 pa kd on ot pt fb fl fh tb tl th dg ds) sz) := by
  refine Met.ofW (cc := cX7_decimal) (maxL := 6) (ret := (some .int)) (by decide) rfl ?_
  intro pg e s m args below meth c s₁ B hml hv
  obtain ⟨rfl, hsz, hP, hK, hD0, hE0⟩ := hv
  have hx := B.exec
  have hb := B.bytes
  have hr := B.returns
  have hts := atoms_spec (ws := wsX7_decimal) B.pre
  have hown : s.vm.findClass RX7 = some m.cls := findClass_of_methodNamed B.named
  have hlocks := B.notSynchronized
  subst hsz
  obtain ⟨A, hAe⟩ : ∃ A : Nat → Prop, A = va_A (wXp y ad h q n b1 l1 r1 b2 l2 r2 b3 l3 r3 uz ul uh f1 g1 f2 g2 pa kd on ot pt fb fl fh tb tl th dg ds) s.heap.size := ⟨_, rfl⟩
  have hE : gE ad A s s.heap := by rw [hAe]; exact hE0
  have hD : va_D A (wXp y ad h q n b1 l1 r1 b2 l2 r2 b3 l3 r3 uz ul uh f1 g1 f2 g2 pa kd on ot pt fb fl fh tb tl th dg ds) := by rw [hAe]; exact hD0.self (sz := s.heap.size)
  have hA : ∀ q : Nat, s.heap.size ≤ q → A q := fun q h => by rw [hAe]; exact Or.inr h
  have hS : va_S A s.heap s.heap [] := va_S.rf
  have hl := lv_entry ([.ref h, .int (nI k), .int (nI p), .int (nI d)]) (n := 6) (Nat.le_of_ble_eq_true rfl)
  rw [lg_entry_eq]
  generalize (lg_sl ([.ref h, .int (nI k), .int (nI p), .int (nI d)]) ++ List.replicate (6 - (lg_sl ([.ref h, .int (nI k), .int (nI p), .int (nI d)])).length) Slot.unset).toArray = ls at hl ⊢
  have hl : lv_has ls 6 [(0, .ref h), (1, .int (nI k)), (2, .int (nI p)), (3, .int (nI d))] := hl
  refine lv_aload_n hx hb dX7_decimal_0 rfl (lv_at hl 0 rfl) ?_
  refine lv_iload_n hx hb dX7_decimal_1 rfl (lv_at hl 1 rfl) ?_
  refine lv_iload_n hx hb dX7_decimal_2 rfl (lv_at hl 2 rfl) ?_
  refine g_callAv (w0 := wXp y ad h q n (sp_X6_load_b1 (tb k) (tl k) (th k) p) (sp_X6_load_lo1 (tb k) (tl k) (th k) p) (sp_X6_load_hi1 (tb k) (tl k) (th k) p) b2 l2 r2 b3 l3 r3 uz ul uh f1 g1 f2 g2 pa kd on ot pt fb fl fh tb tl th dg ds) (va_runV (As := [.int (nI k), .int (nI p)]) (rest := []) ⟨hx, hb, hml, hown, hts⟩ (c_X7_loadTold_0 l hfl D y ad s.heap.size h q n b1 l1 r1 b2 l2 r2 b3 l3 r3 uz ul uh f1 g1 f2 g2 pa kd on ot pt fb fl fh tb tl th dg ds k p hn hk hp) (cwV 2 hts gX7_decimal_X7_loadTold rfl rfl rfl (by decide +kernel) ⟨Nat.le_of_ble_eq_true rfl, Nat.le_of_ble_eq_true rfl⟩) (gPX_VA hP hD hK hE hS hA 0 rfl rfl) rfl rfl hl.1 rfl (lv_room (Nat.le_of_ble_eq_true rfl)) dX7_decimal_3 ⟨Nat.zero_le _, Nat.zero_le _⟩) hP hD hS hA rfl (fun H locs hP hD hS => ?_)
  refine lv_iload_n hx hb dX7_decimal_6 rfl (lv_at hl 3 rfl) ?_
  refine lv_iconst (v := 0) hx hb dX7_decimal_7 (by decide) ?_
  refine lv_bipush (v := 7) hx hb dX7_decimal_8 (by decide) ?_
  refine g_callv (va_runS (As := [.int (nI d), .int 0, .int 7]) (rest := []) ⟨hx, hb, hml, hown, hts⟩ (c_X7_requireWithin_0 l hfl D y ad H.size (nI d) 0 7 (nI_pos (by omega)) (nI_le (b := 7) (by omega) (by decide))) (va_cwS 3 hts gX7_decimal_X7_requireWithin rfl rfl rfl (by decide +kernel) ⟨Nat.le_of_ble_eq_true rfl, Nat.le_of_ble_eq_true rfl⟩) (gPX_S0 hK hE hS hA) rfl rfl hl.1 rfl (lv_room (Nat.le_of_ble_eq_true rfl)) dX7_decimal_10 ⟨Nat.zero_le _, Nat.zero_le _⟩) hP hD hS hA [] rfl (fun H locs hP hD hS => ?_)
  have hP : va_P D vwCl (wXp y ad h q n (sp_X6_load_b1 (tb k) (tl k) (th k) p) (sp_X6_load_lo1 (tb k) (tl k) (th k) p) (sp_X6_load_hi1 (tb k) (tl k) (th k) p) b2 l2 r2 b3 l3 r3 uz ul uh f1 g1 f2 g2 pa kd on ot pt fb fl fh tb tl th dg ds) H := hP
  have hD : va_D A (wXp y ad h q n (sp_X6_load_b1 (tb k) (tl k) (th k) p) (sp_X6_load_lo1 (tb k) (tl k) (th k) p) (sp_X6_load_hi1 (tb k) (tl k) (th k) p) b2 l2 r2 b3 l3 r3 uz ul uh f1 g1 f2 g2 pa kd on ot pt fb fl fh tb tl th dg ds) := hD
  refine lv_iload_n hx hb dX7_decimal_13 rfl (lv_at hl 3 rfl) ?_
  refine lv_aload_n hx hb dX7_decimal_14 rfl (lv_at hl 0 rfl) ?_
  refine lv_iload_n hx hb dX7_decimal_15 rfl (lv_at hl 2 rfl) ?_
  refine g_callR (v0 := .int (sdR (sp_X6_load_b1 (tb k) (tl k) (th k) p) (sp_X6_load_lo1 (tb k) (tl k) (th k) p) (sp_X6_load_hi1 (tb k) (tl k) (th k) p) (nI p))) (va_runV (As := [.int (nI p)]) (rest := [.int (nI d)]) ⟨hx, hb, hml, hown, hts⟩ (c_X7_sureDecimals l hfl D y ad H.size h q n (sp_X6_load_b1 (tb k) (tl k) (th k) p) (sp_X6_load_lo1 (tb k) (tl k) (th k) p) (sp_X6_load_hi1 (tb k) (tl k) (th k) p) b2 l2 r2 b3 l3 r3 uz ul uh f1 g1 f2 g2 pa kd on ot pt fb fl fh tb tl th dg ds (nI p)) (cwV 1 hts gX7_decimal_X7_sureDecimals rfl rfl rfl (by decide +kernel) ⟨Nat.le_of_ble_eq_true rfl, Nat.le_of_ble_eq_true rfl⟩) (gPX_VA hP hD hK hE hS hA 0 rfl rfl) rfl rfl hl.1 rfl (lv_room (Nat.le_of_ble_eq_true rfl)) dX7_decimal_16 ⟨Nat.zero_le _, Nat.zero_le _⟩) ?_
  refine lv_icmp_le (tgt := 32) hx hb dX7_decimal_19 (by decide) (fun c_19 => ?_) (fun c_19 => absurd hs c_19)
  refine lv_aload_n hx hb dX7_decimal_32 rfl (lv_at hl 0 rfl) ?_
  refine va_get (D := D) (ci := 5) (v := .ref (q 1)) (C := RX7) (T := TX7) (N := 8) hx hb hts in_X7_decimal_X7 hown hK.1 hP 0 rfl rfl 2 (by decide) (hts (.fieldLink RX7 22 "Nestlimit" "answer" "LNestlimit$Interval;") (List.mem_of_getElem? (i := 3) rfl)) (fun _ h9 => h9) rfl dX7_decimal_33 ?_
  refine va_get (D := D) (ci := 1) (v := .long (sp_X6_load_lo1 (tb k) (tl k) (th k) p)) (C := RX2) (T := TX2) (N := 3) hx hb hts in_X7_decimal_X2 hown hK.1 hP 2 rfl rfl 1 (by decide) (hts (.fieldLink RX7 181 "Nestlimit$Interval" "low" "J") (List.mem_of_getElem? (i := 4) rfl)) (fun _ h9 => h9) rfl dX7_decimal_36 ?_
  refine lv_iload_n hx hb dX7_decimal_39 rfl (lv_at hl 3 rfl) ?_
  refine lv_iload_n hx hb dX7_decimal_40 rfl (lv_at hl 2 rfl) ?_
  refine g_callR (v0 := .long (sp_X7_cut ((sp_X6_load_lo1 (tb k) (tl k) (th k) p) * tenF d 1) (sp_X7_unitsAt (nI p)))) (va_runS (As := [.long (sp_X6_load_lo1 (tb k) (tl k) (th k) p), .int (nI d), .int (nI p)]) (rest := []) ⟨hx, hb, hml, hown, hts⟩ (c_X7_shifted l hfl D y ad H.size (sp_X6_load_lo1 (tb k) (tl k) (th k) p) d (nI p) hd) (va_cwS 3 hts gX7_decimal_X7_shifted rfl rfl rfl (by decide +kernel) ⟨Nat.le_of_ble_eq_true rfl, Nat.le_of_ble_eq_true rfl⟩) (gPX_S0 hK hE hS hA) rfl rfl hl.1 rfl (lv_room (Nat.le_of_ble_eq_true rfl)) dX7_decimal_41 ⟨Nat.zero_le _, Nat.zero_le _⟩) ?_
  refine lv_lstore (lv' := [(4, .long (sp_X7_cut ((sp_X6_load_lo1 (tb k) (tl k) (th k) p) * tenF d 1) (sp_X7_unitsAt (nI p)))), (0, .ref h), (1, .int (nI k)), (2, .int (nI p)), (3, .int (nI d))]) hx hb dX7_decimal_44 hl (by decide) rfl (fun ls hl => ?_)
  refine lv_iload_n hx hb dX7_decimal_46 rfl (lv_at hl 4 rfl) ?_
  refine lv_if_ne (tgt := 55) hx hb dX7_decimal_47 (by decide) (fun c_47 => ?_) (fun c_47 => ?_)
  · skip
    refine lv_lload hx hb dX7_decimal_55 (lv_at hl 0 rfl) ?_
    refine lv_ldc2 (v := 10) hx hb hown (hts (.constantLong RX7 198 (10)) (List.mem_of_getElem? (i := 5) rfl)) dX7_decimal_57 ?_
    refine g_callR (v0 := .long (sp_J9_floorMod_f86c9 (sp_X7_cut ((sp_X6_load_lo1 (tb k) (tl k) (th k) p) * tenF d 1) (sp_X7_unitsAt (nI p))) 10)) (va_runS (As := [.long (sp_X7_cut ((sp_X6_load_lo1 (tb k) (tl k) (th k) p) * tenF d 1) (sp_X7_unitsAt (nI p))), .long 10]) (rest := []) ⟨hx, hb, hml, hown, hts⟩ (c_J9_floorMod_f86c9 l D y H.size (sp_X7_cut ((sp_X6_load_lo1 (tb k) (tl k) (th k) p) * tenF d 1) (sp_X7_unitsAt (nI p))) 10 (by decide)) (va_cwS 2 hts gX7_decimal_J9_floorMod_f86c9 rfl rfl rfl (by decide +kernel) ⟨Nat.le_of_ble_eq_true rfl, Nat.le_of_ble_eq_true rfl⟩) (gP_S hP hD hK [] (by decide) rfl) rfl rfl hl.1 rfl (lv_room (Nat.le_of_ble_eq_true rfl)) dX7_decimal_60 ⟨Nat.zero_le _, Nat.zero_le _⟩) ?_
    refine lv_l2i (v := (sp_J9_floorMod_f86c9 (sp_X7_cut ((sp_X6_load_lo1 (tb k) (tl k) (th k) p) * tenF d 1) (sp_X7_unitsAt (nI p))) 10).toInt32) hx hb dX7_decimal_63 rfl ?_
    exact W.iret (v := (sp_J9_floorMod_f86c9 (sp_X7_cut ((sp_X6_load_lo1 (tb k) (tl k) (th k) p) * tenF d 1) (sp_X7_unitsAt (nI p))) 10).toInt32) hx hb hr (fun t ht hW => ⟨⟨some (.int ((sp_J9_floorMod_f86c9 (sp_X7_cut ((sp_X6_load_lo1 (tb k) (tl k) (th k) p) * tenF d 1) (sp_X7_unitsAt (nI p))) 10).toInt32)), wXp y ad h q n (sp_X6_load_b1 (tb k) (tl k) (th k) p) (sp_X6_load_lo1 (tb k) (tl k) (th k) p) (sp_X6_load_hi1 (tb k) (tl k) (th k) p) b2 l2 r2 b3 l3 r3 uz ul uh f1 g1 f2 g2 pa kd on ot pt fb fl fh tb tl th dg ds, rfl, ⟨congrArg (fun z => some (Value.int z)) (by simp only [dvX, if_neg c_47]), ⟨_, _, _, _, _, _, _, _, _, _, _, _, _, _, _, _, rfl⟩⟩, rfl, by rw [ht]; exact hP⟩, by rw [← hAe]; exact hS.F ht⟩) (by rw [← hAe]; exact hS.2.2) dX7_decimal_64
  · skip
    refine lv_lload hx hb dX7_decimal_50 (lv_at hl 0 rfl) ?_
    refine lv_goto (tgt := 63) hx hb dX7_decimal_52 (by decide) ?_
    refine lv_l2i (v := (sp_X7_cut ((sp_X6_load_lo1 (tb k) (tl k) (th k) p) * tenF d 1) (sp_X7_unitsAt (nI p))).toInt32) hx hb dX7_decimal_63 rfl ?_
    exact W.iret (v := (sp_X7_cut ((sp_X6_load_lo1 (tb k) (tl k) (th k) p) * tenF d 1) (sp_X7_unitsAt (nI p))).toInt32) hx hb hr (fun t ht hW => ⟨⟨some (.int ((sp_X7_cut ((sp_X6_load_lo1 (tb k) (tl k) (th k) p) * tenF d 1) (sp_X7_unitsAt (nI p))).toInt32)), wXp y ad h q n (sp_X6_load_b1 (tb k) (tl k) (th k) p) (sp_X6_load_lo1 (tb k) (tl k) (th k) p) (sp_X6_load_hi1 (tb k) (tl k) (th k) p) b2 l2 r2 b3 l3 r3 uz ul uh f1 g1 f2 g2 pa kd on ot pt fb fl fh tb tl th dg ds, rfl, ⟨congrArg (fun z => some (Value.int z)) (by simp only [dvX, if_pos c_47]), ⟨_, _, _, _, _, _, _, _, _, _, _, _, _, _, _, _, rfl⟩⟩, rfl, by rw [ht]; exact hP⟩, by rw [← hAe]; exact hS.F ht⟩) (by rw [← hAe]; exact hS.2.2) dX7_decimal_64
theorem in_X7_isQuotientSure_X1 : ∀ w ∈ wsX10, w ∈ wsX7_isQuotientSure := fun _ h => List.mem_cons_of_mem _ (List.mem_append_right _ h)
theorem in_X7_isQuotientSure_X7 : ∀ w ∈ wsX70, w ∈ wsX7_isQuotientSure := fun _ h => List.mem_cons_of_mem _ (List.mem_append_left _ (List.mem_append_right _ h))
def sp_X7_isQuotientSure (f1 g1 f2 g2 : Int64) : Bool := if g1 = 0 then false else if g2 = 0 then false else if (sp_X1_whole f1 g1) = (sp_X1_whole f2 g2) then true else false
set_option maxHeartbeats 4000000 in
set_option maxRecDepth 100000 in
theorem c_X7_isQuotientSure (l : Launch) (hfl : l.stackTraces = false) (D : va_G) (y : Nat → ClassId) (ad : Nat → Nat) (sz : Nat) (h : Nat) (q : Nat → Nat) (n : Nat) (b1 : Bool) (l1 r1 : Int64) (b2 : Bool) (l2 r2 : Int64) (b3 : Bool) (l3 r3 : Int64) (uz : Nat → Bool) (ul uh : Nat → Int64) (f1 g1 f2 g2 : Int64) (pa : Nat → Nat → Nat) (kd : Nat → Nat) (on ot : Nat → Int32) (pt : Nat → Int64) (fb : Nat → Nat → Bool) (fl fh : Nat → Nat → Int64) (tb : Nat → Nat → Bool) (tl th : Nat → Nat → Int64) (dg : Nat → Int32) (ds : Nat → Int64) : Met l yX7_isQuotientSure wsX7_isQuotientSure ({ frames := 3, cells := 0, slots := 0, locals := 68 } : Room) (gPX D y ad [.ref h] (wXp y ad h q n b1 l1 r1 b2 l2 r2 b3 l3 r3 uz ul uh f1 g1 f2 g2 pa kd on ot pt fb fl fh tb tl th dg ds) sz) (gR (.int (gB (sp_X7_isQuotientSure f1 g1 f2 g2)))) 0 0 (fun _ => False) := by
  refine Met.ofW (cc := cX7_isQuotientSure) (maxL := 1) (ret := (some .boolean)) (by decide) rfl ?_
  intro pg e s m args below meth c s₁ B hml hv
  obtain ⟨rfl, hsz, hP, hK, hD0, hE0⟩ := hv
  have hx := B.exec
  have hb := B.bytes
  have hr := B.returns
  have hts := atoms_spec (ws := wsX7_isQuotientSure) B.pre
  have hown : s.vm.findClass RX7 = some m.cls := findClass_of_methodNamed B.named
  have hlocks := B.notSynchronized
  subst hsz
  obtain ⟨A, hAe⟩ : ∃ A : Nat → Prop, A = va_A (wXp y ad h q n b1 l1 r1 b2 l2 r2 b3 l3 r3 uz ul uh f1 g1 f2 g2 pa kd on ot pt fb fl fh tb tl th dg ds) s.heap.size := ⟨_, rfl⟩
  have hE : gE ad A s s.heap := by rw [hAe]; exact hE0
  have hD : va_D A (wXp y ad h q n b1 l1 r1 b2 l2 r2 b3 l3 r3 uz ul uh f1 g1 f2 g2 pa kd on ot pt fb fl fh tb tl th dg ds) := by rw [hAe]; exact hD0.self (sz := s.heap.size)
  have hA : ∀ q : Nat, s.heap.size ≤ q → A q := fun q h => by rw [hAe]; exact Or.inr h
  have hS : va_S A s.heap s.heap [] := va_S.rf
  have hl := lv_entry ([.ref h]) (n := 1) (Nat.le_of_ble_eq_true rfl)
  rw [lg_entry_eq]
  generalize (lg_sl ([.ref h]) ++ List.replicate (1 - (lg_sl ([.ref h])).length) Slot.unset).toArray = ls at hl ⊢
  have hl : lv_has ls 1 [(0, .ref h)] := hl
  refine lv_aload_n hx hb dX7_isQuotientSure_0 rfl (lv_at hl 0 rfl) ?_
  refine va_get (D := D) (ci := 5) (v := .ref (q 8)) (C := RX7) (T := TX7) (N := 8) hx hb hts in_X7_isQuotientSure_X7 hown hK.1 hP 0 rfl rfl 6 (by decide) (hts (.fieldLink RX7 44 "Nestlimit" "lowEnd" "LNestlimit$Fraction;") (List.mem_of_getElem? (i := 1) rfl)) (fun _ h9 => h9) rfl dX7_isQuotientSure_1 ?_
  refine va_get (D := D) (ci := 0) (v := .long g1) (C := RX1) (T := TX1) (N := 2) hx hb hts in_X7_isQuotientSure_X1 hown hK.1 hP 9 rfl rfl 1 (by decide) (hts (.fieldLink RX7 318 "Nestlimit$Fraction" "bottom" "J") (List.mem_of_getElem? (i := 2) rfl)) (fun _ h9 => h9) rfl dX7_isQuotientSure_4 ?_
  refine lv_lconst (v := 0) hx hb dX7_isQuotientSure_7 (by decide) ?_
  refine g_eq (tgt := 46) hx hb dX7_isQuotientSure_8 dX7_isQuotientSure_9 (by decide) (fun c_8 => ?_) (fun c_8 => ?_)
  · skip
    refine lv_iconst (v := 0) hx hb dX7_isQuotientSure_46 (by decide) ?_
    exact W.zret (v := 0) hx hb hr (by decide) (fun t ht hW => ⟨congrArg (fun z => Outcome.returned (some (Value.int z))) (by simp only [sp_X7_isQuotientSure, if_pos c_8] <;> rfl), ht⟩) (fun q h => by cases h) dX7_isQuotientSure_47
  · skip
    refine lv_aload_n hx hb dX7_isQuotientSure_12 rfl (lv_at hl 0 rfl) ?_
    refine va_get (D := D) (ci := 5) (v := .ref (q 9)) (C := RX7) (T := TX7) (N := 8) hx hb hts in_X7_isQuotientSure_X7 hown hK.1 hP 0 rfl rfl 7 (by decide) (hts (.fieldLink RX7 48 "Nestlimit" "highEnd" "LNestlimit$Fraction;") (List.mem_of_getElem? (i := 3) rfl)) (fun _ h9 => h9) rfl dX7_isQuotientSure_13 ?_
    refine va_get (D := D) (ci := 0) (v := .long g2) (C := RX1) (T := TX1) (N := 2) hx hb hts in_X7_isQuotientSure_X1 hown hK.1 hP 10 rfl rfl 1 (by decide) (hts (.fieldLink RX7 318 "Nestlimit$Fraction" "bottom" "J") (List.mem_of_getElem? (i := 2) rfl)) (fun _ h9 => h9) rfl dX7_isQuotientSure_16 ?_
    refine lv_lconst (v := 0) hx hb dX7_isQuotientSure_19 (by decide) ?_
    refine g_eq (tgt := 46) hx hb dX7_isQuotientSure_20 dX7_isQuotientSure_21 (by decide) (fun c_20 => ?_) (fun c_20 => ?_)
    · skip
      refine lv_iconst (v := 0) hx hb dX7_isQuotientSure_46 (by decide) ?_
      exact W.zret (v := 0) hx hb hr (by decide) (fun t ht hW => ⟨congrArg (fun z => Outcome.returned (some (Value.int z))) (by simp only [sp_X7_isQuotientSure, if_neg c_8, if_pos c_20] <;> rfl), ht⟩) (fun q h => by cases h) dX7_isQuotientSure_47
    · skip
      refine lv_aload_n hx hb dX7_isQuotientSure_24 rfl (lv_at hl 0 rfl) ?_
      refine va_get (D := D) (ci := 5) (v := .ref (q 8)) (C := RX7) (T := TX7) (N := 8) hx hb hts in_X7_isQuotientSure_X7 hown hK.1 hP 0 rfl rfl 6 (by decide) (hts (.fieldLink RX7 44 "Nestlimit" "lowEnd" "LNestlimit$Fraction;") (List.mem_of_getElem? (i := 1) rfl)) (fun _ h9 => h9) rfl dX7_isQuotientSure_25 ?_
      refine g_callR (v0 := .long (sp_X1_whole f1 g1)) (va_runV (As := []) (rest := []) ⟨hx, hb, hml, hown, hts⟩ (c_X1_whole l D y s.heap.size (q 8) f1 g1) (cwV 0 hts gX7_isQuotientSure_X1_whole rfl rfl rfl (by decide +kernel) ⟨Nat.le_of_ble_eq_true rfl, Nat.le_of_ble_eq_true rfl⟩) (gP_V hP hD hK [9] (by decide) rfl 9 rfl rfl) rfl rfl hl.1 rfl (lv_room (Nat.le_of_ble_eq_true rfl)) dX7_isQuotientSure_28 ⟨Nat.zero_le _, Nat.zero_le _⟩) ?_
      refine lv_aload_n hx hb dX7_isQuotientSure_31 rfl (lv_at hl 0 rfl) ?_
      refine va_get (D := D) (ci := 5) (v := .ref (q 9)) (C := RX7) (T := TX7) (N := 8) hx hb hts in_X7_isQuotientSure_X7 hown hK.1 hP 0 rfl rfl 7 (by decide) (hts (.fieldLink RX7 48 "Nestlimit" "highEnd" "LNestlimit$Fraction;") (List.mem_of_getElem? (i := 3) rfl)) (fun _ h9 => h9) rfl dX7_isQuotientSure_32 ?_
      refine g_callR (v0 := .long (sp_X1_whole f2 g2)) (va_runV (As := []) (rest := [.long (sp_X1_whole f1 g1)]) ⟨hx, hb, hml, hown, hts⟩ (c_X1_whole l D y s.heap.size (q 9) f2 g2) (cwV 0 hts gX7_isQuotientSure_X1_whole rfl rfl rfl (by decide +kernel) ⟨Nat.le_of_ble_eq_true rfl, Nat.le_of_ble_eq_true rfl⟩) (gP_V hP hD hK [10] (by decide) rfl 10 rfl rfl) rfl rfl hl.1 rfl (lv_room (Nat.le_of_ble_eq_true rfl)) dX7_isQuotientSure_35 ⟨Nat.zero_le _, Nat.zero_le _⟩) ?_
      refine g_ne (tgt := 46) hx hb dX7_isQuotientSure_38 dX7_isQuotientSure_39 (by decide) (fun c_38 => ?_) (fun c_38 => ?_)
      · skip
        refine lv_iconst (v := 0) hx hb dX7_isQuotientSure_46 (by decide) ?_
        exact W.zret (v := 0) hx hb hr (by decide) (fun t ht hW => ⟨congrArg (fun z => Outcome.returned (some (Value.int z))) (by simp only [sp_X7_isQuotientSure, if_neg c_8, if_neg c_20, if_neg c_38] <;> rfl), ht⟩) (fun q h => by cases h) dX7_isQuotientSure_47
      · skip
        refine lv_iconst (v := 1) hx hb dX7_isQuotientSure_42 (by decide) ?_
        refine lv_goto (tgt := 47) hx hb dX7_isQuotientSure_43 (by decide) ?_
        exact W.zret (v := 1) hx hb hr (by decide) (fun t ht hW => ⟨congrArg (fun z => Outcome.returned (some (Value.int z))) (by simp only [sp_X7_isQuotientSure, if_neg c_8, if_neg c_20, if_pos c_38] <;> rfl), ht⟩) (fun q h => by cases h) dX7_isQuotientSure_47
theorem in_X7_quotient_X2 : ∀ w ∈ wsX20, w ∈ wsX7_quotient := fun _ h => List.mem_cons_of_mem _ (List.mem_append_left _ (List.mem_append_left _ (List.mem_append_left _ (List.mem_append_left _ (List.mem_append_left _ (List.mem_append_left _ (List.mem_append_right _ h)))))))
theorem in_X7_quotient_X7 : ∀ w ∈ wsX70, w ∈ wsX7_quotient := fun _ h => List.mem_cons_of_mem _ (List.mem_append_left _ (List.mem_append_left _ (List.mem_append_left _ (List.mem_append_left _ (List.mem_append_left _ (List.mem_append_left _ (List.mem_append_left _ (List.mem_append_right _ h))))))))
theorem in_X7_quotient_ise : ∀ w ∈ (vx_atS RX7 138 "java/lang/IllegalStateException" ["java/lang/RuntimeException", "java/lang/Exception"]).filter goodWord, w ∈ wsX7_quotient := fun _ h => List.mem_cons_of_mem _ (List.mem_append_left _ (List.mem_append_left _ (List.mem_append_right _ h)))
set_option maxHeartbeats 4000000 in
set_option maxRecDepth 100000 in
theorem c_X7_quotient_X3 (l : Launch) (hfl : l.stackTraces = false) (D : va_G) (y : Nat → ClassId) (ad : Nat → Nat) (sz : Nat) (h : Nat) (q : Nat → Nat) (n : Nat) (b1 : Bool) (l1 r1 : Int64) (b2 : Bool) (l2 r2 : Int64) (b3 : Bool) (l3 r3 : Int64) (uz : Nat → Bool) (ul uh : Nat → Int64) (f1 g1 f2 g2 : Int64) (pa : Nat → Nat → Nat) (kd : Nat → Nat) (on ot : Nat → Int32) (pt : Nat → Int64) (fb : Nat → Nat → Bool) (fl fh : Nat → Nat → Int64) (tb : Nat → Nat → Bool) (tl th : Nat → Nat → Int64) (dg : Nat → Int32) (ds : Nat → Int64) (k p d : Nat) (hn : n ≤ 40) (hk : k < n) (hp : p < 25) (hd : d < 25) (hf : ¬ sp_X6_load_b1 (tb k) (tl k) (th k) p = true) : vx_Met l yX7_quotient wsX7_quotient ({ frames := 6, cells := 1, slots := 6, locals := 92 } : Room) (gPX D y ad [.ref h, .int (nI k), .int (nI p), .int (nI d)] (wXp y ad h q n b1 l1 r1 b2 l2 r2 b3 l3 r3 uz ul uh f1 g1 f2 g2 pa kd on ot pt fb fl fh tb tl th dg ds) sz) gNo (gXC D (wXp y ad h q n b1 l1 r1 b2 l2 r2 b3 l3 r3 uz ul uh f1 g1 f2 g2 pa kd on ot pt fb fl fh tb tl th dg ds) gISE (xScr y ad h q n pa kd on ot pt fb fl fh tb tl th dg ds)) 1 6 (va_A (wXp y ad h q n b1 l1 r1 b2 l2 r2 b3 l3 r3 uz ul uh f1 g1 f2 g2 pa kd on ot pt fb fl fh tb tl th dg ds) sz) := by
  refine vx_ofW (cc := cX7_quotient) (maxL := 5) (ret := (some .int)) (by decide) rfl ?_
  intro pg e s m args below meth c s₁ B hml hno hv
  obtain ⟨rfl, hsz, hP, hK, hD0, hE0⟩ := hv
  have hx := B.exec
  have hb := B.bytes
  have hr := B.returns
  have hts := atoms_spec (ws := wsX7_quotient) B.pre
  have hown : s.vm.findClass RX7 = some m.cls := findClass_of_methodNamed B.named
  have hlocks := B.notSynchronized
  subst hsz
  obtain ⟨A, hAe⟩ : ∃ A : Nat → Prop, A = va_A (wXp y ad h q n b1 l1 r1 b2 l2 r2 b3 l3 r3 uz ul uh f1 g1 f2 g2 pa kd on ot pt fb fl fh tb tl th dg ds) s.heap.size := ⟨_, rfl⟩
  have hE : gE ad A s s.heap := by rw [hAe]; exact hE0
  have hD : va_D A (wXp y ad h q n b1 l1 r1 b2 l2 r2 b3 l3 r3 uz ul uh f1 g1 f2 g2 pa kd on ot pt fb fl fh tb tl th dg ds) := by rw [hAe]; exact hD0.self (sz := s.heap.size)
  have hA : ∀ q : Nat, s.heap.size ≤ q → A q := fun q h => by rw [hAe]; exact Or.inr h
  have hS : va_S A s.heap s.heap [] := va_S.rf
  have hl := lv_entry ([.ref h, .int (nI k), .int (nI p), .int (nI d)]) (n := 5) (Nat.le_of_ble_eq_true rfl)
  rw [lg_entry_eq]
  generalize (lg_sl ([.ref h, .int (nI k), .int (nI p), .int (nI d)]) ++ List.replicate (5 - (lg_sl ([.ref h, .int (nI k), .int (nI p), .int (nI d)])).length) Slot.unset).toArray = ls at hl ⊢
  have hl : lv_has ls 5 [(0, .ref h), (1, .int (nI k)), (2, .int (nI p)), (3, .int (nI d))] := hl
  refine lv_aload_n hx hb dX7_quotient_0 rfl (lv_at hl 0 rfl) ?_
  refine lv_iload_n hx hb dX7_quotient_1 rfl (lv_at hl 1 rfl) ?_
  refine lv_iload_n hx hb dX7_quotient_2 rfl (lv_at hl 2 rfl) ?_
  refine g_callAv (w0 := wXp y ad h q n (sp_X6_load_b1 (tb k) (tl k) (th k) p) (sp_X6_load_lo1 (tb k) (tl k) (th k) p) (sp_X6_load_hi1 (tb k) (tl k) (th k) p) b2 l2 r2 b3 l3 r3 uz ul uh f1 g1 f2 g2 pa kd on ot pt fb fl fh tb tl th dg ds) (va_runV (As := [.int (nI k), .int (nI p)]) (rest := []) ⟨hx, hb, hml, hown, hts⟩ (c_X7_loadTold_0 l hfl D y ad s.heap.size h q n b1 l1 r1 b2 l2 r2 b3 l3 r3 uz ul uh f1 g1 f2 g2 pa kd on ot pt fb fl fh tb tl th dg ds k p hn hk hp) (cwV 2 hts gX7_quotient_X7_loadTold rfl rfl rfl (by decide +kernel) ⟨Nat.le_of_ble_eq_true rfl, Nat.le_of_ble_eq_true rfl⟩) (gPX_VA hP hD hK hE hS hA 0 rfl rfl) rfl rfl hl.1 rfl (lv_room (Nat.le_of_ble_eq_true rfl)) dX7_quotient_3 ⟨Nat.zero_le _, Nat.zero_le _⟩) hP hD hS hA rfl (fun H locs hP hD hS => ?_)
  refine lv_iload_n hx hb dX7_quotient_6 rfl (lv_at hl 3 rfl) ?_
  refine lv_iconst (v := 0) hx hb dX7_quotient_7 (by decide) ?_
  refine lv_bipush (v := 24) hx hb dX7_quotient_8 (by decide) ?_
  refine g_callv (va_runS (As := [.int (nI d), .int 0, .int 24]) (rest := []) ⟨hx, hb, hml, hown, hts⟩ (c_X7_requireWithin_0 l hfl D y ad H.size (nI d) 0 24 (nI_pos (by omega)) (g_p24 hd)) (va_cwS 3 hts gX7_quotient_X7_requireWithin rfl rfl rfl (by decide +kernel) ⟨Nat.le_of_ble_eq_true rfl, Nat.le_of_ble_eq_true rfl⟩) (gPX_S0 hK hE hS hA) rfl rfl hl.1 rfl (lv_room (Nat.le_of_ble_eq_true rfl)) dX7_quotient_10 ⟨Nat.zero_le _, Nat.zero_le _⟩) hP hD hS hA [] rfl (fun H locs hP hD hS => ?_)
  have hP : va_P D vwCl (wXp y ad h q n (sp_X6_load_b1 (tb k) (tl k) (th k) p) (sp_X6_load_lo1 (tb k) (tl k) (th k) p) (sp_X6_load_hi1 (tb k) (tl k) (th k) p) b2 l2 r2 b3 l3 r3 uz ul uh f1 g1 f2 g2 pa kd on ot pt fb fl fh tb tl th dg ds) H := hP
  have hD : va_D A (wXp y ad h q n (sp_X6_load_b1 (tb k) (tl k) (th k) p) (sp_X6_load_lo1 (tb k) (tl k) (th k) p) (sp_X6_load_hi1 (tb k) (tl k) (th k) p) b2 l2 r2 b3 l3 r3 uz ul uh f1 g1 f2 g2 pa kd on ot pt fb fl fh tb tl th dg ds) := hD
  refine lv_aload_n hx hb dX7_quotient_13 rfl (lv_at hl 0 rfl) ?_
  refine va_get (D := D) (ci := 5) (v := .ref (q 1)) (C := RX7) (T := TX7) (N := 8) hx hb hts in_X7_quotient_X7 hown hK.1 hP 0 rfl rfl 2 (by decide) (hts (.fieldLink RX7 22 "Nestlimit" "answer" "LNestlimit$Interval;") (List.mem_of_getElem? (i := 3) rfl)) (fun _ h9 => h9) rfl dX7_quotient_14 ?_
  refine va_get (D := D) (ci := 1) (v := .int (gB (sp_X6_load_b1 (tb k) (tl k) (th k) p))) (C := RX2) (T := TX2) (N := 3) hx hb hts in_X7_quotient_X2 hown hK.1 hP 2 rfl rfl 0 (by decide) (hts (.fieldLink RX7 173 "Nestlimit$Interval" "isThere" "Z") (List.mem_of_getElem? (i := 4) rfl)) (fun _ h9 => h9) rfl dX7_quotient_17 ?_
  refine g_bne (tgt := 33) hx hb dX7_quotient_20 (by decide) (fun c_20 => absurd c_20 hf) (fun c_20 => ?_)
  obtain ⟨sa, hsa⟩ := hE.str 2 rfl
  exact vx_throwS hx hb hfl (own := RX7) (cls := gISE) (names := gNm) (A := A) hown (by decide +kernel) (by decide +kernel) (hts (.classLink RX7 134 "java/lang/IllegalStateException") (List.mem_of_getElem? (i := 1) rfl)) (hts (.initialized "java/lang/IllegalStateException") (List.mem_of_getElem? (i := 2) rfl)) hsa (vx_hat (fun w hw => hts w (in_X7_quotient_ise w hw)) gAt_ise hE.cw) gOt_ise hE.1.1 hE.1.2 hS (hl.1.trans hml.symm) dX7_quotient_23 dX7_quotient_26 dX7_quotient_27 dX7_quotient_29 dX7_quotient_32 (fun x hx9 => (hno x hx9).elim) (Nat.le_of_ble_eq_true rfl) (Nat.le_of_ble_eq_true rfl) (Nat.le_of_ble_eq_true rfl) (Nat.le_of_ble_eq_true rfl) hlocks (g_xc hAe hP hS ⟨_, _, _, _, _, _, _, _, _, _, _, _, _, _, _, _, rfl⟩ rfl) (by rw [← hAe]; exact hS.2.2) (Nat.le_of_ble_eq_true rfl) (Nat.le_of_ble_eq_true rfl)
def quX : Nat → Int64 → Int64 → Int64 → Int64 → Int64 × Int64 × Int64 × Int64
  | 0, a, b, c, d => (a, b, c, d)
  | n + 1, a, b, c, d => if sp_X7_isQuotientSure a b c d = true then quX n b (a - sp_X1_whole a b * b) d (c - sp_X1_whole c d * d) else (a, b, c, d)
set_option maxHeartbeats 4000000 in
set_option maxRecDepth 100000 in
theorem c_X7_quotient_X4 (l : Launch) (hfl : l.stackTraces = false) (D : va_G) (y : Nat → ClassId) (ad : Nat → Nat) (sz : Nat) (h : Nat) (q : Nat → Nat) (n : Nat) (b1 : Bool) (l1 r1 : Int64) (b2 : Bool) (l2 r2 : Int64) (b3 : Bool) (l3 r3 : Int64) (uz : Nat → Bool) (ul uh : Nat → Int64) (f1 g1 f2 g2 : Int64) (pa : Nat → Nat → Nat) (kd : Nat → Nat) (on ot : Nat → Int32) (pt : Nat → Int64) (fb : Nat → Nat → Bool) (fl fh : Nat → Nat → Int64) (tb : Nat → Nat → Bool) (tl th : Nat → Nat → Int64) (dg : Nat → Int32) (ds : Nat → Int64) (k p d : Nat) (hn : n ≤ 40) (hk : k < n) (hp : p < 25) (hd : d < 25) (hf : sp_X6_load_b1 (tb k) (tl k) (th k) p = true) (hs : ¬ sp_X7_isQuotientSure (quX d (sp_X6_load_lo1 (tb k) (tl k) (th k) p) (sp_X7_unitsAt (nI p)) (sp_X6_load_hi1 (tb k) (tl k) (th k) p) (sp_X7_unitsAt (nI p))).1 (quX d (sp_X6_load_lo1 (tb k) (tl k) (th k) p) (sp_X7_unitsAt (nI p)) (sp_X6_load_hi1 (tb k) (tl k) (th k) p) (sp_X7_unitsAt (nI p))).2.1 (quX d (sp_X6_load_lo1 (tb k) (tl k) (th k) p) (sp_X7_unitsAt (nI p)) (sp_X6_load_hi1 (tb k) (tl k) (th k) p) (sp_X7_unitsAt (nI p))).2.2.1 (quX d (sp_X6_load_lo1 (tb k) (tl k) (th k) p) (sp_X7_unitsAt (nI p)) (sp_X6_load_hi1 (tb k) (tl k) (th k) p) (sp_X7_unitsAt (nI p))).2.2.2 = true) : vx_Met l yX7_quotient wsX7_quotient ({ frames := 6, cells := 1, slots := 6, locals := 92 } : Room) (gPX D y ad [.ref h, .int (nI k), .int (nI p), .int (nI d)] (wXp y ad h q n b1 l1 r1 b2 l2 r2 b3 l3 r3 uz ul uh f1 g1 f2 g2 pa kd on ot pt fb fl fh tb tl th dg ds) sz) gNo (gXC D (wXp y ad h q n b1 l1 r1 b2 l2 r2 b3 l3 r3 uz ul uh f1 g1 f2 g2 pa kd on ot pt fb fl fh tb tl th dg ds) gISE (xScr y ad h q n pa kd on ot pt fb fl fh tb tl th dg ds)) 1 6 (va_A (wXp y ad h q n b1 l1 r1 b2 l2 r2 b3 l3 r3 uz ul uh f1 g1 f2 g2 pa kd on ot pt fb fl fh tb tl th dg ds) sz) := by
  refine vx_ofW (cc := cX7_quotient) (maxL := 5) (ret := (some .int)) (by decide) rfl ?_
  intro pg e s m args below meth c s₁ B hml hno hv
  obtain ⟨rfl, hsz, hP, hK, hD0, hE0⟩ := hv
  have hx := B.exec
  have hb := B.bytes
  have hr := B.returns
  have hts := atoms_spec (ws := wsX7_quotient) B.pre
  have hown : s.vm.findClass RX7 = some m.cls := findClass_of_methodNamed B.named
  have hlocks := B.notSynchronized
  subst hsz
  obtain ⟨A, hAe⟩ : ∃ A : Nat → Prop, A = va_A (wXp y ad h q n b1 l1 r1 b2 l2 r2 b3 l3 r3 uz ul uh f1 g1 f2 g2 pa kd on ot pt fb fl fh tb tl th dg ds) s.heap.size := ⟨_, rfl⟩
  have hE : gE ad A s s.heap := by rw [hAe]; exact hE0
  have hD : va_D A (wXp y ad h q n b1 l1 r1 b2 l2 r2 b3 l3 r3 uz ul uh f1 g1 f2 g2 pa kd on ot pt fb fl fh tb tl th dg ds) := by rw [hAe]; exact hD0.self (sz := s.heap.size)
  have hA : ∀ q : Nat, s.heap.size ≤ q → A q := fun q h => by rw [hAe]; exact Or.inr h
  have hS : va_S A s.heap s.heap [] := va_S.rf
  have hl := lv_entry ([.ref h, .int (nI k), .int (nI p), .int (nI d)]) (n := 5) (Nat.le_of_ble_eq_true rfl)
  rw [lg_entry_eq]
  generalize (lg_sl ([.ref h, .int (nI k), .int (nI p), .int (nI d)]) ++ List.replicate (5 - (lg_sl ([.ref h, .int (nI k), .int (nI p), .int (nI d)])).length) Slot.unset).toArray = ls at hl ⊢
  have hl : lv_has ls 5 [(0, .ref h), (1, .int (nI k)), (2, .int (nI p)), (3, .int (nI d))] := hl
  refine lv_aload_n hx hb dX7_quotient_0 rfl (lv_at hl 0 rfl) ?_
  refine lv_iload_n hx hb dX7_quotient_1 rfl (lv_at hl 1 rfl) ?_
  refine lv_iload_n hx hb dX7_quotient_2 rfl (lv_at hl 2 rfl) ?_
  refine g_callAv (w0 := wXp y ad h q n (sp_X6_load_b1 (tb k) (tl k) (th k) p) (sp_X6_load_lo1 (tb k) (tl k) (th k) p) (sp_X6_load_hi1 (tb k) (tl k) (th k) p) b2 l2 r2 b3 l3 r3 uz ul uh f1 g1 f2 g2 pa kd on ot pt fb fl fh tb tl th dg ds) (va_runV (As := [.int (nI k), .int (nI p)]) (rest := []) ⟨hx, hb, hml, hown, hts⟩ (c_X7_loadTold_0 l hfl D y ad s.heap.size h q n b1 l1 r1 b2 l2 r2 b3 l3 r3 uz ul uh f1 g1 f2 g2 pa kd on ot pt fb fl fh tb tl th dg ds k p hn hk hp) (cwV 2 hts gX7_quotient_X7_loadTold rfl rfl rfl (by decide +kernel) ⟨Nat.le_of_ble_eq_true rfl, Nat.le_of_ble_eq_true rfl⟩) (gPX_VA hP hD hK hE hS hA 0 rfl rfl) rfl rfl hl.1 rfl (lv_room (Nat.le_of_ble_eq_true rfl)) dX7_quotient_3 ⟨Nat.zero_le _, Nat.zero_le _⟩) hP hD hS hA rfl (fun H locs hP hD hS => ?_)
  refine lv_iload_n hx hb dX7_quotient_6 rfl (lv_at hl 3 rfl) ?_
  refine lv_iconst (v := 0) hx hb dX7_quotient_7 (by decide) ?_
  refine lv_bipush (v := 24) hx hb dX7_quotient_8 (by decide) ?_
  refine g_callv (va_runS (As := [.int (nI d), .int 0, .int 24]) (rest := []) ⟨hx, hb, hml, hown, hts⟩ (c_X7_requireWithin_0 l hfl D y ad H.size (nI d) 0 24 (nI_pos (by omega)) (g_p24 hd)) (va_cwS 3 hts gX7_quotient_X7_requireWithin rfl rfl rfl (by decide +kernel) ⟨Nat.le_of_ble_eq_true rfl, Nat.le_of_ble_eq_true rfl⟩) (gPX_S0 hK hE hS hA) rfl rfl hl.1 rfl (lv_room (Nat.le_of_ble_eq_true rfl)) dX7_quotient_10 ⟨Nat.zero_le _, Nat.zero_le _⟩) hP hD hS hA [] rfl (fun H locs hP hD hS => ?_)
  have hP : va_P D vwCl (wXp y ad h q n (sp_X6_load_b1 (tb k) (tl k) (th k) p) (sp_X6_load_lo1 (tb k) (tl k) (th k) p) (sp_X6_load_hi1 (tb k) (tl k) (th k) p) b2 l2 r2 b3 l3 r3 uz ul uh f1 g1 f2 g2 pa kd on ot pt fb fl fh tb tl th dg ds) H := hP
  have hD : va_D A (wXp y ad h q n (sp_X6_load_b1 (tb k) (tl k) (th k) p) (sp_X6_load_lo1 (tb k) (tl k) (th k) p) (sp_X6_load_hi1 (tb k) (tl k) (th k) p) b2 l2 r2 b3 l3 r3 uz ul uh f1 g1 f2 g2 pa kd on ot pt fb fl fh tb tl th dg ds) := hD
  refine lv_aload_n hx hb dX7_quotient_13 rfl (lv_at hl 0 rfl) ?_
  refine va_get (D := D) (ci := 5) (v := .ref (q 1)) (C := RX7) (T := TX7) (N := 8) hx hb hts in_X7_quotient_X7 hown hK.1 hP 0 rfl rfl 2 (by decide) (hts (.fieldLink RX7 22 "Nestlimit" "answer" "LNestlimit$Interval;") (List.mem_of_getElem? (i := 3) rfl)) (fun _ h9 => h9) rfl dX7_quotient_14 ?_
  refine va_get (D := D) (ci := 1) (v := .int (gB (sp_X6_load_b1 (tb k) (tl k) (th k) p))) (C := RX2) (T := TX2) (N := 3) hx hb hts in_X7_quotient_X2 hown hK.1 hP 2 rfl rfl 0 (by decide) (hts (.fieldLink RX7 173 "Nestlimit$Interval" "isThere" "Z") (List.mem_of_getElem? (i := 4) rfl)) (fun _ h9 => h9) rfl dX7_quotient_17 ?_
  refine g_bne (tgt := 33) hx hb dX7_quotient_20 (by decide) (fun c_20 => ?_) (fun c_20 => absurd hf c_20)
  refine lv_aload_n hx hb dX7_quotient_33 rfl (lv_at hl 0 rfl) ?_
  refine va_get (D := D) (ci := 5) (v := .ref (q 8)) (C := RX7) (T := TX7) (N := 8) hx hb hts in_X7_quotient_X7 hown hK.1 hP 0 rfl rfl 6 (by decide) (hts (.fieldLink RX7 44 "Nestlimit" "lowEnd" "LNestlimit$Fraction;") (List.mem_of_getElem? (i := 5) rfl)) (fun _ h9 => h9) rfl dX7_quotient_34 ?_
  refine lv_aload_n hx hb dX7_quotient_37 rfl (lv_at hl 0 rfl) ?_
  refine va_get (D := D) (ci := 5) (v := .ref (q 1)) (C := RX7) (T := TX7) (N := 8) hx hb hts in_X7_quotient_X7 hown hK.1 hP 0 rfl rfl 2 (by decide) (hts (.fieldLink RX7 22 "Nestlimit" "answer" "LNestlimit$Interval;") (List.mem_of_getElem? (i := 3) rfl)) (fun _ h9 => h9) rfl dX7_quotient_38 ?_
  refine va_get (D := D) (ci := 1) (v := .long (sp_X6_load_lo1 (tb k) (tl k) (th k) p)) (C := RX2) (T := TX2) (N := 3) hx hb hts in_X7_quotient_X2 hown hK.1 hP 2 rfl rfl 1 (by decide) (hts (.fieldLink RX7 181 "Nestlimit$Interval" "low" "J") (List.mem_of_getElem? (i := 6) rfl)) (fun _ h9 => h9) rfl dX7_quotient_41 ?_
  refine lv_iload_n hx hb dX7_quotient_44 rfl (lv_at hl 2 rfl) ?_
  refine g_callR (v0 := .long (sp_X7_unitsAt (nI p))) (va_runS (As := [.int (nI p)]) (rest := [.long (sp_X6_load_lo1 (tb k) (tl k) (th k) p), .ref (q 8)]) ⟨hx, hb, hml, hown, hts⟩ (c_X7_unitsAt l D y H.size (nI p)) (va_cwS 1 hts gX7_quotient_X7_unitsAt rfl rfl rfl (by decide +kernel) ⟨Nat.le_of_ble_eq_true rfl, Nat.le_of_ble_eq_true rfl⟩) (gP_S hP hD hK [] (by decide) rfl) rfl rfl hl.1 rfl (lv_room (Nat.le_of_ble_eq_true rfl)) dX7_quotient_45 ⟨Nat.zero_le _, Nat.zero_le _⟩) ?_
  refine g_callv (va_runV (As := [.long (sp_X6_load_lo1 (tb k) (tl k) (th k) p), .long (sp_X7_unitsAt (nI p))]) (rest := []) ⟨hx, hb, hml, hown, hts⟩ (c_X1_assign l D y H.size (q 8) f1 g1 (sp_X6_load_lo1 (tb k) (tl k) (th k) p) (sp_X7_unitsAt (nI p))) (cwV 2 hts gX7_quotient_X1_assign rfl rfl rfl (by decide +kernel) ⟨Nat.le_of_ble_eq_true rfl, Nat.le_of_ble_eq_true rfl⟩) (gP_V hP hD hK [9] (by decide) rfl 9 rfl rfl) rfl rfl hl.1 rfl (lv_room (Nat.le_of_ble_eq_true rfl)) dX7_quotient_48 ⟨Nat.zero_le _, Nat.zero_le _⟩) hP hD hS hA [9] rfl (fun H locs hP hD hS => ?_)
  have hP : va_P D vwCl (wXp y ad h q n (sp_X6_load_b1 (tb k) (tl k) (th k) p) (sp_X6_load_lo1 (tb k) (tl k) (th k) p) (sp_X6_load_hi1 (tb k) (tl k) (th k) p) b2 l2 r2 b3 l3 r3 uz ul uh (sp_X6_load_lo1 (tb k) (tl k) (th k) p) (sp_X7_unitsAt (nI p)) f2 g2 pa kd on ot pt fb fl fh tb tl th dg ds) H := hP
  have hD : va_D A (wXp y ad h q n (sp_X6_load_b1 (tb k) (tl k) (th k) p) (sp_X6_load_lo1 (tb k) (tl k) (th k) p) (sp_X6_load_hi1 (tb k) (tl k) (th k) p) b2 l2 r2 b3 l3 r3 uz ul uh (sp_X6_load_lo1 (tb k) (tl k) (th k) p) (sp_X7_unitsAt (nI p)) f2 g2 pa kd on ot pt fb fl fh tb tl th dg ds) := hD
  refine lv_aload_n hx hb dX7_quotient_51 rfl (lv_at hl 0 rfl) ?_
  refine va_get (D := D) (ci := 5) (v := .ref (q 9)) (C := RX7) (T := TX7) (N := 8) hx hb hts in_X7_quotient_X7 hown hK.1 hP 0 rfl rfl 7 (by decide) (hts (.fieldLink RX7 48 "Nestlimit" "highEnd" "LNestlimit$Fraction;") (List.mem_of_getElem? (i := 7) rfl)) (fun _ h9 => h9) rfl dX7_quotient_52 ?_
  refine lv_aload_n hx hb dX7_quotient_55 rfl (lv_at hl 0 rfl) ?_
  refine va_get (D := D) (ci := 5) (v := .ref (q 1)) (C := RX7) (T := TX7) (N := 8) hx hb hts in_X7_quotient_X7 hown hK.1 hP 0 rfl rfl 2 (by decide) (hts (.fieldLink RX7 22 "Nestlimit" "answer" "LNestlimit$Interval;") (List.mem_of_getElem? (i := 3) rfl)) (fun _ h9 => h9) rfl dX7_quotient_56 ?_
  refine va_get (D := D) (ci := 1) (v := .long (sp_X6_load_hi1 (tb k) (tl k) (th k) p)) (C := RX2) (T := TX2) (N := 3) hx hb hts in_X7_quotient_X2 hown hK.1 hP 2 rfl rfl 2 (by decide) (hts (.fieldLink RX7 177 "Nestlimit$Interval" "high" "J") (List.mem_of_getElem? (i := 8) rfl)) (fun _ h9 => h9) rfl dX7_quotient_59 ?_
  refine lv_iload_n hx hb dX7_quotient_62 rfl (lv_at hl 2 rfl) ?_
  refine g_callR (v0 := .long (sp_X7_unitsAt (nI p))) (va_runS (As := [.int (nI p)]) (rest := [.long (sp_X6_load_hi1 (tb k) (tl k) (th k) p), .ref (q 9)]) ⟨hx, hb, hml, hown, hts⟩ (c_X7_unitsAt l D y H.size (nI p)) (va_cwS 1 hts gX7_quotient_X7_unitsAt rfl rfl rfl (by decide +kernel) ⟨Nat.le_of_ble_eq_true rfl, Nat.le_of_ble_eq_true rfl⟩) (gP_S hP hD hK [] (by decide) rfl) rfl rfl hl.1 rfl (lv_room (Nat.le_of_ble_eq_true rfl)) dX7_quotient_63 ⟨Nat.zero_le _, Nat.zero_le _⟩) ?_
  refine g_callv (va_runV (As := [.long (sp_X6_load_hi1 (tb k) (tl k) (th k) p), .long (sp_X7_unitsAt (nI p))]) (rest := []) ⟨hx, hb, hml, hown, hts⟩ (c_X1_assign l D y H.size (q 9) f2 g2 (sp_X6_load_hi1 (tb k) (tl k) (th k) p) (sp_X7_unitsAt (nI p))) (cwV 2 hts gX7_quotient_X1_assign rfl rfl rfl (by decide +kernel) ⟨Nat.le_of_ble_eq_true rfl, Nat.le_of_ble_eq_true rfl⟩) (gP_V hP hD hK [10] (by decide) rfl 10 rfl rfl) rfl rfl hl.1 rfl (lv_room (Nat.le_of_ble_eq_true rfl)) dX7_quotient_66 ⟨Nat.zero_le _, Nat.zero_le _⟩) hP hD hS hA [10] rfl (fun H locs hP hD hS => ?_)
  have hP : va_P D vwCl (wXp y ad h q n (sp_X6_load_b1 (tb k) (tl k) (th k) p) (sp_X6_load_lo1 (tb k) (tl k) (th k) p) (sp_X6_load_hi1 (tb k) (tl k) (th k) p) b2 l2 r2 b3 l3 r3 uz ul uh (sp_X6_load_lo1 (tb k) (tl k) (th k) p) (sp_X7_unitsAt (nI p)) (sp_X6_load_hi1 (tb k) (tl k) (th k) p) (sp_X7_unitsAt (nI p)) pa kd on ot pt fb fl fh tb tl th dg ds) H := hP
  have hD : va_D A (wXp y ad h q n (sp_X6_load_b1 (tb k) (tl k) (th k) p) (sp_X6_load_lo1 (tb k) (tl k) (th k) p) (sp_X6_load_hi1 (tb k) (tl k) (th k) p) b2 l2 r2 b3 l3 r3 uz ul uh (sp_X6_load_lo1 (tb k) (tl k) (th k) p) (sp_X7_unitsAt (nI p)) (sp_X6_load_hi1 (tb k) (tl k) (th k) p) (sp_X7_unitsAt (nI p)) pa kd on ot pt fb fl fh tb tl th dg ds) := hD
  refine lv_iconst (v := 0) hx hb dX7_quotient_69 (by decide) ?_
  refine lv_istore (lv' := [(4, .int 0), (0, .ref h), (1, .int (nI k)), (2, .int (nI p)), (3, .int (nI d))]) hx hb dX7_quotient_70 hl (by decide) rfl (fun ls hl => ?_)
  have LOOP72 : ∀ (m9 : Nat) (j : Nat) (xf1 : Int64) (xg1 : Int64) (xf2 : Int64) (xg2 : Int64), (j + m9 = d) → (quX m9 xf1 xg1 xf2 xg2 = (quX d (sp_X6_load_lo1 (tb k) (tl k) (th k) p) (sp_X7_unitsAt (nI p)) (sp_X6_load_hi1 (tb k) (tl k) (th k) p) (sp_X7_unitsAt (nI p)))) → ∀ (H : Heap) (locs : List Loc), va_P D vwCl (wXp y ad h q n (sp_X6_load_b1 (tb k) (tl k) (th k) p) (sp_X6_load_lo1 (tb k) (tl k) (th k) p) (sp_X6_load_hi1 (tb k) (tl k) (th k) p) b2 l2 r2 b3 l3 r3 uz ul uh xf1 xg1 xf2 xg2 pa kd on ot pt fb fl fh tb tl th dg ds) H → va_D A (wXp y ad h q n (sp_X6_load_b1 (tb k) (tl k) (th k) p) (sp_X6_load_lo1 (tb k) (tl k) (th k) p) (sp_X6_load_hi1 (tb k) (tl k) (th k) p) b2 l2 r2 b3 l3 r3 uz ul uh xf1 xg1 xf2 xg2 pa kd on ot pt fb fl fh tb tl th dg ds) → va_S A s.heap H locs → ∀ (ls : Array Slot), lv_has ls 5 [(0, .ref h), (1, .int (nI k)), (2, .int (nI p)), (3, .int (nI d)), (4, .int (nI j))] → W pg l e (headSpec wsX7_quotient ({ frames := 6, cells := 1, slots := 6, locals := 92 } : Room)).room s m (([.ref h, .int (nI k), .int (nI p), .int (nI d)] : List Value).toArray) below meth c H locs 0 0 (vx_MQ below gNo (gXC D (wXp y ad h q n b1 l1 r1 b2 l2 r2 b3 l3 r3 uz ul uh f1 g1 f2 g2 pa kd on ot pt fb fl fh tb tl th dg ds) gISE (xScr y ad h q n pa kd on ot pt fb fl fh tb tl th dg ds)) (([.ref h, .int (nI k), .int (nI p), .int (nI d)] : List Value).toArray) s 1 6 (va_A (wXp y ad h q n b1 l1 r1 b2 l2 r2 b3 l3 r3 uz ul uh f1 g1 f2 g2 pa kd on ot pt fb fl fh tb tl th dg ds) s.heap.size)) (F0 m 72 ls []) := by
    intro m9
    induction m9 with
    | zero =>
      intro j xf1 xg1 xf2 xg2 hj hF H locs hP hD hS ls hl
      refine lv_iload hx hb dX7_quotient_72 (lv_at hl 4 rfl) ?_
      refine lv_iload_n hx hb dX7_quotient_74 rfl (lv_at hl 3 rfl) ?_
      refine lv_icmp_ge (tgt := 105) hx hb dX7_quotient_75 (by decide) (fun c_75 => ?_) (fun c_75 => absurd (nI_le (by omega) (by omega)) c_75)
      have hR9 : (xf1, xg1, xf2, xg2) = (quX d (sp_X6_load_lo1 (tb k) (tl k) (th k) p) (sp_X7_unitsAt (nI p)) (sp_X6_load_hi1 (tb k) (tl k) (th k) p) (sp_X7_unitsAt (nI p))) := hF
      have e1 : xf1 = (quX d (sp_X6_load_lo1 (tb k) (tl k) (th k) p) (sp_X7_unitsAt (nI p)) (sp_X6_load_hi1 (tb k) (tl k) (th k) p) (sp_X7_unitsAt (nI p))).1 := congrArg (fun z => z.1) hR9
      have e2 : xg1 = (quX d (sp_X6_load_lo1 (tb k) (tl k) (th k) p) (sp_X7_unitsAt (nI p)) (sp_X6_load_hi1 (tb k) (tl k) (th k) p) (sp_X7_unitsAt (nI p))).2.1 := congrArg (fun z => z.2.1) hR9
      have e3 : xf2 = (quX d (sp_X6_load_lo1 (tb k) (tl k) (th k) p) (sp_X7_unitsAt (nI p)) (sp_X6_load_hi1 (tb k) (tl k) (th k) p) (sp_X7_unitsAt (nI p))).2.2.1 := congrArg (fun z => z.2.2.1) hR9
      have e4 : xg2 = (quX d (sp_X6_load_lo1 (tb k) (tl k) (th k) p) (sp_X7_unitsAt (nI p)) (sp_X6_load_hi1 (tb k) (tl k) (th k) p) (sp_X7_unitsAt (nI p))).2.2.2 := congrArg (fun z => z.2.2.2) hR9
      rw [e1, e2, e3, e4] at hP hD
      refine lv_aload_n hx hb dX7_quotient_105 rfl (lv_at hl 0 rfl) ?_
      refine g_callR (v0 := .int (gB (sp_X7_isQuotientSure ((quX d (sp_X6_load_lo1 (tb k) (tl k) (th k) p) (sp_X7_unitsAt (nI p)) (sp_X6_load_hi1 (tb k) (tl k) (th k) p) (sp_X7_unitsAt (nI p))).1) ((quX d (sp_X6_load_lo1 (tb k) (tl k) (th k) p) (sp_X7_unitsAt (nI p)) (sp_X6_load_hi1 (tb k) (tl k) (th k) p) (sp_X7_unitsAt (nI p))).2.1) ((quX d (sp_X6_load_lo1 (tb k) (tl k) (th k) p) (sp_X7_unitsAt (nI p)) (sp_X6_load_hi1 (tb k) (tl k) (th k) p) (sp_X7_unitsAt (nI p))).2.2.1) ((quX d (sp_X6_load_lo1 (tb k) (tl k) (th k) p) (sp_X7_unitsAt (nI p)) (sp_X6_load_hi1 (tb k) (tl k) (th k) p) (sp_X7_unitsAt (nI p))).2.2.2)))) (va_runV (As := []) (rest := []) ⟨hx, hb, hml, hown, hts⟩ (c_X7_isQuotientSure l hfl D y ad H.size h q n (sp_X6_load_b1 (tb k) (tl k) (th k) p) (sp_X6_load_lo1 (tb k) (tl k) (th k) p) (sp_X6_load_hi1 (tb k) (tl k) (th k) p) b2 l2 r2 b3 l3 r3 uz ul uh ((quX d (sp_X6_load_lo1 (tb k) (tl k) (th k) p) (sp_X7_unitsAt (nI p)) (sp_X6_load_hi1 (tb k) (tl k) (th k) p) (sp_X7_unitsAt (nI p))).1) ((quX d (sp_X6_load_lo1 (tb k) (tl k) (th k) p) (sp_X7_unitsAt (nI p)) (sp_X6_load_hi1 (tb k) (tl k) (th k) p) (sp_X7_unitsAt (nI p))).2.1) ((quX d (sp_X6_load_lo1 (tb k) (tl k) (th k) p) (sp_X7_unitsAt (nI p)) (sp_X6_load_hi1 (tb k) (tl k) (th k) p) (sp_X7_unitsAt (nI p))).2.2.1) ((quX d (sp_X6_load_lo1 (tb k) (tl k) (th k) p) (sp_X7_unitsAt (nI p)) (sp_X6_load_hi1 (tb k) (tl k) (th k) p) (sp_X7_unitsAt (nI p))).2.2.2) pa kd on ot pt fb fl fh tb tl th dg ds) (cwV 0 hts gX7_quotient_X7_isQuotientSure rfl rfl rfl (by decide +kernel) ⟨Nat.le_of_ble_eq_true rfl, Nat.le_of_ble_eq_true rfl⟩) (gPX_VA hP hD hK hE hS hA 0 rfl rfl) rfl rfl hl.1 rfl (lv_room (Nat.le_of_ble_eq_true rfl)) dX7_quotient_106 ⟨Nat.zero_le _, Nat.zero_le _⟩) ?_
      refine g_bne (tgt := 122) hx hb dX7_quotient_109 (by decide) (fun c_109 => absurd c_109 hs) (fun c_109 => ?_)
      obtain ⟨sa, hsa⟩ := hE.str 3 rfl
      exact vx_throwS hx hb hfl (own := RX7) (cls := gISE) (names := gNm) (A := A) hown (by decide +kernel) (by decide +kernel) (hts (.classLink RX7 134 "java/lang/IllegalStateException") (List.mem_of_getElem? (i := 1) rfl)) (hts (.initialized "java/lang/IllegalStateException") (List.mem_of_getElem? (i := 2) rfl)) hsa (vx_hat (fun w hw => hts w (in_X7_quotient_ise w hw)) gAt_ise hE.cw) gOt_ise hE.1.1 hE.1.2 hS (hl.1.trans hml.symm) dX7_quotient_112 dX7_quotient_115 dX7_quotient_116 dX7_quotient_118 dX7_quotient_121 (fun x hx9 => (hno x hx9).elim) (Nat.le_of_ble_eq_true rfl) (Nat.le_of_ble_eq_true rfl) (Nat.le_of_ble_eq_true rfl) (Nat.le_of_ble_eq_true rfl) hlocks (g_xc hAe hP hS ⟨_, _, _, _, _, _, _, _, _, _, _, _, _, _, _, _, rfl⟩ rfl) (by rw [← hAe]; exact hS.2.2) (Nat.le_of_ble_eq_true rfl) (Nat.le_of_ble_eq_true rfl)
    | succ m9 ih72 =>
      intro j xf1 xg1 xf2 xg2 hj hF H locs hP hD hS ls hl
      refine lv_iload hx hb dX7_quotient_72 (lv_at hl 4 rfl) ?_
      refine lv_iload_n hx hb dX7_quotient_74 rfl (lv_at hl 3 rfl) ?_
      refine lv_icmp_ge (tgt := 105) hx hb dX7_quotient_75 (by decide) (fun c_75 => absurd c_75 (nI_ge (by omega) (by omega))) (fun c_75 => ?_)
      refine lv_aload_n hx hb dX7_quotient_78 rfl (lv_at hl 0 rfl) ?_
      refine g_callR (v0 := .int (gB (sp_X7_isQuotientSure xf1 xg1 xf2 xg2))) (va_runV (As := []) (rest := []) ⟨hx, hb, hml, hown, hts⟩ (c_X7_isQuotientSure l hfl D y ad H.size h q n (sp_X6_load_b1 (tb k) (tl k) (th k) p) (sp_X6_load_lo1 (tb k) (tl k) (th k) p) (sp_X6_load_hi1 (tb k) (tl k) (th k) p) b2 l2 r2 b3 l3 r3 uz ul uh xf1 xg1 xf2 xg2 pa kd on ot pt fb fl fh tb tl th dg ds) (cwV 0 hts gX7_quotient_X7_isQuotientSure rfl rfl rfl (by decide +kernel) ⟨Nat.le_of_ble_eq_true rfl, Nat.le_of_ble_eq_true rfl⟩) (gPX_VA hP hD hK hE hS hA 0 rfl rfl) rfl rfl hl.1 rfl (lv_room (Nat.le_of_ble_eq_true rfl)) dX7_quotient_79 ⟨Nat.zero_le _, Nat.zero_le _⟩) ?_
      refine g_beq (tgt := 105) hx hb dX7_quotient_82 (by decide) (fun c_82 => ?_) (fun c_82 => ?_)
      · skip
        have hR9 : (xf1, xg1, xf2, xg2) = (quX d (sp_X6_load_lo1 (tb k) (tl k) (th k) p) (sp_X7_unitsAt (nI p)) (sp_X6_load_hi1 (tb k) (tl k) (th k) p) (sp_X7_unitsAt (nI p))) := by rw [← hF]; show _ = (if _ then _ else _); rw [if_neg c_82]
        have e1 : xf1 = (quX d (sp_X6_load_lo1 (tb k) (tl k) (th k) p) (sp_X7_unitsAt (nI p)) (sp_X6_load_hi1 (tb k) (tl k) (th k) p) (sp_X7_unitsAt (nI p))).1 := congrArg (fun z => z.1) hR9
        have e2 : xg1 = (quX d (sp_X6_load_lo1 (tb k) (tl k) (th k) p) (sp_X7_unitsAt (nI p)) (sp_X6_load_hi1 (tb k) (tl k) (th k) p) (sp_X7_unitsAt (nI p))).2.1 := congrArg (fun z => z.2.1) hR9
        have e3 : xf2 = (quX d (sp_X6_load_lo1 (tb k) (tl k) (th k) p) (sp_X7_unitsAt (nI p)) (sp_X6_load_hi1 (tb k) (tl k) (th k) p) (sp_X7_unitsAt (nI p))).2.2.1 := congrArg (fun z => z.2.2.1) hR9
        have e4 : xg2 = (quX d (sp_X6_load_lo1 (tb k) (tl k) (th k) p) (sp_X7_unitsAt (nI p)) (sp_X6_load_hi1 (tb k) (tl k) (th k) p) (sp_X7_unitsAt (nI p))).2.2.2 := congrArg (fun z => z.2.2.2) hR9
        rw [e1, e2, e3, e4] at hP hD
        refine lv_aload_n hx hb dX7_quotient_105 rfl (lv_at hl 0 rfl) ?_
        refine g_callR (v0 := .int (gB (sp_X7_isQuotientSure ((quX d (sp_X6_load_lo1 (tb k) (tl k) (th k) p) (sp_X7_unitsAt (nI p)) (sp_X6_load_hi1 (tb k) (tl k) (th k) p) (sp_X7_unitsAt (nI p))).1) ((quX d (sp_X6_load_lo1 (tb k) (tl k) (th k) p) (sp_X7_unitsAt (nI p)) (sp_X6_load_hi1 (tb k) (tl k) (th k) p) (sp_X7_unitsAt (nI p))).2.1) ((quX d (sp_X6_load_lo1 (tb k) (tl k) (th k) p) (sp_X7_unitsAt (nI p)) (sp_X6_load_hi1 (tb k) (tl k) (th k) p) (sp_X7_unitsAt (nI p))).2.2.1) ((quX d (sp_X6_load_lo1 (tb k) (tl k) (th k) p) (sp_X7_unitsAt (nI p)) (sp_X6_load_hi1 (tb k) (tl k) (th k) p) (sp_X7_unitsAt (nI p))).2.2.2)))) (va_runV (As := []) (rest := []) ⟨hx, hb, hml, hown, hts⟩ (c_X7_isQuotientSure l hfl D y ad H.size h q n (sp_X6_load_b1 (tb k) (tl k) (th k) p) (sp_X6_load_lo1 (tb k) (tl k) (th k) p) (sp_X6_load_hi1 (tb k) (tl k) (th k) p) b2 l2 r2 b3 l3 r3 uz ul uh ((quX d (sp_X6_load_lo1 (tb k) (tl k) (th k) p) (sp_X7_unitsAt (nI p)) (sp_X6_load_hi1 (tb k) (tl k) (th k) p) (sp_X7_unitsAt (nI p))).1) ((quX d (sp_X6_load_lo1 (tb k) (tl k) (th k) p) (sp_X7_unitsAt (nI p)) (sp_X6_load_hi1 (tb k) (tl k) (th k) p) (sp_X7_unitsAt (nI p))).2.1) ((quX d (sp_X6_load_lo1 (tb k) (tl k) (th k) p) (sp_X7_unitsAt (nI p)) (sp_X6_load_hi1 (tb k) (tl k) (th k) p) (sp_X7_unitsAt (nI p))).2.2.1) ((quX d (sp_X6_load_lo1 (tb k) (tl k) (th k) p) (sp_X7_unitsAt (nI p)) (sp_X6_load_hi1 (tb k) (tl k) (th k) p) (sp_X7_unitsAt (nI p))).2.2.2) pa kd on ot pt fb fl fh tb tl th dg ds) (cwV 0 hts gX7_quotient_X7_isQuotientSure rfl rfl rfl (by decide +kernel) ⟨Nat.le_of_ble_eq_true rfl, Nat.le_of_ble_eq_true rfl⟩) (gPX_VA hP hD hK hE hS hA 0 rfl rfl) rfl rfl hl.1 rfl (lv_room (Nat.le_of_ble_eq_true rfl)) dX7_quotient_106 ⟨Nat.zero_le _, Nat.zero_le _⟩) ?_
        refine g_bne (tgt := 122) hx hb dX7_quotient_109 (by decide) (fun c_109 => absurd c_109 hs) (fun c_109 => ?_)
        obtain ⟨sa, hsa⟩ := hE.str 3 rfl
        exact vx_throwS hx hb hfl (own := RX7) (cls := gISE) (names := gNm) (A := A) hown (by decide +kernel) (by decide +kernel) (hts (.classLink RX7 134 "java/lang/IllegalStateException") (List.mem_of_getElem? (i := 1) rfl)) (hts (.initialized "java/lang/IllegalStateException") (List.mem_of_getElem? (i := 2) rfl)) hsa (vx_hat (fun w hw => hts w (in_X7_quotient_ise w hw)) gAt_ise hE.cw) gOt_ise hE.1.1 hE.1.2 hS (hl.1.trans hml.symm) dX7_quotient_112 dX7_quotient_115 dX7_quotient_116 dX7_quotient_118 dX7_quotient_121 (fun x hx9 => (hno x hx9).elim) (Nat.le_of_ble_eq_true rfl) (Nat.le_of_ble_eq_true rfl) (Nat.le_of_ble_eq_true rfl) (Nat.le_of_ble_eq_true rfl) hlocks (g_xc hAe hP hS ⟨_, _, _, _, _, _, _, _, _, _, _, _, _, _, _, _, rfl⟩ rfl) (by rw [← hAe]; exact hS.2.2) (Nat.le_of_ble_eq_true rfl) (Nat.le_of_ble_eq_true rfl)
      · skip
        refine lv_aload_n hx hb dX7_quotient_85 rfl (lv_at hl 0 rfl) ?_
        refine va_get (D := D) (ci := 5) (v := .ref (q 8)) (C := RX7) (T := TX7) (N := 8) hx hb hts in_X7_quotient_X7 hown hK.1 hP 0 rfl rfl 6 (by decide) (hts (.fieldLink RX7 44 "Nestlimit" "lowEnd" "LNestlimit$Fraction;") (List.mem_of_getElem? (i := 5) rfl)) (fun _ h9 => h9) rfl dX7_quotient_86 ?_
        refine g_callv (va_runV (As := []) (rest := []) ⟨hx, hb, hml, hown, hts⟩ (c_X1_turnOver l D y H.size (q 8) xf1 xg1) (cwV 0 hts gX7_quotient_X1_turnOver rfl rfl rfl (by decide +kernel) ⟨Nat.le_of_ble_eq_true rfl, Nat.le_of_ble_eq_true rfl⟩) (gP_V hP hD hK [9] (by decide) rfl 9 rfl rfl) rfl rfl hl.1 rfl (lv_room (Nat.le_of_ble_eq_true rfl)) dX7_quotient_89 ⟨Nat.zero_le _, Nat.zero_le _⟩) hP hD hS hA [9] rfl (fun H locs hP hD hS => ?_)
        have hP : va_P D vwCl (wXp y ad h q n (sp_X6_load_b1 (tb k) (tl k) (th k) p) (sp_X6_load_lo1 (tb k) (tl k) (th k) p) (sp_X6_load_hi1 (tb k) (tl k) (th k) p) b2 l2 r2 b3 l3 r3 uz ul uh xg1 (xf1 - ((sp_X1_whole xf1 xg1) * xg1)) xf2 xg2 pa kd on ot pt fb fl fh tb tl th dg ds) H := hP
        have hD : va_D A (wXp y ad h q n (sp_X6_load_b1 (tb k) (tl k) (th k) p) (sp_X6_load_lo1 (tb k) (tl k) (th k) p) (sp_X6_load_hi1 (tb k) (tl k) (th k) p) b2 l2 r2 b3 l3 r3 uz ul uh xg1 (xf1 - ((sp_X1_whole xf1 xg1) * xg1)) xf2 xg2 pa kd on ot pt fb fl fh tb tl th dg ds) := hD
        refine lv_aload_n hx hb dX7_quotient_92 rfl (lv_at hl 0 rfl) ?_
        refine va_get (D := D) (ci := 5) (v := .ref (q 9)) (C := RX7) (T := TX7) (N := 8) hx hb hts in_X7_quotient_X7 hown hK.1 hP 0 rfl rfl 7 (by decide) (hts (.fieldLink RX7 48 "Nestlimit" "highEnd" "LNestlimit$Fraction;") (List.mem_of_getElem? (i := 7) rfl)) (fun _ h9 => h9) rfl dX7_quotient_93 ?_
        refine g_callv (va_runV (As := []) (rest := []) ⟨hx, hb, hml, hown, hts⟩ (c_X1_turnOver l D y H.size (q 9) xf2 xg2) (cwV 0 hts gX7_quotient_X1_turnOver rfl rfl rfl (by decide +kernel) ⟨Nat.le_of_ble_eq_true rfl, Nat.le_of_ble_eq_true rfl⟩) (gP_V hP hD hK [10] (by decide) rfl 10 rfl rfl) rfl rfl hl.1 rfl (lv_room (Nat.le_of_ble_eq_true rfl)) dX7_quotient_96 ⟨Nat.zero_le _, Nat.zero_le _⟩) hP hD hS hA [10] rfl (fun H locs hP hD hS => ?_)
        have hP : va_P D vwCl (wXp y ad h q n (sp_X6_load_b1 (tb k) (tl k) (th k) p) (sp_X6_load_lo1 (tb k) (tl k) (th k) p) (sp_X6_load_hi1 (tb k) (tl k) (th k) p) b2 l2 r2 b3 l3 r3 uz ul uh xg1 (xf1 - ((sp_X1_whole xf1 xg1) * xg1)) xg2 (xf2 - ((sp_X1_whole xf2 xg2) * xg2)) pa kd on ot pt fb fl fh tb tl th dg ds) H := hP
        have hD : va_D A (wXp y ad h q n (sp_X6_load_b1 (tb k) (tl k) (th k) p) (sp_X6_load_lo1 (tb k) (tl k) (th k) p) (sp_X6_load_hi1 (tb k) (tl k) (th k) p) b2 l2 r2 b3 l3 r3 uz ul uh xg1 (xf1 - ((sp_X1_whole xf1 xg1) * xg1)) xg2 (xf2 - ((sp_X1_whole xf2 xg2) * xg2)) pa kd on ot pt fb fl fh tb tl th dg ds) := hD
        refine lv_iinc (v := nI (j + 1)) (lv' := [(4, .int (nI (j + 1))), (0, .ref h), (1, .int (nI k)), (2, .int (nI p)), (3, .int (nI d))]) hx hb dX7_quotient_99 hl (k := 4) rfl (nI_add j 1) (by decide) rfl (fun ls hl => ?_)
        refine lv_goto (tgt := 72) hx hb dX7_quotient_102 (by decide) ?_
        exact ih72 (j + 1) xg1 (xf1 - ((sp_X1_whole xf1 xg1) * xg1)) xg2 (xf2 - ((sp_X1_whole xf2 xg2) * xg2)) (by omega) (by rw [← hF]; show _ = (if _ then _ else _); rw [if_pos c_82]) _ _ hP hD hS ls (lv_sub hl [1, 2, 3, 4, 0] rfl)
  exact LOOP72 d 0 (sp_X6_load_lo1 (tb k) (tl k) (th k) p) (sp_X7_unitsAt (nI p)) (sp_X6_load_hi1 (tb k) (tl k) (th k) p) (sp_X7_unitsAt (nI p)) (by omega) (rfl) _ _ hP hD hS ls (lv_sub hl [1, 2, 3, 4, 0] rfl)
set_option maxHeartbeats 4000000 in
set_option maxRecDepth 100000 in
theorem c_X7_quotient_0 (l : Launch) (hfl : l.stackTraces = false) (D : va_G) (y : Nat → ClassId) (ad : Nat → Nat) (sz : Nat) (h : Nat) (q : Nat → Nat) (n : Nat) (b1 : Bool) (l1 r1 : Int64) (b2 : Bool) (l2 r2 : Int64) (b3 : Bool) (l3 r3 : Int64) (uz : Nat → Bool) (ul uh : Nat → Int64) (f1 g1 f2 g2 : Int64) (pa : Nat → Nat → Nat) (kd : Nat → Nat) (on ot : Nat → Int32) (pt : Nat → Int64) (fb : Nat → Nat → Bool) (fl fh : Nat → Nat → Int64) (tb : Nat → Nat → Bool) (tl th : Nat → Nat → Int64) (dg : Nat → Int32) (ds : Nat → Int64) (k p d : Nat) (hn : n ≤ 40) (hk : k < n) (hp : p < 25) (hd : d < 25) (hf : sp_X6_load_b1 (tb k) (tl k) (th k) p = true) (hs : sp_X7_isQuotientSure (quX d (sp_X6_load_lo1 (tb k) (tl k) (th k) p) (sp_X7_unitsAt (nI p)) (sp_X6_load_hi1 (tb k) (tl k) (th k) p) (sp_X7_unitsAt (nI p))).1 (quX d (sp_X6_load_lo1 (tb k) (tl k) (th k) p) (sp_X7_unitsAt (nI p)) (sp_X6_load_hi1 (tb k) (tl k) (th k) p) (sp_X7_unitsAt (nI p))).2.1 (quX d (sp_X6_load_lo1 (tb k) (tl k) (th k) p) (sp_X7_unitsAt (nI p)) (sp_X6_load_hi1 (tb k) (tl k) (th k) p) (sp_X7_unitsAt (nI p))).2.2.1 (quX d (sp_X6_load_lo1 (tb k) (tl k) (th k) p) (sp_X7_unitsAt (nI p)) (sp_X6_load_hi1 (tb k) (tl k) (th k) p) (sp_X7_unitsAt (nI p))).2.2.2 = true) : Met l yX7_quotient wsX7_quotient ({ frames := 4, cells := 0, slots := 0, locals := 90 } : Room) (gPX D y ad [.ref h, .int (nI k), .int (nI p), .int (nI d)] (wXp y ad h q n b1 l1 r1 b2 l2 r2 b3 l3 r3 uz ul uh f1 g1 f2 g2 pa kd on ot pt fb fl fh tb tl th dg ds) sz) (gQ D (wXp y ad h q n b1 l1 r1 b2 l2 r2 b3 l3 r3 uz ul uh f1 g1 f2 g2 pa kd on ot pt fb fl fh tb tl th dg ds) (fun v w => v = some (.int ((sp_X1_whole (quX d (sp_X6_load_lo1 (tb k) (tl k) (th k) p) (sp_X7_unitsAt (nI p)) (sp_X6_load_hi1 (tb k) (tl k) (th k) p) (sp_X7_unitsAt (nI p))).1 (quX d (sp_X6_load_lo1 (tb k) (tl k) (th k) p) (sp_X7_unitsAt (nI p)) (sp_X6_load_hi1 (tb k) (tl k) (th k) p) (sp_X7_unitsAt (nI p))).2.1).toInt32)) ∧ xScr y ad h q n pa kd on ot pt fb fl fh tb tl th dg ds w)) 0 0 (va_A (wXp y ad h q n b1 l1 r1 b2 l2 r2 b3 l3 r3 uz ul uh f1 g1 f2 g2 pa kd on ot pt fb fl fh tb tl th dg ds) sz) := by
  refine Met.ofW (cc := cX7_quotient) (maxL := 5) (ret := (some .int)) (by decide) rfl ?_
  intro pg e s m args below meth c s₁ B hml hv
  obtain ⟨rfl, hsz, hP, hK, hD0, hE0⟩ := hv
  have hx := B.exec
  have hb := B.bytes
  have hr := B.returns
  have hts := atoms_spec (ws := wsX7_quotient) B.pre
  have hown : s.vm.findClass RX7 = some m.cls := findClass_of_methodNamed B.named
  have hlocks := B.notSynchronized
  subst hsz
  obtain ⟨A, hAe⟩ : ∃ A : Nat → Prop, A = va_A (wXp y ad h q n b1 l1 r1 b2 l2 r2 b3 l3 r3 uz ul uh f1 g1 f2 g2 pa kd on ot pt fb fl fh tb tl th dg ds) s.heap.size := ⟨_, rfl⟩
  have hE : gE ad A s s.heap := by rw [hAe]; exact hE0
  have hD : va_D A (wXp y ad h q n b1 l1 r1 b2 l2 r2 b3 l3 r3 uz ul uh f1 g1 f2 g2 pa kd on ot pt fb fl fh tb tl th dg ds) := by rw [hAe]; exact hD0.self (sz := s.heap.size)
  have hA : ∀ q : Nat, s.heap.size ≤ q → A q := fun q h => by rw [hAe]; exact Or.inr h
  have hS : va_S A s.heap s.heap [] := va_S.rf
  have hl := lv_entry ([.ref h, .int (nI k), .int (nI p), .int (nI d)]) (n := 5) (Nat.le_of_ble_eq_true rfl)
  rw [lg_entry_eq]
  generalize (lg_sl ([.ref h, .int (nI k), .int (nI p), .int (nI d)]) ++ List.replicate (5 - (lg_sl ([.ref h, .int (nI k), .int (nI p), .int (nI d)])).length) Slot.unset).toArray = ls at hl ⊢
  have hl : lv_has ls 5 [(0, .ref h), (1, .int (nI k)), (2, .int (nI p)), (3, .int (nI d))] := hl
  refine lv_aload_n hx hb dX7_quotient_0 rfl (lv_at hl 0 rfl) ?_
  refine lv_iload_n hx hb dX7_quotient_1 rfl (lv_at hl 1 rfl) ?_
  refine lv_iload_n hx hb dX7_quotient_2 rfl (lv_at hl 2 rfl) ?_
  refine g_callAv (w0 := wXp y ad h q n (sp_X6_load_b1 (tb k) (tl k) (th k) p) (sp_X6_load_lo1 (tb k) (tl k) (th k) p) (sp_X6_load_hi1 (tb k) (tl k) (th k) p) b2 l2 r2 b3 l3 r3 uz ul uh f1 g1 f2 g2 pa kd on ot pt fb fl fh tb tl th dg ds) (va_runV (As := [.int (nI k), .int (nI p)]) (rest := []) ⟨hx, hb, hml, hown, hts⟩ (c_X7_loadTold_0 l hfl D y ad s.heap.size h q n b1 l1 r1 b2 l2 r2 b3 l3 r3 uz ul uh f1 g1 f2 g2 pa kd on ot pt fb fl fh tb tl th dg ds k p hn hk hp) (cwV 2 hts gX7_quotient_X7_loadTold rfl rfl rfl (by decide +kernel) ⟨Nat.le_of_ble_eq_true rfl, Nat.le_of_ble_eq_true rfl⟩) (gPX_VA hP hD hK hE hS hA 0 rfl rfl) rfl rfl hl.1 rfl (lv_room (Nat.le_of_ble_eq_true rfl)) dX7_quotient_3 ⟨Nat.zero_le _, Nat.zero_le _⟩) hP hD hS hA rfl (fun H locs hP hD hS => ?_)
  refine lv_iload_n hx hb dX7_quotient_6 rfl (lv_at hl 3 rfl) ?_
  refine lv_iconst (v := 0) hx hb dX7_quotient_7 (by decide) ?_
  refine lv_bipush (v := 24) hx hb dX7_quotient_8 (by decide) ?_
  refine g_callv (va_runS (As := [.int (nI d), .int 0, .int 24]) (rest := []) ⟨hx, hb, hml, hown, hts⟩ (c_X7_requireWithin_0 l hfl D y ad H.size (nI d) 0 24 (nI_pos (by omega)) (g_p24 hd)) (va_cwS 3 hts gX7_quotient_X7_requireWithin rfl rfl rfl (by decide +kernel) ⟨Nat.le_of_ble_eq_true rfl, Nat.le_of_ble_eq_true rfl⟩) (gPX_S0 hK hE hS hA) rfl rfl hl.1 rfl (lv_room (Nat.le_of_ble_eq_true rfl)) dX7_quotient_10 ⟨Nat.zero_le _, Nat.zero_le _⟩) hP hD hS hA [] rfl (fun H locs hP hD hS => ?_)
  have hP : va_P D vwCl (wXp y ad h q n (sp_X6_load_b1 (tb k) (tl k) (th k) p) (sp_X6_load_lo1 (tb k) (tl k) (th k) p) (sp_X6_load_hi1 (tb k) (tl k) (th k) p) b2 l2 r2 b3 l3 r3 uz ul uh f1 g1 f2 g2 pa kd on ot pt fb fl fh tb tl th dg ds) H := hP
  have hD : va_D A (wXp y ad h q n (sp_X6_load_b1 (tb k) (tl k) (th k) p) (sp_X6_load_lo1 (tb k) (tl k) (th k) p) (sp_X6_load_hi1 (tb k) (tl k) (th k) p) b2 l2 r2 b3 l3 r3 uz ul uh f1 g1 f2 g2 pa kd on ot pt fb fl fh tb tl th dg ds) := hD
  refine lv_aload_n hx hb dX7_quotient_13 rfl (lv_at hl 0 rfl) ?_
  refine va_get (D := D) (ci := 5) (v := .ref (q 1)) (C := RX7) (T := TX7) (N := 8) hx hb hts in_X7_quotient_X7 hown hK.1 hP 0 rfl rfl 2 (by decide) (hts (.fieldLink RX7 22 "Nestlimit" "answer" "LNestlimit$Interval;") (List.mem_of_getElem? (i := 3) rfl)) (fun _ h9 => h9) rfl dX7_quotient_14 ?_
  refine va_get (D := D) (ci := 1) (v := .int (gB (sp_X6_load_b1 (tb k) (tl k) (th k) p))) (C := RX2) (T := TX2) (N := 3) hx hb hts in_X7_quotient_X2 hown hK.1 hP 2 rfl rfl 0 (by decide) (hts (.fieldLink RX7 173 "Nestlimit$Interval" "isThere" "Z") (List.mem_of_getElem? (i := 4) rfl)) (fun _ h9 => h9) rfl dX7_quotient_17 ?_
  refine g_bne (tgt := 33) hx hb dX7_quotient_20 (by decide) (fun c_20 => ?_) (fun c_20 => absurd hf c_20)
  refine lv_aload_n hx hb dX7_quotient_33 rfl (lv_at hl 0 rfl) ?_
  refine va_get (D := D) (ci := 5) (v := .ref (q 8)) (C := RX7) (T := TX7) (N := 8) hx hb hts in_X7_quotient_X7 hown hK.1 hP 0 rfl rfl 6 (by decide) (hts (.fieldLink RX7 44 "Nestlimit" "lowEnd" "LNestlimit$Fraction;") (List.mem_of_getElem? (i := 5) rfl)) (fun _ h9 => h9) rfl dX7_quotient_34 ?_
  refine lv_aload_n hx hb dX7_quotient_37 rfl (lv_at hl 0 rfl) ?_
  refine va_get (D := D) (ci := 5) (v := .ref (q 1)) (C := RX7) (T := TX7) (N := 8) hx hb hts in_X7_quotient_X7 hown hK.1 hP 0 rfl rfl 2 (by decide) (hts (.fieldLink RX7 22 "Nestlimit" "answer" "LNestlimit$Interval;") (List.mem_of_getElem? (i := 3) rfl)) (fun _ h9 => h9) rfl dX7_quotient_38 ?_
  refine va_get (D := D) (ci := 1) (v := .long (sp_X6_load_lo1 (tb k) (tl k) (th k) p)) (C := RX2) (T := TX2) (N := 3) hx hb hts in_X7_quotient_X2 hown hK.1 hP 2 rfl rfl 1 (by decide) (hts (.fieldLink RX7 181 "Nestlimit$Interval" "low" "J") (List.mem_of_getElem? (i := 6) rfl)) (fun _ h9 => h9) rfl dX7_quotient_41 ?_
  refine lv_iload_n hx hb dX7_quotient_44 rfl (lv_at hl 2 rfl) ?_
  refine g_callR (v0 := .long (sp_X7_unitsAt (nI p))) (va_runS (As := [.int (nI p)]) (rest := [.long (sp_X6_load_lo1 (tb k) (tl k) (th k) p), .ref (q 8)]) ⟨hx, hb, hml, hown, hts⟩ (c_X7_unitsAt l D y H.size (nI p)) (va_cwS 1 hts gX7_quotient_X7_unitsAt rfl rfl rfl (by decide +kernel) ⟨Nat.le_of_ble_eq_true rfl, Nat.le_of_ble_eq_true rfl⟩) (gP_S hP hD hK [] (by decide) rfl) rfl rfl hl.1 rfl (lv_room (Nat.le_of_ble_eq_true rfl)) dX7_quotient_45 ⟨Nat.zero_le _, Nat.zero_le _⟩) ?_
  refine g_callv (va_runV (As := [.long (sp_X6_load_lo1 (tb k) (tl k) (th k) p), .long (sp_X7_unitsAt (nI p))]) (rest := []) ⟨hx, hb, hml, hown, hts⟩ (c_X1_assign l D y H.size (q 8) f1 g1 (sp_X6_load_lo1 (tb k) (tl k) (th k) p) (sp_X7_unitsAt (nI p))) (cwV 2 hts gX7_quotient_X1_assign rfl rfl rfl (by decide +kernel) ⟨Nat.le_of_ble_eq_true rfl, Nat.le_of_ble_eq_true rfl⟩) (gP_V hP hD hK [9] (by decide) rfl 9 rfl rfl) rfl rfl hl.1 rfl (lv_room (Nat.le_of_ble_eq_true rfl)) dX7_quotient_48 ⟨Nat.zero_le _, Nat.zero_le _⟩) hP hD hS hA [9] rfl (fun H locs hP hD hS => ?_)
  have hP : va_P D vwCl (wXp y ad h q n (sp_X6_load_b1 (tb k) (tl k) (th k) p) (sp_X6_load_lo1 (tb k) (tl k) (th k) p) (sp_X6_load_hi1 (tb k) (tl k) (th k) p) b2 l2 r2 b3 l3 r3 uz ul uh (sp_X6_load_lo1 (tb k) (tl k) (th k) p) (sp_X7_unitsAt (nI p)) f2 g2 pa kd on ot pt fb fl fh tb tl th dg ds) H := hP
  have hD : va_D A (wXp y ad h q n (sp_X6_load_b1 (tb k) (tl k) (th k) p) (sp_X6_load_lo1 (tb k) (tl k) (th k) p) (sp_X6_load_hi1 (tb k) (tl k) (th k) p) b2 l2 r2 b3 l3 r3 uz ul uh (sp_X6_load_lo1 (tb k) (tl k) (th k) p) (sp_X7_unitsAt (nI p)) f2 g2 pa kd on ot pt fb fl fh tb tl th dg ds) := hD
  refine lv_aload_n hx hb dX7_quotient_51 rfl (lv_at hl 0 rfl) ?_
  refine va_get (D := D) (ci := 5) (v := .ref (q 9)) (C := RX7) (T := TX7) (N := 8) hx hb hts in_X7_quotient_X7 hown hK.1 hP 0 rfl rfl 7 (by decide) (hts (.fieldLink RX7 48 "Nestlimit" "highEnd" "LNestlimit$Fraction;") (List.mem_of_getElem? (i := 7) rfl)) (fun _ h9 => h9) rfl dX7_quotient_52 ?_
  refine lv_aload_n hx hb dX7_quotient_55 rfl (lv_at hl 0 rfl) ?_
  refine va_get (D := D) (ci := 5) (v := .ref (q 1)) (C := RX7) (T := TX7) (N := 8) hx hb hts in_X7_quotient_X7 hown hK.1 hP 0 rfl rfl 2 (by decide) (hts (.fieldLink RX7 22 "Nestlimit" "answer" "LNestlimit$Interval;") (List.mem_of_getElem? (i := 3) rfl)) (fun _ h9 => h9) rfl dX7_quotient_56 ?_
  refine va_get (D := D) (ci := 1) (v := .long (sp_X6_load_hi1 (tb k) (tl k) (th k) p)) (C := RX2) (T := TX2) (N := 3) hx hb hts in_X7_quotient_X2 hown hK.1 hP 2 rfl rfl 2 (by decide) (hts (.fieldLink RX7 177 "Nestlimit$Interval" "high" "J") (List.mem_of_getElem? (i := 8) rfl)) (fun _ h9 => h9) rfl dX7_quotient_59 ?_
  refine lv_iload_n hx hb dX7_quotient_62 rfl (lv_at hl 2 rfl) ?_
  refine g_callR (v0 := .long (sp_X7_unitsAt (nI p))) (va_runS (As := [.int (nI p)]) (rest := [.long (sp_X6_load_hi1 (tb k) (tl k) (th k) p), .ref (q 9)]) ⟨hx, hb, hml, hown, hts⟩ (c_X7_unitsAt l D y H.size (nI p)) (va_cwS 1 hts gX7_quotient_X7_unitsAt rfl rfl rfl (by decide +kernel) ⟨Nat.le_of_ble_eq_true rfl, Nat.le_of_ble_eq_true rfl⟩) (gP_S hP hD hK [] (by decide) rfl) rfl rfl hl.1 rfl (lv_room (Nat.le_of_ble_eq_true rfl)) dX7_quotient_63 ⟨Nat.zero_le _, Nat.zero_le _⟩) ?_
  refine g_callv (va_runV (As := [.long (sp_X6_load_hi1 (tb k) (tl k) (th k) p), .long (sp_X7_unitsAt (nI p))]) (rest := []) ⟨hx, hb, hml, hown, hts⟩ (c_X1_assign l D y H.size (q 9) f2 g2 (sp_X6_load_hi1 (tb k) (tl k) (th k) p) (sp_X7_unitsAt (nI p))) (cwV 2 hts gX7_quotient_X1_assign rfl rfl rfl (by decide +kernel) ⟨Nat.le_of_ble_eq_true rfl, Nat.le_of_ble_eq_true rfl⟩) (gP_V hP hD hK [10] (by decide) rfl 10 rfl rfl) rfl rfl hl.1 rfl (lv_room (Nat.le_of_ble_eq_true rfl)) dX7_quotient_66 ⟨Nat.zero_le _, Nat.zero_le _⟩) hP hD hS hA [10] rfl (fun H locs hP hD hS => ?_)
  have hP : va_P D vwCl (wXp y ad h q n (sp_X6_load_b1 (tb k) (tl k) (th k) p) (sp_X6_load_lo1 (tb k) (tl k) (th k) p) (sp_X6_load_hi1 (tb k) (tl k) (th k) p) b2 l2 r2 b3 l3 r3 uz ul uh (sp_X6_load_lo1 (tb k) (tl k) (th k) p) (sp_X7_unitsAt (nI p)) (sp_X6_load_hi1 (tb k) (tl k) (th k) p) (sp_X7_unitsAt (nI p)) pa kd on ot pt fb fl fh tb tl th dg ds) H := hP
  have hD : va_D A (wXp y ad h q n (sp_X6_load_b1 (tb k) (tl k) (th k) p) (sp_X6_load_lo1 (tb k) (tl k) (th k) p) (sp_X6_load_hi1 (tb k) (tl k) (th k) p) b2 l2 r2 b3 l3 r3 uz ul uh (sp_X6_load_lo1 (tb k) (tl k) (th k) p) (sp_X7_unitsAt (nI p)) (sp_X6_load_hi1 (tb k) (tl k) (th k) p) (sp_X7_unitsAt (nI p)) pa kd on ot pt fb fl fh tb tl th dg ds) := hD
  refine lv_iconst (v := 0) hx hb dX7_quotient_69 (by decide) ?_
  refine lv_istore (lv' := [(4, .int 0), (0, .ref h), (1, .int (nI k)), (2, .int (nI p)), (3, .int (nI d))]) hx hb dX7_quotient_70 hl (by decide) rfl (fun ls hl => ?_)
  have LOOP72 : ∀ (m9 : Nat) (j : Nat) (xf1 : Int64) (xg1 : Int64) (xf2 : Int64) (xg2 : Int64), (j + m9 = d) → (quX m9 xf1 xg1 xf2 xg2 = (quX d (sp_X6_load_lo1 (tb k) (tl k) (th k) p) (sp_X7_unitsAt (nI p)) (sp_X6_load_hi1 (tb k) (tl k) (th k) p) (sp_X7_unitsAt (nI p)))) → ∀ (H : Heap) (locs : List Loc), va_P D vwCl (wXp y ad h q n (sp_X6_load_b1 (tb k) (tl k) (th k) p) (sp_X6_load_lo1 (tb k) (tl k) (th k) p) (sp_X6_load_hi1 (tb k) (tl k) (th k) p) b2 l2 r2 b3 l3 r3 uz ul uh xf1 xg1 xf2 xg2 pa kd on ot pt fb fl fh tb tl th dg ds) H → va_D A (wXp y ad h q n (sp_X6_load_b1 (tb k) (tl k) (th k) p) (sp_X6_load_lo1 (tb k) (tl k) (th k) p) (sp_X6_load_hi1 (tb k) (tl k) (th k) p) b2 l2 r2 b3 l3 r3 uz ul uh xf1 xg1 xf2 xg2 pa kd on ot pt fb fl fh tb tl th dg ds) → va_S A s.heap H locs → ∀ (ls : Array Slot), lv_has ls 5 [(0, .ref h), (1, .int (nI k)), (2, .int (nI p)), (3, .int (nI d)), (4, .int (nI j))] → W pg l e (headSpec wsX7_quotient ({ frames := 4, cells := 0, slots := 0, locals := 90 } : Room)).room s m (([.ref h, .int (nI k), .int (nI p), .int (nI d)] : List Value).toArray) below meth c H locs 0 0 (MQ below (gQ D (wXp y ad h q n b1 l1 r1 b2 l2 r2 b3 l3 r3 uz ul uh f1 g1 f2 g2 pa kd on ot pt fb fl fh tb tl th dg ds) (fun v w => v = some (.int ((sp_X1_whole (quX d (sp_X6_load_lo1 (tb k) (tl k) (th k) p) (sp_X7_unitsAt (nI p)) (sp_X6_load_hi1 (tb k) (tl k) (th k) p) (sp_X7_unitsAt (nI p))).1 (quX d (sp_X6_load_lo1 (tb k) (tl k) (th k) p) (sp_X7_unitsAt (nI p)) (sp_X6_load_hi1 (tb k) (tl k) (th k) p) (sp_X7_unitsAt (nI p))).2.1).toInt32)) ∧ xScr y ad h q n pa kd on ot pt fb fl fh tb tl th dg ds w)) (([.ref h, .int (nI k), .int (nI p), .int (nI d)] : List Value).toArray) s 0 0 (va_A (wXp y ad h q n b1 l1 r1 b2 l2 r2 b3 l3 r3 uz ul uh f1 g1 f2 g2 pa kd on ot pt fb fl fh tb tl th dg ds) s.heap.size)) (F0 m 72 ls []) := by
    intro m9
    induction m9 with
    | zero =>
      intro j xf1 xg1 xf2 xg2 hj hF H locs hP hD hS ls hl
      refine lv_iload hx hb dX7_quotient_72 (lv_at hl 4 rfl) ?_
      refine lv_iload_n hx hb dX7_quotient_74 rfl (lv_at hl 3 rfl) ?_
      refine lv_icmp_ge (tgt := 105) hx hb dX7_quotient_75 (by decide) (fun c_75 => ?_) (fun c_75 => absurd (nI_le (by omega) (by omega)) c_75)
      have hR9 : (xf1, xg1, xf2, xg2) = (quX d (sp_X6_load_lo1 (tb k) (tl k) (th k) p) (sp_X7_unitsAt (nI p)) (sp_X6_load_hi1 (tb k) (tl k) (th k) p) (sp_X7_unitsAt (nI p))) := hF
      have e1 : xf1 = (quX d (sp_X6_load_lo1 (tb k) (tl k) (th k) p) (sp_X7_unitsAt (nI p)) (sp_X6_load_hi1 (tb k) (tl k) (th k) p) (sp_X7_unitsAt (nI p))).1 := congrArg (fun z => z.1) hR9
      have e2 : xg1 = (quX d (sp_X6_load_lo1 (tb k) (tl k) (th k) p) (sp_X7_unitsAt (nI p)) (sp_X6_load_hi1 (tb k) (tl k) (th k) p) (sp_X7_unitsAt (nI p))).2.1 := congrArg (fun z => z.2.1) hR9
      have e3 : xf2 = (quX d (sp_X6_load_lo1 (tb k) (tl k) (th k) p) (sp_X7_unitsAt (nI p)) (sp_X6_load_hi1 (tb k) (tl k) (th k) p) (sp_X7_unitsAt (nI p))).2.2.1 := congrArg (fun z => z.2.2.1) hR9
      have e4 : xg2 = (quX d (sp_X6_load_lo1 (tb k) (tl k) (th k) p) (sp_X7_unitsAt (nI p)) (sp_X6_load_hi1 (tb k) (tl k) (th k) p) (sp_X7_unitsAt (nI p))).2.2.2 := congrArg (fun z => z.2.2.2) hR9
      rw [e1, e2, e3, e4] at hP hD
      refine lv_aload_n hx hb dX7_quotient_105 rfl (lv_at hl 0 rfl) ?_
      refine g_callR (v0 := .int (gB (sp_X7_isQuotientSure ((quX d (sp_X6_load_lo1 (tb k) (tl k) (th k) p) (sp_X7_unitsAt (nI p)) (sp_X6_load_hi1 (tb k) (tl k) (th k) p) (sp_X7_unitsAt (nI p))).1) ((quX d (sp_X6_load_lo1 (tb k) (tl k) (th k) p) (sp_X7_unitsAt (nI p)) (sp_X6_load_hi1 (tb k) (tl k) (th k) p) (sp_X7_unitsAt (nI p))).2.1) ((quX d (sp_X6_load_lo1 (tb k) (tl k) (th k) p) (sp_X7_unitsAt (nI p)) (sp_X6_load_hi1 (tb k) (tl k) (th k) p) (sp_X7_unitsAt (nI p))).2.2.1) ((quX d (sp_X6_load_lo1 (tb k) (tl k) (th k) p) (sp_X7_unitsAt (nI p)) (sp_X6_load_hi1 (tb k) (tl k) (th k) p) (sp_X7_unitsAt (nI p))).2.2.2)))) (va_runV (As := []) (rest := []) ⟨hx, hb, hml, hown, hts⟩ (c_X7_isQuotientSure l hfl D y ad H.size h q n (sp_X6_load_b1 (tb k) (tl k) (th k) p) (sp_X6_load_lo1 (tb k) (tl k) (th k) p) (sp_X6_load_hi1 (tb k) (tl k) (th k) p) b2 l2 r2 b3 l3 r3 uz ul uh ((quX d (sp_X6_load_lo1 (tb k) (tl k) (th k) p) (sp_X7_unitsAt (nI p)) (sp_X6_load_hi1 (tb k) (tl k) (th k) p) (sp_X7_unitsAt (nI p))).1) ((quX d (sp_X6_load_lo1 (tb k) (tl k) (th k) p) (sp_X7_unitsAt (nI p)) (sp_X6_load_hi1 (tb k) (tl k) (th k) p) (sp_X7_unitsAt (nI p))).2.1) ((quX d (sp_X6_load_lo1 (tb k) (tl k) (th k) p) (sp_X7_unitsAt (nI p)) (sp_X6_load_hi1 (tb k) (tl k) (th k) p) (sp_X7_unitsAt (nI p))).2.2.1) ((quX d (sp_X6_load_lo1 (tb k) (tl k) (th k) p) (sp_X7_unitsAt (nI p)) (sp_X6_load_hi1 (tb k) (tl k) (th k) p) (sp_X7_unitsAt (nI p))).2.2.2) pa kd on ot pt fb fl fh tb tl th dg ds) (cwV 0 hts gX7_quotient_X7_isQuotientSure rfl rfl rfl (by decide +kernel) ⟨Nat.le_of_ble_eq_true rfl, Nat.le_of_ble_eq_true rfl⟩) (gPX_VA hP hD hK hE hS hA 0 rfl rfl) rfl rfl hl.1 rfl (lv_room (Nat.le_of_ble_eq_true rfl)) dX7_quotient_106 ⟨Nat.zero_le _, Nat.zero_le _⟩) ?_
      refine g_bne (tgt := 122) hx hb dX7_quotient_109 (by decide) (fun c_109 => ?_) (fun c_109 => absurd hs c_109)
      refine lv_aload_n hx hb dX7_quotient_122 rfl (lv_at hl 0 rfl) ?_
      refine va_get (D := D) (ci := 5) (v := .ref (q 8)) (C := RX7) (T := TX7) (N := 8) hx hb hts in_X7_quotient_X7 hown hK.1 hP 0 rfl rfl 6 (by decide) (hts (.fieldLink RX7 44 "Nestlimit" "lowEnd" "LNestlimit$Fraction;") (List.mem_of_getElem? (i := 5) rfl)) (fun _ h9 => h9) rfl dX7_quotient_123 ?_
      refine g_callR (v0 := .long (sp_X1_whole ((quX d (sp_X6_load_lo1 (tb k) (tl k) (th k) p) (sp_X7_unitsAt (nI p)) (sp_X6_load_hi1 (tb k) (tl k) (th k) p) (sp_X7_unitsAt (nI p))).1) ((quX d (sp_X6_load_lo1 (tb k) (tl k) (th k) p) (sp_X7_unitsAt (nI p)) (sp_X6_load_hi1 (tb k) (tl k) (th k) p) (sp_X7_unitsAt (nI p))).2.1))) (va_runV (As := []) (rest := []) ⟨hx, hb, hml, hown, hts⟩ (c_X1_whole l D y H.size (q 8) ((quX d (sp_X6_load_lo1 (tb k) (tl k) (th k) p) (sp_X7_unitsAt (nI p)) (sp_X6_load_hi1 (tb k) (tl k) (th k) p) (sp_X7_unitsAt (nI p))).1) ((quX d (sp_X6_load_lo1 (tb k) (tl k) (th k) p) (sp_X7_unitsAt (nI p)) (sp_X6_load_hi1 (tb k) (tl k) (th k) p) (sp_X7_unitsAt (nI p))).2.1)) (cwV 0 hts gX7_quotient_X1_whole rfl rfl rfl (by decide +kernel) ⟨Nat.le_of_ble_eq_true rfl, Nat.le_of_ble_eq_true rfl⟩) (gP_V hP hD hK [9] (by decide) rfl 9 rfl rfl) rfl rfl hl.1 rfl (lv_room (Nat.le_of_ble_eq_true rfl)) dX7_quotient_126 ⟨Nat.zero_le _, Nat.zero_le _⟩) ?_
      refine lv_l2i (v := (sp_X1_whole ((quX d (sp_X6_load_lo1 (tb k) (tl k) (th k) p) (sp_X7_unitsAt (nI p)) (sp_X6_load_hi1 (tb k) (tl k) (th k) p) (sp_X7_unitsAt (nI p))).1) ((quX d (sp_X6_load_lo1 (tb k) (tl k) (th k) p) (sp_X7_unitsAt (nI p)) (sp_X6_load_hi1 (tb k) (tl k) (th k) p) (sp_X7_unitsAt (nI p))).2.1)).toInt32) hx hb dX7_quotient_129 rfl ?_
      exact W.iret (v := (sp_X1_whole ((quX d (sp_X6_load_lo1 (tb k) (tl k) (th k) p) (sp_X7_unitsAt (nI p)) (sp_X6_load_hi1 (tb k) (tl k) (th k) p) (sp_X7_unitsAt (nI p))).1) ((quX d (sp_X6_load_lo1 (tb k) (tl k) (th k) p) (sp_X7_unitsAt (nI p)) (sp_X6_load_hi1 (tb k) (tl k) (th k) p) (sp_X7_unitsAt (nI p))).2.1)).toInt32) hx hb hr (fun t ht hW => ⟨⟨some (.int ((sp_X1_whole ((quX d (sp_X6_load_lo1 (tb k) (tl k) (th k) p) (sp_X7_unitsAt (nI p)) (sp_X6_load_hi1 (tb k) (tl k) (th k) p) (sp_X7_unitsAt (nI p))).1) ((quX d (sp_X6_load_lo1 (tb k) (tl k) (th k) p) (sp_X7_unitsAt (nI p)) (sp_X6_load_hi1 (tb k) (tl k) (th k) p) (sp_X7_unitsAt (nI p))).2.1)).toInt32)), wXp y ad h q n (sp_X6_load_b1 (tb k) (tl k) (th k) p) (sp_X6_load_lo1 (tb k) (tl k) (th k) p) (sp_X6_load_hi1 (tb k) (tl k) (th k) p) b2 l2 r2 b3 l3 r3 uz ul uh ((quX d (sp_X6_load_lo1 (tb k) (tl k) (th k) p) (sp_X7_unitsAt (nI p)) (sp_X6_load_hi1 (tb k) (tl k) (th k) p) (sp_X7_unitsAt (nI p))).1) ((quX d (sp_X6_load_lo1 (tb k) (tl k) (th k) p) (sp_X7_unitsAt (nI p)) (sp_X6_load_hi1 (tb k) (tl k) (th k) p) (sp_X7_unitsAt (nI p))).2.1) ((quX d (sp_X6_load_lo1 (tb k) (tl k) (th k) p) (sp_X7_unitsAt (nI p)) (sp_X6_load_hi1 (tb k) (tl k) (th k) p) (sp_X7_unitsAt (nI p))).2.2.1) ((quX d (sp_X6_load_lo1 (tb k) (tl k) (th k) p) (sp_X7_unitsAt (nI p)) (sp_X6_load_hi1 (tb k) (tl k) (th k) p) (sp_X7_unitsAt (nI p))).2.2.2) pa kd on ot pt fb fl fh tb tl th dg ds, rfl, ⟨rfl, ⟨_, _, _, _, _, _, _, _, _, _, _, _, _, _, _, _, rfl⟩⟩, rfl, by rw [ht]; exact hP⟩, by rw [← hAe]; exact hS.F ht⟩) (by rw [← hAe]; exact hS.2.2) dX7_quotient_130
    | succ m9 ih72 =>
      intro j xf1 xg1 xf2 xg2 hj hF H locs hP hD hS ls hl
      refine lv_iload hx hb dX7_quotient_72 (lv_at hl 4 rfl) ?_
      refine lv_iload_n hx hb dX7_quotient_74 rfl (lv_at hl 3 rfl) ?_
      refine lv_icmp_ge (tgt := 105) hx hb dX7_quotient_75 (by decide) (fun c_75 => absurd c_75 (nI_ge (by omega) (by omega))) (fun c_75 => ?_)
      refine lv_aload_n hx hb dX7_quotient_78 rfl (lv_at hl 0 rfl) ?_
      refine g_callR (v0 := .int (gB (sp_X7_isQuotientSure xf1 xg1 xf2 xg2))) (va_runV (As := []) (rest := []) ⟨hx, hb, hml, hown, hts⟩ (c_X7_isQuotientSure l hfl D y ad H.size h q n (sp_X6_load_b1 (tb k) (tl k) (th k) p) (sp_X6_load_lo1 (tb k) (tl k) (th k) p) (sp_X6_load_hi1 (tb k) (tl k) (th k) p) b2 l2 r2 b3 l3 r3 uz ul uh xf1 xg1 xf2 xg2 pa kd on ot pt fb fl fh tb tl th dg ds) (cwV 0 hts gX7_quotient_X7_isQuotientSure rfl rfl rfl (by decide +kernel) ⟨Nat.le_of_ble_eq_true rfl, Nat.le_of_ble_eq_true rfl⟩) (gPX_VA hP hD hK hE hS hA 0 rfl rfl) rfl rfl hl.1 rfl (lv_room (Nat.le_of_ble_eq_true rfl)) dX7_quotient_79 ⟨Nat.zero_le _, Nat.zero_le _⟩) ?_
      refine g_beq (tgt := 105) hx hb dX7_quotient_82 (by decide) (fun c_82 => ?_) (fun c_82 => ?_)
      · skip
        have hR9 : (xf1, xg1, xf2, xg2) = (quX d (sp_X6_load_lo1 (tb k) (tl k) (th k) p) (sp_X7_unitsAt (nI p)) (sp_X6_load_hi1 (tb k) (tl k) (th k) p) (sp_X7_unitsAt (nI p))) := by rw [← hF]; show _ = (if _ then _ else _); rw [if_neg c_82]
        have e1 : xf1 = (quX d (sp_X6_load_lo1 (tb k) (tl k) (th k) p) (sp_X7_unitsAt (nI p)) (sp_X6_load_hi1 (tb k) (tl k) (th k) p) (sp_X7_unitsAt (nI p))).1 := congrArg (fun z => z.1) hR9
        have e2 : xg1 = (quX d (sp_X6_load_lo1 (tb k) (tl k) (th k) p) (sp_X7_unitsAt (nI p)) (sp_X6_load_hi1 (tb k) (tl k) (th k) p) (sp_X7_unitsAt (nI p))).2.1 := congrArg (fun z => z.2.1) hR9
        have e3 : xf2 = (quX d (sp_X6_load_lo1 (tb k) (tl k) (th k) p) (sp_X7_unitsAt (nI p)) (sp_X6_load_hi1 (tb k) (tl k) (th k) p) (sp_X7_unitsAt (nI p))).2.2.1 := congrArg (fun z => z.2.2.1) hR9
        have e4 : xg2 = (quX d (sp_X6_load_lo1 (tb k) (tl k) (th k) p) (sp_X7_unitsAt (nI p)) (sp_X6_load_hi1 (tb k) (tl k) (th k) p) (sp_X7_unitsAt (nI p))).2.2.2 := congrArg (fun z => z.2.2.2) hR9
        rw [e1, e2, e3, e4] at hP hD
        refine lv_aload_n hx hb dX7_quotient_105 rfl (lv_at hl 0 rfl) ?_
        refine g_callR (v0 := .int (gB (sp_X7_isQuotientSure ((quX d (sp_X6_load_lo1 (tb k) (tl k) (th k) p) (sp_X7_unitsAt (nI p)) (sp_X6_load_hi1 (tb k) (tl k) (th k) p) (sp_X7_unitsAt (nI p))).1) ((quX d (sp_X6_load_lo1 (tb k) (tl k) (th k) p) (sp_X7_unitsAt (nI p)) (sp_X6_load_hi1 (tb k) (tl k) (th k) p) (sp_X7_unitsAt (nI p))).2.1) ((quX d (sp_X6_load_lo1 (tb k) (tl k) (th k) p) (sp_X7_unitsAt (nI p)) (sp_X6_load_hi1 (tb k) (tl k) (th k) p) (sp_X7_unitsAt (nI p))).2.2.1) ((quX d (sp_X6_load_lo1 (tb k) (tl k) (th k) p) (sp_X7_unitsAt (nI p)) (sp_X6_load_hi1 (tb k) (tl k) (th k) p) (sp_X7_unitsAt (nI p))).2.2.2)))) (va_runV (As := []) (rest := []) ⟨hx, hb, hml, hown, hts⟩ (c_X7_isQuotientSure l hfl D y ad H.size h q n (sp_X6_load_b1 (tb k) (tl k) (th k) p) (sp_X6_load_lo1 (tb k) (tl k) (th k) p) (sp_X6_load_hi1 (tb k) (tl k) (th k) p) b2 l2 r2 b3 l3 r3 uz ul uh ((quX d (sp_X6_load_lo1 (tb k) (tl k) (th k) p) (sp_X7_unitsAt (nI p)) (sp_X6_load_hi1 (tb k) (tl k) (th k) p) (sp_X7_unitsAt (nI p))).1) ((quX d (sp_X6_load_lo1 (tb k) (tl k) (th k) p) (sp_X7_unitsAt (nI p)) (sp_X6_load_hi1 (tb k) (tl k) (th k) p) (sp_X7_unitsAt (nI p))).2.1) ((quX d (sp_X6_load_lo1 (tb k) (tl k) (th k) p) (sp_X7_unitsAt (nI p)) (sp_X6_load_hi1 (tb k) (tl k) (th k) p) (sp_X7_unitsAt (nI p))).2.2.1) ((quX d (sp_X6_load_lo1 (tb k) (tl k) (th k) p) (sp_X7_unitsAt (nI p)) (sp_X6_load_hi1 (tb k) (tl k) (th k) p) (sp_X7_unitsAt (nI p))).2.2.2) pa kd on ot pt fb fl fh tb tl th dg ds) (cwV 0 hts gX7_quotient_X7_isQuotientSure rfl rfl rfl (by decide +kernel) ⟨Nat.le_of_ble_eq_true rfl, Nat.le_of_ble_eq_true rfl⟩) (gPX_VA hP hD hK hE hS hA 0 rfl rfl) rfl rfl hl.1 rfl (lv_room (Nat.le_of_ble_eq_true rfl)) dX7_quotient_106 ⟨Nat.zero_le _, Nat.zero_le _⟩) ?_
        refine g_bne (tgt := 122) hx hb dX7_quotient_109 (by decide) (fun c_109 => ?_) (fun c_109 => absurd hs c_109)
        refine lv_aload_n hx hb dX7_quotient_122 rfl (lv_at hl 0 rfl) ?_
        refine va_get (D := D) (ci := 5) (v := .ref (q 8)) (C := RX7) (T := TX7) (N := 8) hx hb hts in_X7_quotient_X7 hown hK.1 hP 0 rfl rfl 6 (by decide) (hts (.fieldLink RX7 44 "Nestlimit" "lowEnd" "LNestlimit$Fraction;") (List.mem_of_getElem? (i := 5) rfl)) (fun _ h9 => h9) rfl dX7_quotient_123 ?_
        refine g_callR (v0 := .long (sp_X1_whole ((quX d (sp_X6_load_lo1 (tb k) (tl k) (th k) p) (sp_X7_unitsAt (nI p)) (sp_X6_load_hi1 (tb k) (tl k) (th k) p) (sp_X7_unitsAt (nI p))).1) ((quX d (sp_X6_load_lo1 (tb k) (tl k) (th k) p) (sp_X7_unitsAt (nI p)) (sp_X6_load_hi1 (tb k) (tl k) (th k) p) (sp_X7_unitsAt (nI p))).2.1))) (va_runV (As := []) (rest := []) ⟨hx, hb, hml, hown, hts⟩ (c_X1_whole l D y H.size (q 8) ((quX d (sp_X6_load_lo1 (tb k) (tl k) (th k) p) (sp_X7_unitsAt (nI p)) (sp_X6_load_hi1 (tb k) (tl k) (th k) p) (sp_X7_unitsAt (nI p))).1) ((quX d (sp_X6_load_lo1 (tb k) (tl k) (th k) p) (sp_X7_unitsAt (nI p)) (sp_X6_load_hi1 (tb k) (tl k) (th k) p) (sp_X7_unitsAt (nI p))).2.1)) (cwV 0 hts gX7_quotient_X1_whole rfl rfl rfl (by decide +kernel) ⟨Nat.le_of_ble_eq_true rfl, Nat.le_of_ble_eq_true rfl⟩) (gP_V hP hD hK [9] (by decide) rfl 9 rfl rfl) rfl rfl hl.1 rfl (lv_room (Nat.le_of_ble_eq_true rfl)) dX7_quotient_126 ⟨Nat.zero_le _, Nat.zero_le _⟩) ?_
        refine lv_l2i (v := (sp_X1_whole ((quX d (sp_X6_load_lo1 (tb k) (tl k) (th k) p) (sp_X7_unitsAt (nI p)) (sp_X6_load_hi1 (tb k) (tl k) (th k) p) (sp_X7_unitsAt (nI p))).1) ((quX d (sp_X6_load_lo1 (tb k) (tl k) (th k) p) (sp_X7_unitsAt (nI p)) (sp_X6_load_hi1 (tb k) (tl k) (th k) p) (sp_X7_unitsAt (nI p))).2.1)).toInt32) hx hb dX7_quotient_129 rfl ?_
        exact W.iret (v := (sp_X1_whole ((quX d (sp_X6_load_lo1 (tb k) (tl k) (th k) p) (sp_X7_unitsAt (nI p)) (sp_X6_load_hi1 (tb k) (tl k) (th k) p) (sp_X7_unitsAt (nI p))).1) ((quX d (sp_X6_load_lo1 (tb k) (tl k) (th k) p) (sp_X7_unitsAt (nI p)) (sp_X6_load_hi1 (tb k) (tl k) (th k) p) (sp_X7_unitsAt (nI p))).2.1)).toInt32) hx hb hr (fun t ht hW => ⟨⟨some (.int ((sp_X1_whole ((quX d (sp_X6_load_lo1 (tb k) (tl k) (th k) p) (sp_X7_unitsAt (nI p)) (sp_X6_load_hi1 (tb k) (tl k) (th k) p) (sp_X7_unitsAt (nI p))).1) ((quX d (sp_X6_load_lo1 (tb k) (tl k) (th k) p) (sp_X7_unitsAt (nI p)) (sp_X6_load_hi1 (tb k) (tl k) (th k) p) (sp_X7_unitsAt (nI p))).2.1)).toInt32)), wXp y ad h q n (sp_X6_load_b1 (tb k) (tl k) (th k) p) (sp_X6_load_lo1 (tb k) (tl k) (th k) p) (sp_X6_load_hi1 (tb k) (tl k) (th k) p) b2 l2 r2 b3 l3 r3 uz ul uh ((quX d (sp_X6_load_lo1 (tb k) (tl k) (th k) p) (sp_X7_unitsAt (nI p)) (sp_X6_load_hi1 (tb k) (tl k) (th k) p) (sp_X7_unitsAt (nI p))).1) ((quX d (sp_X6_load_lo1 (tb k) (tl k) (th k) p) (sp_X7_unitsAt (nI p)) (sp_X6_load_hi1 (tb k) (tl k) (th k) p) (sp_X7_unitsAt (nI p))).2.1) ((quX d (sp_X6_load_lo1 (tb k) (tl k) (th k) p) (sp_X7_unitsAt (nI p)) (sp_X6_load_hi1 (tb k) (tl k) (th k) p) (sp_X7_unitsAt (nI p))).2.2.1) ((quX d (sp_X6_load_lo1 (tb k) (tl k) (th k) p) (sp_X7_unitsAt (nI p)) (sp_X6_load_hi1 (tb k) (tl k) (th k) p) (sp_X7_unitsAt (nI p))).2.2.2) pa kd on ot pt fb fl fh tb tl th dg ds, rfl, ⟨rfl, ⟨_, _, _, _, _, _, _, _, _, _, _, _, _, _, _, _, rfl⟩⟩, rfl, by rw [ht]; exact hP⟩, by rw [← hAe]; exact hS.F ht⟩) (by rw [← hAe]; exact hS.2.2) dX7_quotient_130
      · skip
        refine lv_aload_n hx hb dX7_quotient_85 rfl (lv_at hl 0 rfl) ?_
        refine va_get (D := D) (ci := 5) (v := .ref (q 8)) (C := RX7) (T := TX7) (N := 8) hx hb hts in_X7_quotient_X7 hown hK.1 hP 0 rfl rfl 6 (by decide) (hts (.fieldLink RX7 44 "Nestlimit" "lowEnd" "LNestlimit$Fraction;") (List.mem_of_getElem? (i := 5) rfl)) (fun _ h9 => h9) rfl dX7_quotient_86 ?_
        refine g_callv (va_runV (As := []) (rest := []) ⟨hx, hb, hml, hown, hts⟩ (c_X1_turnOver l D y H.size (q 8) xf1 xg1) (cwV 0 hts gX7_quotient_X1_turnOver rfl rfl rfl (by decide +kernel) ⟨Nat.le_of_ble_eq_true rfl, Nat.le_of_ble_eq_true rfl⟩) (gP_V hP hD hK [9] (by decide) rfl 9 rfl rfl) rfl rfl hl.1 rfl (lv_room (Nat.le_of_ble_eq_true rfl)) dX7_quotient_89 ⟨Nat.zero_le _, Nat.zero_le _⟩) hP hD hS hA [9] rfl (fun H locs hP hD hS => ?_)
        have hP : va_P D vwCl (wXp y ad h q n (sp_X6_load_b1 (tb k) (tl k) (th k) p) (sp_X6_load_lo1 (tb k) (tl k) (th k) p) (sp_X6_load_hi1 (tb k) (tl k) (th k) p) b2 l2 r2 b3 l3 r3 uz ul uh xg1 (xf1 - ((sp_X1_whole xf1 xg1) * xg1)) xf2 xg2 pa kd on ot pt fb fl fh tb tl th dg ds) H := hP
        have hD : va_D A (wXp y ad h q n (sp_X6_load_b1 (tb k) (tl k) (th k) p) (sp_X6_load_lo1 (tb k) (tl k) (th k) p) (sp_X6_load_hi1 (tb k) (tl k) (th k) p) b2 l2 r2 b3 l3 r3 uz ul uh xg1 (xf1 - ((sp_X1_whole xf1 xg1) * xg1)) xf2 xg2 pa kd on ot pt fb fl fh tb tl th dg ds) := hD
        refine lv_aload_n hx hb dX7_quotient_92 rfl (lv_at hl 0 rfl) ?_
        refine va_get (D := D) (ci := 5) (v := .ref (q 9)) (C := RX7) (T := TX7) (N := 8) hx hb hts in_X7_quotient_X7 hown hK.1 hP 0 rfl rfl 7 (by decide) (hts (.fieldLink RX7 48 "Nestlimit" "highEnd" "LNestlimit$Fraction;") (List.mem_of_getElem? (i := 7) rfl)) (fun _ h9 => h9) rfl dX7_quotient_93 ?_
        refine g_callv (va_runV (As := []) (rest := []) ⟨hx, hb, hml, hown, hts⟩ (c_X1_turnOver l D y H.size (q 9) xf2 xg2) (cwV 0 hts gX7_quotient_X1_turnOver rfl rfl rfl (by decide +kernel) ⟨Nat.le_of_ble_eq_true rfl, Nat.le_of_ble_eq_true rfl⟩) (gP_V hP hD hK [10] (by decide) rfl 10 rfl rfl) rfl rfl hl.1 rfl (lv_room (Nat.le_of_ble_eq_true rfl)) dX7_quotient_96 ⟨Nat.zero_le _, Nat.zero_le _⟩) hP hD hS hA [10] rfl (fun H locs hP hD hS => ?_)
        have hP : va_P D vwCl (wXp y ad h q n (sp_X6_load_b1 (tb k) (tl k) (th k) p) (sp_X6_load_lo1 (tb k) (tl k) (th k) p) (sp_X6_load_hi1 (tb k) (tl k) (th k) p) b2 l2 r2 b3 l3 r3 uz ul uh xg1 (xf1 - ((sp_X1_whole xf1 xg1) * xg1)) xg2 (xf2 - ((sp_X1_whole xf2 xg2) * xg2)) pa kd on ot pt fb fl fh tb tl th dg ds) H := hP
        have hD : va_D A (wXp y ad h q n (sp_X6_load_b1 (tb k) (tl k) (th k) p) (sp_X6_load_lo1 (tb k) (tl k) (th k) p) (sp_X6_load_hi1 (tb k) (tl k) (th k) p) b2 l2 r2 b3 l3 r3 uz ul uh xg1 (xf1 - ((sp_X1_whole xf1 xg1) * xg1)) xg2 (xf2 - ((sp_X1_whole xf2 xg2) * xg2)) pa kd on ot pt fb fl fh tb tl th dg ds) := hD
        refine lv_iinc (v := nI (j + 1)) (lv' := [(4, .int (nI (j + 1))), (0, .ref h), (1, .int (nI k)), (2, .int (nI p)), (3, .int (nI d))]) hx hb dX7_quotient_99 hl (k := 4) rfl (nI_add j 1) (by decide) rfl (fun ls hl => ?_)
        refine lv_goto (tgt := 72) hx hb dX7_quotient_102 (by decide) ?_
        exact ih72 (j + 1) xg1 (xf1 - ((sp_X1_whole xf1 xg1) * xg1)) xg2 (xf2 - ((sp_X1_whole xf2 xg2) * xg2)) (by omega) (by rw [← hF]; show _ = (if _ then _ else _); rw [if_pos c_82]) _ _ hP hD hS ls (lv_sub hl [1, 2, 3, 4, 0] rfl)
  exact LOOP72 d 0 (sp_X6_load_lo1 (tb k) (tl k) (th k) p) (sp_X7_unitsAt (nI p)) (sp_X6_load_hi1 (tb k) (tl k) (th k) p) (sp_X7_unitsAt (nI p)) (by omega) (rfl) _ _ hP hD hS ls (lv_sub hl [1, 2, 3, 4, 0] rfl)
theorem in_X7_digitAt_X2 : ∀ w ∈ wsX20, w ∈ wsX7_digitAt := fun _ h => List.mem_cons_of_mem _ (List.mem_append_left _ (List.mem_append_right _ h))
theorem in_X7_digitAt_X5 : ∀ w ∈ wsX50, w ∈ wsX7_digitAt := fun _ h => List.mem_cons_of_mem _ (List.mem_append_left _ (List.mem_append_left _ (List.mem_append_left _ (List.mem_append_right _ h))))
theorem in_X7_digitAt_X7 : ∀ w ∈ wsX70, w ∈ wsX7_digitAt := fun _ h => List.mem_cons_of_mem _ (List.mem_append_left _ (List.mem_append_left _ (List.mem_append_right _ h)))
def sp_X7_digitAt (tb : Nat → Nat → Bool) (tl th : Nat → Nat → Int64) (dg : Nat → Int32) (ds : Nat → Int64) (k p : Nat) : Int32 := if (sp_X6_load_b1 (tb k) (tl k) (th k) p) = true then if (dg k) = 0 then if ((sp_X6_load_lo1 (tb k) (tl k) (th k) p) - ((ds k) * (sp_X7_unitsAt ((nI p) - (dg k))))) < (-(sp_X7_unitsAt ((nI p) - (dg k)))) then 2 else if ((sp_X6_load_hi1 (tb k) (tl k) (th k) p) - ((ds k) * (sp_X7_unitsAt ((nI p) - (dg k))))) ≤ (sp_X7_unitsAt ((nI p) - (dg k))) then if (2 * ((sp_X6_load_lo1 (tb k) (tl k) (th k) p) - ((ds k) * (sp_X7_unitsAt ((nI p) - (dg k)))))) < (-(sp_X7_unitsAt ((nI p) - (dg k)))) then if ((sp_X6_load_lo1 (tb k) (tl k) (th k) p) - ((ds k) * (sp_X7_unitsAt ((nI p) - (dg k))))) < 0 then if 0 < ((sp_X6_load_hi1 (tb k) (tl k) (th k) p) - ((ds k) * (sp_X7_unitsAt ((nI p) - (dg k))))) then 2 else -1 else 1 else if (sp_X7_unitsAt ((nI p) - (dg k))) < (2 * ((sp_X6_load_hi1 (tb k) (tl k) (th k) p) - ((ds k) * (sp_X7_unitsAt ((nI p) - (dg k)))))) then if ((sp_X6_load_lo1 (tb k) (tl k) (th k) p) - ((ds k) * (sp_X7_unitsAt ((nI p) - (dg k))))) < 0 then if 0 < ((sp_X6_load_hi1 (tb k) (tl k) (th k) p) - ((ds k) * (sp_X7_unitsAt ((nI p) - (dg k))))) then 2 else -1 else 1 else 0 else 2 else if (2 * ((sp_X6_load_lo1 (tb k) (tl k) (th k) p) - ((ds k) * (sp_X7_unitsAt ((nI p) - (dg k)))))) < (-(sp_X7_unitsAt ((nI p) - (dg k)))) then if ((sp_X6_load_lo1 (tb k) (tl k) (th k) p) - ((ds k) * (sp_X7_unitsAt ((nI p) - (dg k))))) < 0 then if 0 < ((sp_X6_load_hi1 (tb k) (tl k) (th k) p) - ((ds k) * (sp_X7_unitsAt ((nI p) - (dg k))))) then 2 else -1 else 1 else if (sp_X7_unitsAt ((nI p) - (dg k))) < (2 * ((sp_X6_load_hi1 (tb k) (tl k) (th k) p) - ((ds k) * (sp_X7_unitsAt ((nI p) - (dg k)))))) then if ((sp_X6_load_lo1 (tb k) (tl k) (th k) p) - ((ds k) * (sp_X7_unitsAt ((nI p) - (dg k))))) < 0 then if 0 < ((sp_X6_load_hi1 (tb k) (tl k) (th k) p) - ((ds k) * (sp_X7_unitsAt ((nI p) - (dg k))))) then 2 else -1 else 1 else 0 else 2
set_option maxHeartbeats 4000000 in
set_option maxRecDepth 100000 in
theorem c_X7_digitAt (l : Launch) (hfl : l.stackTraces = false) (D : va_G) (y : Nat → ClassId) (ad : Nat → Nat) (sz : Nat) (h : Nat) (q : Nat → Nat) (n : Nat) (b1 : Bool) (l1 r1 : Int64) (b2 : Bool) (l2 r2 : Int64) (b3 : Bool) (l3 r3 : Int64) (uz : Nat → Bool) (ul uh : Nat → Int64) (f1 g1 f2 g2 : Int64) (pa : Nat → Nat → Nat) (kd : Nat → Nat) (on ot : Nat → Int32) (pt : Nat → Int64) (fb : Nat → Nat → Bool) (fl fh : Nat → Nat → Int64) (tb : Nat → Nat → Bool) (tl th : Nat → Nat → Int64) (dg : Nat → Int32) (ds : Nat → Int64) (k p : Nat) (hn : n ≤ 40) (hk : k < n) (hp : p < 25) : Met l yX7_digitAt wsX7_digitAt ({ frames := 2, cells := 0, slots := 0, locals := 46 } : Room) (gPX D y ad [.ref h, .ref (pa k 0), .int (nI p)] (wXp y ad h q n b1 l1 r1 b2 l2 r2 b3 l3 r3 uz ul uh f1 g1 f2 g2 pa kd on ot pt fb fl fh tb tl th dg ds) sz) (gQ D (wXp y ad h q n b1 l1 r1 b2 l2 r2 b3 l3 r3 uz ul uh f1 g1 f2 g2 pa kd on ot pt fb fl fh tb tl th dg ds) (fun v w => v = some (.int (sp_X7_digitAt tb tl th dg ds k p)) ∧ xScr y ad h q n pa kd on ot pt fb fl fh tb tl th dg ds w)) 0 0 (va_A (wXp y ad h q n b1 l1 r1 b2 l2 r2 b3 l3 r3 uz ul uh f1 g1 f2 g2 pa kd on ot pt fb fl fh tb tl th dg ds) sz) := by
  refine Met.ofW (cc := cX7_digitAt) (maxL := 9) (ret := (some .int)) (by decide) rfl ?_
  intro pg e s m args below meth c s₁ B hml hv
  obtain ⟨rfl, hsz, hP, hK, hD0, hE0⟩ := hv
  have hx := B.exec
  have hb := B.bytes
  have hr := B.returns
  have hts := atoms_spec (ws := wsX7_digitAt) B.pre
  have hown : s.vm.findClass RX7 = some m.cls := findClass_of_methodNamed B.named
  have hlocks := B.notSynchronized
  subst hsz
  obtain ⟨A, hAe⟩ : ∃ A : Nat → Prop, A = va_A (wXp y ad h q n b1 l1 r1 b2 l2 r2 b3 l3 r3 uz ul uh f1 g1 f2 g2 pa kd on ot pt fb fl fh tb tl th dg ds) s.heap.size := ⟨_, rfl⟩
  have hE : gE ad A s s.heap := by rw [hAe]; exact hE0
  have hD : va_D A (wXp y ad h q n b1 l1 r1 b2 l2 r2 b3 l3 r3 uz ul uh f1 g1 f2 g2 pa kd on ot pt fb fl fh tb tl th dg ds) := by rw [hAe]; exact hD0.self (sz := s.heap.size)
  have hA : ∀ q : Nat, s.heap.size ≤ q → A q := fun q h => by rw [hAe]; exact Or.inr h
  have hS : va_S A s.heap s.heap [] := va_S.rf
  have hl := lv_entry ([.ref h, .ref (pa k 0), .int (nI p)]) (n := 9) (Nat.le_of_ble_eq_true rfl)
  rw [lg_entry_eq]
  generalize (lg_sl ([.ref h, .ref (pa k 0), .int (nI p)]) ++ List.replicate (9 - (lg_sl ([.ref h, .ref (pa k 0), .int (nI p)])).length) Slot.unset).toArray = ls at hl ⊢
  have hl : lv_has ls 9 [(0, .ref h), (1, .ref (pa k 0)), (2, .int (nI p))] := hl
  refine lv_aload_n hx hb dX7_digitAt_0 rfl (lv_at hl 1 rfl) ?_
  refine va_get (D := D) (ci := 3) (v := .ref (pa k 5)) (C := RX5) (T := TX5) (N := 8) hx hb hts in_X7_digitAt_X5 hown hK.1 hP (9 * k + 0 + 11) (gPL_at (j := 0) (fun _ => rfl) (by decide) hk) rfl 5 (by decide) (hts (.fieldLink RX7 170 "Nestlimit$Program" "told" "LNestlimit$Row;") (List.mem_of_getElem? (i := 1) rfl)) (fun _ h9 => h9) rfl dX7_digitAt_1 ?_
  refine lv_iload_n hx hb dX7_digitAt_4 rfl (lv_at hl 2 rfl) ?_
  refine lv_aload_n hx hb dX7_digitAt_5 rfl (lv_at hl 0 rfl) ?_
  refine va_get (D := D) (ci := 5) (v := .ref (q 1)) (C := RX7) (T := TX7) (N := 8) hx hb hts in_X7_digitAt_X7 hown hK.1 hP 0 rfl rfl 2 (by decide) (hts (.fieldLink RX7 22 "Nestlimit" "answer" "LNestlimit$Interval;") (List.mem_of_getElem? (i := 2) rfl)) (fun _ h9 => h9) rfl dX7_digitAt_6 ?_
  refine g_callW (wc := [((pa k 5), .inr (4, [.ref (pa k 6), .ref (pa k 7), .ref (pa k 8)])), ((pa k 6), .inl (y 2, 25, .inl (gZ (tb k)))), ((pa k 7), .inl (y 1, 25, .inr (.inl (tl k)))), ((pa k 8), .inl (y 1, 25, .inr (.inl (th k)))), ((q 1), .inr (1, [.int (gB b1), .long l1, .long r1]))]) (b := (q 1)) (e0 := .inr (1, [.int (gB b1), .long l1, .long r1])) (e1 := .inr (1, [.int (gB (sp_X6_load_b1 (tb k) (tl k) (th k) p)), .long (sp_X6_load_lo1 (tb k) (tl k) (th k) p), .long (sp_X6_load_hi1 (tb k) (tl k) (th k) p)])) (v0 := none) (fun w0 hw0 => by subst hw0; exact (va_runV (As := [.int (nI p), .ref (q 1)]) (rest := []) ⟨hx, hb, hml, hown, hts⟩ (c_X6_load l D y s.heap.size (pa k 5) (pa k 6) (pa k 7) (pa k 8) 25 (tb k) (tl k) (th k) (q 1) b1 l1 r1 p (by omega) (by decide)) (cwV 2 hts gX7_digitAt_X6_load rfl rfl rfl (by decide +kernel) ⟨Nat.le_of_ble_eq_true rfl, Nat.le_of_ble_eq_true rfl⟩) (gP_VI hP hD hK [9 * k + 5 + 11, 9 * k + 6 + 11, 9 * k + 7 + 11, 9 * k + 8 + 11, 2] (by simp <;> omega) (by show [(gPL _ _)[9 * k + 5]?, (gPL _ _)[9 * k + 6]?, (gPL _ _)[9 * k + 7]?, (gPL _ _)[9 * k + 8]?, some _] = _; rw [gPL_at (j := 5) (fun _ => rfl) (by decide) hk, gPL_at (j := 6) (fun _ => rfl) (by decide) hk, gPL_at (j := 7) (fun _ => rfl) (by decide) hk, gPL_at (j := 8) (fun _ => rfl) (by decide) hk]; rfl) 0 rfl rfl) rfl rfl hl.1 rfl (lv_room (Nat.le_of_ble_eq_true rfl)) dX7_digitAt_9 ⟨Nat.zero_le _, Nat.zero_le _⟩)) hP hD hS hA [9 * k + 5 + 11, 9 * k + 6 + 11, 9 * k + 7 + 11, 9 * k + 8 + 11, 2] (by show [(gPL _ _)[9 * k + 5]?, (gPL _ _)[9 * k + 6]?, (gPL _ _)[9 * k + 7]?, (gPL _ _)[9 * k + 8]?, some _] = _; rw [gPL_at (j := 5) (fun _ => rfl) (by decide) hk, gPL_at (j := 6) (fun _ => rfl) (by decide) hk, gPL_at (j := 7) (fun _ => rfl) (by decide) hk, gPL_at (j := 8) (fun _ => rfl) (by decide) hk]; rfl) 2 rfl ⟨[((pa k 5), .inr (4, [.ref (pa k 6), .ref (pa k 7), .ref (pa k 8)])), ((pa k 6), .inl (y 2, 25, .inl (gZ (tb k)))), ((pa k 7), .inl (y 1, 25, .inr (.inl (tl k)))), ((pa k 8), .inl (y 1, 25, .inr (.inl (th k))))], rfl⟩ (fun H locs hP hD hS => ?_)
  have hP : va_P D vwCl (wXp y ad h q n (sp_X6_load_b1 (tb k) (tl k) (th k) p) (sp_X6_load_lo1 (tb k) (tl k) (th k) p) (sp_X6_load_hi1 (tb k) (tl k) (th k) p) b2 l2 r2 b3 l3 r3 uz ul uh f1 g1 f2 g2 pa kd on ot pt fb fl fh tb tl th dg ds) H := hP
  have hD : va_D A (wXp y ad h q n (sp_X6_load_b1 (tb k) (tl k) (th k) p) (sp_X6_load_lo1 (tb k) (tl k) (th k) p) (sp_X6_load_hi1 (tb k) (tl k) (th k) p) b2 l2 r2 b3 l3 r3 uz ul uh f1 g1 f2 g2 pa kd on ot pt fb fl fh tb tl th dg ds) := hD
  refine lv_aload_n hx hb dX7_digitAt_12 rfl (lv_at hl 0 rfl) ?_
  refine va_get (D := D) (ci := 5) (v := .ref (q 1)) (C := RX7) (T := TX7) (N := 8) hx hb hts in_X7_digitAt_X7 hown hK.1 hP 0 rfl rfl 2 (by decide) (hts (.fieldLink RX7 22 "Nestlimit" "answer" "LNestlimit$Interval;") (List.mem_of_getElem? (i := 2) rfl)) (fun _ h9 => h9) rfl dX7_digitAt_13 ?_
  refine va_get (D := D) (ci := 1) (v := .int (gB (sp_X6_load_b1 (tb k) (tl k) (th k) p))) (C := RX2) (T := TX2) (N := 3) hx hb hts in_X7_digitAt_X2 hown hK.1 hP 2 rfl rfl 0 (by decide) (hts (.fieldLink RX7 173 "Nestlimit$Interval" "isThere" "Z") (List.mem_of_getElem? (i := 3) rfl)) (fun _ h9 => h9) rfl dX7_digitAt_16 ?_
  refine g_bne (tgt := 24) hx hb dX7_digitAt_19 (by decide) (fun c_19 => ?_) (fun c_19 => ?_)
  · skip
    refine lv_iload_n hx hb dX7_digitAt_24 rfl (lv_at hl 2 rfl) ?_
    refine lv_aload_n hx hb dX7_digitAt_25 rfl (lv_at hl 1 rfl) ?_
    refine va_get (D := D) (ci := 3) (v := .int (dg k)) (C := RX5) (T := TX5) (N := 8) hx hb hts in_X7_digitAt_X5 hown hK.1 hP (9 * k + 0 + 11) (gPL_at (j := 0) (fun _ => rfl) (by decide) hk) rfl 6 (by decide) (hts (.fieldLink RX7 220 "Nestlimit$Program" "digits" "I") (List.mem_of_getElem? (i := 4) rfl)) (fun _ h9 => h9) rfl dX7_digitAt_26 ?_
    refine lv_isub hx hb dX7_digitAt_29 ?_
    refine g_callR (v0 := .long (sp_X7_unitsAt ((nI p) - (dg k)))) (va_runS (As := [.int ((nI p) - (dg k))]) (rest := []) ⟨hx, hb, hml, hown, hts⟩ (c_X7_unitsAt l D y H.size ((nI p) - (dg k))) (va_cwS 1 hts gX7_digitAt_X7_unitsAt rfl rfl rfl (by decide +kernel) ⟨Nat.le_of_ble_eq_true rfl, Nat.le_of_ble_eq_true rfl⟩) (gP_S hP hD hK [] (by decide) rfl) rfl rfl hl.1 rfl (lv_room (Nat.le_of_ble_eq_true rfl)) dX7_digitAt_30 ⟨Nat.zero_le _, Nat.zero_le _⟩) ?_
    refine lv_lstore_n (lv' := [(3, .long (sp_X7_unitsAt ((nI p) - (dg k)))), (0, .ref h), (1, .ref (pa k 0)), (2, .int (nI p))]) hx hb dX7_digitAt_33 rfl hl (by decide) rfl (fun ls hl => ?_)
    refine lv_aload_n hx hb dX7_digitAt_34 rfl (lv_at hl 1 rfl) ?_
    refine va_get (D := D) (ci := 5) (v := .ref (q 1)) (C := RX7) (T := TX7) (N := 8) hx hb hts in_X7_digitAt_X7 hown hK.1 hP 0 rfl rfl 2 (by decide) (hts (.fieldLink RX7 22 "Nestlimit" "answer" "LNestlimit$Interval;") (List.mem_of_getElem? (i := 2) rfl)) (fun _ h9 => h9) rfl dX7_digitAt_35 ?_
    refine va_get (D := D) (ci := 1) (v := .long (sp_X6_load_lo1 (tb k) (tl k) (th k) p)) (C := RX2) (T := TX2) (N := 3) hx hb hts in_X7_digitAt_X2 hown hK.1 hP 2 rfl rfl 1 (by decide) (hts (.fieldLink RX7 181 "Nestlimit$Interval" "low" "J") (List.mem_of_getElem? (i := 5) rfl)) (fun _ h9 => h9) rfl dX7_digitAt_38 ?_
    refine lv_aload_n hx hb dX7_digitAt_41 rfl (lv_at hl 2 rfl) ?_
    refine va_get (D := D) (ci := 3) (v := .long (ds k)) (C := RX5) (T := TX5) (N := 8) hx hb hts in_X7_digitAt_X5 hown hK.1 hP (9 * k + 0 + 11) (gPL_at (j := 0) (fun _ => rfl) (by decide) hk) rfl 7 (by decide) (hts (.fieldLink RX7 231 "Nestlimit$Program" "digitSum" "J") (List.mem_of_getElem? (i := 6) rfl)) (fun _ h9 => h9) rfl dX7_digitAt_42 ?_
    refine lv_lload_n hx hb dX7_digitAt_45 rfl (lv_at hl 0 rfl) ?_
    refine lv_lmul hx hb dX7_digitAt_46 ?_
    refine lv_lsub hx hb dX7_digitAt_47 ?_
    refine lv_lstore (lv' := [(5, .long ((sp_X6_load_lo1 (tb k) (tl k) (th k) p) - ((ds k) * (sp_X7_unitsAt ((nI p) - (dg k)))))), (3, .long (sp_X7_unitsAt ((nI p) - (dg k)))), (0, .ref h), (1, .ref (pa k 0)), (2, .int (nI p))]) hx hb dX7_digitAt_48 hl (by decide) rfl (fun ls hl => ?_)
    refine lv_aload_n hx hb dX7_digitAt_50 rfl (lv_at hl 2 rfl) ?_
    refine va_get (D := D) (ci := 5) (v := .ref (q 1)) (C := RX7) (T := TX7) (N := 8) hx hb hts in_X7_digitAt_X7 hown hK.1 hP 0 rfl rfl 2 (by decide) (hts (.fieldLink RX7 22 "Nestlimit" "answer" "LNestlimit$Interval;") (List.mem_of_getElem? (i := 2) rfl)) (fun _ h9 => h9) rfl dX7_digitAt_51 ?_
    refine va_get (D := D) (ci := 1) (v := .long (sp_X6_load_hi1 (tb k) (tl k) (th k) p)) (C := RX2) (T := TX2) (N := 3) hx hb hts in_X7_digitAt_X2 hown hK.1 hP 2 rfl rfl 2 (by decide) (hts (.fieldLink RX7 177 "Nestlimit$Interval" "high" "J") (List.mem_of_getElem? (i := 7) rfl)) (fun _ h9 => h9) rfl dX7_digitAt_54 ?_
    refine lv_aload_n hx hb dX7_digitAt_57 rfl (lv_at hl 3 rfl) ?_
    refine va_get (D := D) (ci := 3) (v := .long (ds k)) (C := RX5) (T := TX5) (N := 8) hx hb hts in_X7_digitAt_X5 hown hK.1 hP (9 * k + 0 + 11) (gPL_at (j := 0) (fun _ => rfl) (by decide) hk) rfl 7 (by decide) (hts (.fieldLink RX7 231 "Nestlimit$Program" "digitSum" "J") (List.mem_of_getElem? (i := 6) rfl)) (fun _ h9 => h9) rfl dX7_digitAt_58 ?_
    refine lv_lload_n hx hb dX7_digitAt_61 rfl (lv_at hl 1 rfl) ?_
    refine lv_lmul hx hb dX7_digitAt_62 ?_
    refine lv_lsub hx hb dX7_digitAt_63 ?_
    refine lv_lstore (lv' := [(7, .long ((sp_X6_load_hi1 (tb k) (tl k) (th k) p) - ((ds k) * (sp_X7_unitsAt ((nI p) - (dg k)))))), (5, .long ((sp_X6_load_lo1 (tb k) (tl k) (th k) p) - ((ds k) * (sp_X7_unitsAt ((nI p) - (dg k)))))), (3, .long (sp_X7_unitsAt ((nI p) - (dg k)))), (0, .ref h), (1, .ref (pa k 0)), (2, .int (nI p))]) hx hb dX7_digitAt_64 hl (by decide) rfl (fun ls hl => ?_)
    refine lv_aload_n hx hb dX7_digitAt_66 rfl (lv_at hl 4 rfl) ?_
    refine va_get (D := D) (ci := 3) (v := .int (dg k)) (C := RX5) (T := TX5) (N := 8) hx hb hts in_X7_digitAt_X5 hown hK.1 hP (9 * k + 0 + 11) (gPL_at (j := 0) (fun _ => rfl) (by decide) hk) rfl 6 (by decide) (hts (.fieldLink RX7 220 "Nestlimit$Program" "digits" "I") (List.mem_of_getElem? (i := 4) rfl)) (fun _ h9 => h9) rfl dX7_digitAt_67 ?_
    refine lv_if_ne (tgt := 90) hx hb dX7_digitAt_70 (by decide) (fun c_70 => ?_) (fun c_70 => ?_)
    · skip
      refine lv_ldc2 (v := 2) hx hb hown (hts (.constantLong RX7 229 (2)) (List.mem_of_getElem? (i := 8) rfl)) dX7_digitAt_90 ?_
      refine lv_lload hx hb dX7_digitAt_93 (lv_at hl 1 rfl) ?_
      refine lv_lmul hx hb dX7_digitAt_95 ?_
      refine lv_lload_n hx hb dX7_digitAt_96 rfl (lv_at hl 2 rfl) ?_
      refine lv_lneg hx hb dX7_digitAt_97 ?_
      refine g_lt (tgt := 115) hx hb dX7_digitAt_98 dX7_digitAt_99 (by decide) (fun c_98 => ?_) (fun c_98 => ?_)
      · skip
        refine lv_lload hx hb dX7_digitAt_115 (lv_at hl 1 rfl) ?_
        refine lv_lconst (v := 0) hx hb dX7_digitAt_117 (by decide) ?_
        refine g_lt (tgt := 124) hx hb dX7_digitAt_118 dX7_digitAt_119 (by decide) (fun c_118 => ?_) (fun c_118 => ?_)
        · skip
          refine lv_lload hx hb dX7_digitAt_124 (lv_at hl 0 rfl) ?_
          refine lv_lconst (v := 0) hx hb dX7_digitAt_126 (by decide) ?_
          refine g_gt (tgt := 135) hx hb dX7_digitAt_127 dX7_digitAt_128 (by decide) (fun c_127 => ?_) (fun c_127 => ?_)
          · skip
            refine lv_iconst (v := 2) hx hb dX7_digitAt_135 (by decide) ?_
            exact W.iret (v := 2) hx hb hr (fun t ht hW => ⟨⟨some (.int (2)), wXp y ad h q n (sp_X6_load_b1 (tb k) (tl k) (th k) p) (sp_X6_load_lo1 (tb k) (tl k) (th k) p) (sp_X6_load_hi1 (tb k) (tl k) (th k) p) b2 l2 r2 b3 l3 r3 uz ul uh f1 g1 f2 g2 pa kd on ot pt fb fl fh tb tl th dg ds, rfl, ⟨congrArg (fun z => some (Value.int z)) (by simp only [sp_X7_digitAt, if_pos c_19, if_neg c_70, if_pos c_98, if_pos c_118, if_pos c_127]), ⟨_, _, _, _, _, _, _, _, _, _, _, _, _, _, _, _, rfl⟩⟩, rfl, by rw [ht]; exact hP⟩, by rw [← hAe]; exact hS.F ht⟩) (by rw [← hAe]; exact hS.2.2) dX7_digitAt_136
          · skip
            refine lv_iconst (v := -1) hx hb dX7_digitAt_131 (by decide) ?_
            refine lv_goto (tgt := 136) hx hb dX7_digitAt_132 (by decide) ?_
            exact W.iret (v := -1) hx hb hr (fun t ht hW => ⟨⟨some (.int (-1)), wXp y ad h q n (sp_X6_load_b1 (tb k) (tl k) (th k) p) (sp_X6_load_lo1 (tb k) (tl k) (th k) p) (sp_X6_load_hi1 (tb k) (tl k) (th k) p) b2 l2 r2 b3 l3 r3 uz ul uh f1 g1 f2 g2 pa kd on ot pt fb fl fh tb tl th dg ds, rfl, ⟨congrArg (fun z => some (Value.int z)) (by simp only [sp_X7_digitAt, if_pos c_19, if_neg c_70, if_pos c_98, if_pos c_118, if_neg c_127]), ⟨_, _, _, _, _, _, _, _, _, _, _, _, _, _, _, _, rfl⟩⟩, rfl, by rw [ht]; exact hP⟩, by rw [← hAe]; exact hS.F ht⟩) (by rw [← hAe]; exact hS.2.2) dX7_digitAt_136
        · skip
          refine lv_iconst (v := 1) hx hb dX7_digitAt_122 (by decide) ?_
          exact W.iret (v := 1) hx hb hr (fun t ht hW => ⟨⟨some (.int (1)), wXp y ad h q n (sp_X6_load_b1 (tb k) (tl k) (th k) p) (sp_X6_load_lo1 (tb k) (tl k) (th k) p) (sp_X6_load_hi1 (tb k) (tl k) (th k) p) b2 l2 r2 b3 l3 r3 uz ul uh f1 g1 f2 g2 pa kd on ot pt fb fl fh tb tl th dg ds, rfl, ⟨congrArg (fun z => some (Value.int z)) (by simp only [sp_X7_digitAt, if_pos c_19, if_neg c_70, if_pos c_98, if_neg c_118]), ⟨_, _, _, _, _, _, _, _, _, _, _, _, _, _, _, _, rfl⟩⟩, rfl, by rw [ht]; exact hP⟩, by rw [← hAe]; exact hS.F ht⟩) (by rw [← hAe]; exact hS.2.2) dX7_digitAt_123
      · skip
        refine lv_ldc2 (v := 2) hx hb hown (hts (.constantLong RX7 229 (2)) (List.mem_of_getElem? (i := 8) rfl)) dX7_digitAt_102 ?_
        refine lv_lload hx hb dX7_digitAt_105 (lv_at hl 0 rfl) ?_
        refine lv_lmul hx hb dX7_digitAt_107 ?_
        refine lv_lload_n hx hb dX7_digitAt_108 rfl (lv_at hl 2 rfl) ?_
        refine g_gt (tgt := 115) hx hb dX7_digitAt_109 dX7_digitAt_110 (by decide) (fun c_109 => ?_) (fun c_109 => ?_)
        · skip
          refine lv_lload hx hb dX7_digitAt_115 (lv_at hl 1 rfl) ?_
          refine lv_lconst (v := 0) hx hb dX7_digitAt_117 (by decide) ?_
          refine g_lt (tgt := 124) hx hb dX7_digitAt_118 dX7_digitAt_119 (by decide) (fun c_118 => ?_) (fun c_118 => ?_)
          · skip
            refine lv_lload hx hb dX7_digitAt_124 (lv_at hl 0 rfl) ?_
            refine lv_lconst (v := 0) hx hb dX7_digitAt_126 (by decide) ?_
            refine g_gt (tgt := 135) hx hb dX7_digitAt_127 dX7_digitAt_128 (by decide) (fun c_127 => ?_) (fun c_127 => ?_)
            · skip
              refine lv_iconst (v := 2) hx hb dX7_digitAt_135 (by decide) ?_
              exact W.iret (v := 2) hx hb hr (fun t ht hW => ⟨⟨some (.int (2)), wXp y ad h q n (sp_X6_load_b1 (tb k) (tl k) (th k) p) (sp_X6_load_lo1 (tb k) (tl k) (th k) p) (sp_X6_load_hi1 (tb k) (tl k) (th k) p) b2 l2 r2 b3 l3 r3 uz ul uh f1 g1 f2 g2 pa kd on ot pt fb fl fh tb tl th dg ds, rfl, ⟨congrArg (fun z => some (Value.int z)) (by simp only [sp_X7_digitAt, if_pos c_19, if_neg c_70, if_neg c_98, if_pos c_109, if_pos c_118, if_pos c_127]), ⟨_, _, _, _, _, _, _, _, _, _, _, _, _, _, _, _, rfl⟩⟩, rfl, by rw [ht]; exact hP⟩, by rw [← hAe]; exact hS.F ht⟩) (by rw [← hAe]; exact hS.2.2) dX7_digitAt_136
            · skip
              refine lv_iconst (v := -1) hx hb dX7_digitAt_131 (by decide) ?_
              refine lv_goto (tgt := 136) hx hb dX7_digitAt_132 (by decide) ?_
              exact W.iret (v := -1) hx hb hr (fun t ht hW => ⟨⟨some (.int (-1)), wXp y ad h q n (sp_X6_load_b1 (tb k) (tl k) (th k) p) (sp_X6_load_lo1 (tb k) (tl k) (th k) p) (sp_X6_load_hi1 (tb k) (tl k) (th k) p) b2 l2 r2 b3 l3 r3 uz ul uh f1 g1 f2 g2 pa kd on ot pt fb fl fh tb tl th dg ds, rfl, ⟨congrArg (fun z => some (Value.int z)) (by simp only [sp_X7_digitAt, if_pos c_19, if_neg c_70, if_neg c_98, if_pos c_109, if_pos c_118, if_neg c_127]), ⟨_, _, _, _, _, _, _, _, _, _, _, _, _, _, _, _, rfl⟩⟩, rfl, by rw [ht]; exact hP⟩, by rw [← hAe]; exact hS.F ht⟩) (by rw [← hAe]; exact hS.2.2) dX7_digitAt_136
          · skip
            refine lv_iconst (v := 1) hx hb dX7_digitAt_122 (by decide) ?_
            exact W.iret (v := 1) hx hb hr (fun t ht hW => ⟨⟨some (.int (1)), wXp y ad h q n (sp_X6_load_b1 (tb k) (tl k) (th k) p) (sp_X6_load_lo1 (tb k) (tl k) (th k) p) (sp_X6_load_hi1 (tb k) (tl k) (th k) p) b2 l2 r2 b3 l3 r3 uz ul uh f1 g1 f2 g2 pa kd on ot pt fb fl fh tb tl th dg ds, rfl, ⟨congrArg (fun z => some (Value.int z)) (by simp only [sp_X7_digitAt, if_pos c_19, if_neg c_70, if_neg c_98, if_pos c_109, if_neg c_118]), ⟨_, _, _, _, _, _, _, _, _, _, _, _, _, _, _, _, rfl⟩⟩, rfl, by rw [ht]; exact hP⟩, by rw [← hAe]; exact hS.F ht⟩) (by rw [← hAe]; exact hS.2.2) dX7_digitAt_123
        · skip
          refine lv_iconst (v := 0) hx hb dX7_digitAt_113 (by decide) ?_
          exact W.iret (v := 0) hx hb hr (fun t ht hW => ⟨⟨some (.int (0)), wXp y ad h q n (sp_X6_load_b1 (tb k) (tl k) (th k) p) (sp_X6_load_lo1 (tb k) (tl k) (th k) p) (sp_X6_load_hi1 (tb k) (tl k) (th k) p) b2 l2 r2 b3 l3 r3 uz ul uh f1 g1 f2 g2 pa kd on ot pt fb fl fh tb tl th dg ds, rfl, ⟨congrArg (fun z => some (Value.int z)) (by simp only [sp_X7_digitAt, if_pos c_19, if_neg c_70, if_neg c_98, if_neg c_109]), ⟨_, _, _, _, _, _, _, _, _, _, _, _, _, _, _, _, rfl⟩⟩, rfl, by rw [ht]; exact hP⟩, by rw [← hAe]; exact hS.F ht⟩) (by rw [← hAe]; exact hS.2.2) dX7_digitAt_114
    · skip
      refine lv_lload hx hb dX7_digitAt_73 (lv_at hl 1 rfl) ?_
      refine lv_lload_n hx hb dX7_digitAt_75 rfl (lv_at hl 2 rfl) ?_
      refine lv_lneg hx hb dX7_digitAt_76 ?_
      refine g_lt (tgt := 88) hx hb dX7_digitAt_77 dX7_digitAt_78 (by decide) (fun c_77 => ?_) (fun c_77 => ?_)
      · skip
        refine lv_iconst (v := 2) hx hb dX7_digitAt_88 (by decide) ?_
        exact W.iret (v := 2) hx hb hr (fun t ht hW => ⟨⟨some (.int (2)), wXp y ad h q n (sp_X6_load_b1 (tb k) (tl k) (th k) p) (sp_X6_load_lo1 (tb k) (tl k) (th k) p) (sp_X6_load_hi1 (tb k) (tl k) (th k) p) b2 l2 r2 b3 l3 r3 uz ul uh f1 g1 f2 g2 pa kd on ot pt fb fl fh tb tl th dg ds, rfl, ⟨congrArg (fun z => some (Value.int z)) (by simp only [sp_X7_digitAt, if_pos c_19, if_pos c_70, if_pos c_77]), ⟨_, _, _, _, _, _, _, _, _, _, _, _, _, _, _, _, rfl⟩⟩, rfl, by rw [ht]; exact hP⟩, by rw [← hAe]; exact hS.F ht⟩) (by rw [← hAe]; exact hS.2.2) dX7_digitAt_89
      · skip
        refine lv_lload hx hb dX7_digitAt_81 (lv_at hl 0 rfl) ?_
        refine lv_lload_n hx hb dX7_digitAt_83 rfl (lv_at hl 2 rfl) ?_
        refine g_le (tgt := 90) hx hb dX7_digitAt_84 dX7_digitAt_85 (by decide) (fun c_84 => ?_) (fun c_84 => ?_)
        · skip
          refine lv_ldc2 (v := 2) hx hb hown (hts (.constantLong RX7 229 (2)) (List.mem_of_getElem? (i := 8) rfl)) dX7_digitAt_90 ?_
          refine lv_lload hx hb dX7_digitAt_93 (lv_at hl 1 rfl) ?_
          refine lv_lmul hx hb dX7_digitAt_95 ?_
          refine lv_lload_n hx hb dX7_digitAt_96 rfl (lv_at hl 2 rfl) ?_
          refine lv_lneg hx hb dX7_digitAt_97 ?_
          refine g_lt (tgt := 115) hx hb dX7_digitAt_98 dX7_digitAt_99 (by decide) (fun c_98 => ?_) (fun c_98 => ?_)
          · skip
            refine lv_lload hx hb dX7_digitAt_115 (lv_at hl 1 rfl) ?_
            refine lv_lconst (v := 0) hx hb dX7_digitAt_117 (by decide) ?_
            refine g_lt (tgt := 124) hx hb dX7_digitAt_118 dX7_digitAt_119 (by decide) (fun c_118 => ?_) (fun c_118 => ?_)
            · skip
              refine lv_lload hx hb dX7_digitAt_124 (lv_at hl 0 rfl) ?_
              refine lv_lconst (v := 0) hx hb dX7_digitAt_126 (by decide) ?_
              refine g_gt (tgt := 135) hx hb dX7_digitAt_127 dX7_digitAt_128 (by decide) (fun c_127 => ?_) (fun c_127 => ?_)
              · skip
                refine lv_iconst (v := 2) hx hb dX7_digitAt_135 (by decide) ?_
                exact W.iret (v := 2) hx hb hr (fun t ht hW => ⟨⟨some (.int (2)), wXp y ad h q n (sp_X6_load_b1 (tb k) (tl k) (th k) p) (sp_X6_load_lo1 (tb k) (tl k) (th k) p) (sp_X6_load_hi1 (tb k) (tl k) (th k) p) b2 l2 r2 b3 l3 r3 uz ul uh f1 g1 f2 g2 pa kd on ot pt fb fl fh tb tl th dg ds, rfl, ⟨congrArg (fun z => some (Value.int z)) (by simp only [sp_X7_digitAt, if_pos c_19, if_pos c_70, if_neg c_77, if_pos c_84, if_pos c_98, if_pos c_118, if_pos c_127]), ⟨_, _, _, _, _, _, _, _, _, _, _, _, _, _, _, _, rfl⟩⟩, rfl, by rw [ht]; exact hP⟩, by rw [← hAe]; exact hS.F ht⟩) (by rw [← hAe]; exact hS.2.2) dX7_digitAt_136
              · skip
                refine lv_iconst (v := -1) hx hb dX7_digitAt_131 (by decide) ?_
                refine lv_goto (tgt := 136) hx hb dX7_digitAt_132 (by decide) ?_
                exact W.iret (v := -1) hx hb hr (fun t ht hW => ⟨⟨some (.int (-1)), wXp y ad h q n (sp_X6_load_b1 (tb k) (tl k) (th k) p) (sp_X6_load_lo1 (tb k) (tl k) (th k) p) (sp_X6_load_hi1 (tb k) (tl k) (th k) p) b2 l2 r2 b3 l3 r3 uz ul uh f1 g1 f2 g2 pa kd on ot pt fb fl fh tb tl th dg ds, rfl, ⟨congrArg (fun z => some (Value.int z)) (by simp only [sp_X7_digitAt, if_pos c_19, if_pos c_70, if_neg c_77, if_pos c_84, if_pos c_98, if_pos c_118, if_neg c_127]), ⟨_, _, _, _, _, _, _, _, _, _, _, _, _, _, _, _, rfl⟩⟩, rfl, by rw [ht]; exact hP⟩, by rw [← hAe]; exact hS.F ht⟩) (by rw [← hAe]; exact hS.2.2) dX7_digitAt_136
            · skip
              refine lv_iconst (v := 1) hx hb dX7_digitAt_122 (by decide) ?_
              exact W.iret (v := 1) hx hb hr (fun t ht hW => ⟨⟨some (.int (1)), wXp y ad h q n (sp_X6_load_b1 (tb k) (tl k) (th k) p) (sp_X6_load_lo1 (tb k) (tl k) (th k) p) (sp_X6_load_hi1 (tb k) (tl k) (th k) p) b2 l2 r2 b3 l3 r3 uz ul uh f1 g1 f2 g2 pa kd on ot pt fb fl fh tb tl th dg ds, rfl, ⟨congrArg (fun z => some (Value.int z)) (by simp only [sp_X7_digitAt, if_pos c_19, if_pos c_70, if_neg c_77, if_pos c_84, if_pos c_98, if_neg c_118]), ⟨_, _, _, _, _, _, _, _, _, _, _, _, _, _, _, _, rfl⟩⟩, rfl, by rw [ht]; exact hP⟩, by rw [← hAe]; exact hS.F ht⟩) (by rw [← hAe]; exact hS.2.2) dX7_digitAt_123
          · skip
            refine lv_ldc2 (v := 2) hx hb hown (hts (.constantLong RX7 229 (2)) (List.mem_of_getElem? (i := 8) rfl)) dX7_digitAt_102 ?_
            refine lv_lload hx hb dX7_digitAt_105 (lv_at hl 0 rfl) ?_
            refine lv_lmul hx hb dX7_digitAt_107 ?_
            refine lv_lload_n hx hb dX7_digitAt_108 rfl (lv_at hl 2 rfl) ?_
            refine g_gt (tgt := 115) hx hb dX7_digitAt_109 dX7_digitAt_110 (by decide) (fun c_109 => ?_) (fun c_109 => ?_)
            · skip
              refine lv_lload hx hb dX7_digitAt_115 (lv_at hl 1 rfl) ?_
              refine lv_lconst (v := 0) hx hb dX7_digitAt_117 (by decide) ?_
              refine g_lt (tgt := 124) hx hb dX7_digitAt_118 dX7_digitAt_119 (by decide) (fun c_118 => ?_) (fun c_118 => ?_)
              · skip
                refine lv_lload hx hb dX7_digitAt_124 (lv_at hl 0 rfl) ?_
                refine lv_lconst (v := 0) hx hb dX7_digitAt_126 (by decide) ?_
                refine g_gt (tgt := 135) hx hb dX7_digitAt_127 dX7_digitAt_128 (by decide) (fun c_127 => ?_) (fun c_127 => ?_)
                · skip
                  refine lv_iconst (v := 2) hx hb dX7_digitAt_135 (by decide) ?_
                  exact W.iret (v := 2) hx hb hr (fun t ht hW => ⟨⟨some (.int (2)), wXp y ad h q n (sp_X6_load_b1 (tb k) (tl k) (th k) p) (sp_X6_load_lo1 (tb k) (tl k) (th k) p) (sp_X6_load_hi1 (tb k) (tl k) (th k) p) b2 l2 r2 b3 l3 r3 uz ul uh f1 g1 f2 g2 pa kd on ot pt fb fl fh tb tl th dg ds, rfl, ⟨congrArg (fun z => some (Value.int z)) (by simp only [sp_X7_digitAt, if_pos c_19, if_pos c_70, if_neg c_77, if_pos c_84, if_neg c_98, if_pos c_109, if_pos c_118, if_pos c_127]), ⟨_, _, _, _, _, _, _, _, _, _, _, _, _, _, _, _, rfl⟩⟩, rfl, by rw [ht]; exact hP⟩, by rw [← hAe]; exact hS.F ht⟩) (by rw [← hAe]; exact hS.2.2) dX7_digitAt_136
                · skip
                  refine lv_iconst (v := -1) hx hb dX7_digitAt_131 (by decide) ?_
                  refine lv_goto (tgt := 136) hx hb dX7_digitAt_132 (by decide) ?_
                  exact W.iret (v := -1) hx hb hr (fun t ht hW => ⟨⟨some (.int (-1)), wXp y ad h q n (sp_X6_load_b1 (tb k) (tl k) (th k) p) (sp_X6_load_lo1 (tb k) (tl k) (th k) p) (sp_X6_load_hi1 (tb k) (tl k) (th k) p) b2 l2 r2 b3 l3 r3 uz ul uh f1 g1 f2 g2 pa kd on ot pt fb fl fh tb tl th dg ds, rfl, ⟨congrArg (fun z => some (Value.int z)) (by simp only [sp_X7_digitAt, if_pos c_19, if_pos c_70, if_neg c_77, if_pos c_84, if_neg c_98, if_pos c_109, if_pos c_118, if_neg c_127]), ⟨_, _, _, _, _, _, _, _, _, _, _, _, _, _, _, _, rfl⟩⟩, rfl, by rw [ht]; exact hP⟩, by rw [← hAe]; exact hS.F ht⟩) (by rw [← hAe]; exact hS.2.2) dX7_digitAt_136
              · skip
                refine lv_iconst (v := 1) hx hb dX7_digitAt_122 (by decide) ?_
                exact W.iret (v := 1) hx hb hr (fun t ht hW => ⟨⟨some (.int (1)), wXp y ad h q n (sp_X6_load_b1 (tb k) (tl k) (th k) p) (sp_X6_load_lo1 (tb k) (tl k) (th k) p) (sp_X6_load_hi1 (tb k) (tl k) (th k) p) b2 l2 r2 b3 l3 r3 uz ul uh f1 g1 f2 g2 pa kd on ot pt fb fl fh tb tl th dg ds, rfl, ⟨congrArg (fun z => some (Value.int z)) (by simp only [sp_X7_digitAt, if_pos c_19, if_pos c_70, if_neg c_77, if_pos c_84, if_neg c_98, if_pos c_109, if_neg c_118]), ⟨_, _, _, _, _, _, _, _, _, _, _, _, _, _, _, _, rfl⟩⟩, rfl, by rw [ht]; exact hP⟩, by rw [← hAe]; exact hS.F ht⟩) (by rw [← hAe]; exact hS.2.2) dX7_digitAt_123
            · skip
              refine lv_iconst (v := 0) hx hb dX7_digitAt_113 (by decide) ?_
              exact W.iret (v := 0) hx hb hr (fun t ht hW => ⟨⟨some (.int (0)), wXp y ad h q n (sp_X6_load_b1 (tb k) (tl k) (th k) p) (sp_X6_load_lo1 (tb k) (tl k) (th k) p) (sp_X6_load_hi1 (tb k) (tl k) (th k) p) b2 l2 r2 b3 l3 r3 uz ul uh f1 g1 f2 g2 pa kd on ot pt fb fl fh tb tl th dg ds, rfl, ⟨congrArg (fun z => some (Value.int z)) (by simp only [sp_X7_digitAt, if_pos c_19, if_pos c_70, if_neg c_77, if_pos c_84, if_neg c_98, if_neg c_109]), ⟨_, _, _, _, _, _, _, _, _, _, _, _, _, _, _, _, rfl⟩⟩, rfl, by rw [ht]; exact hP⟩, by rw [← hAe]; exact hS.F ht⟩) (by rw [← hAe]; exact hS.2.2) dX7_digitAt_114
        · skip
          refine lv_iconst (v := 2) hx hb dX7_digitAt_88 (by decide) ?_
          exact W.iret (v := 2) hx hb hr (fun t ht hW => ⟨⟨some (.int (2)), wXp y ad h q n (sp_X6_load_b1 (tb k) (tl k) (th k) p) (sp_X6_load_lo1 (tb k) (tl k) (th k) p) (sp_X6_load_hi1 (tb k) (tl k) (th k) p) b2 l2 r2 b3 l3 r3 uz ul uh f1 g1 f2 g2 pa kd on ot pt fb fl fh tb tl th dg ds, rfl, ⟨congrArg (fun z => some (Value.int z)) (by simp only [sp_X7_digitAt, if_pos c_19, if_pos c_70, if_neg c_77, if_neg c_84]), ⟨_, _, _, _, _, _, _, _, _, _, _, _, _, _, _, _, rfl⟩⟩, rfl, by rw [ht]; exact hP⟩, by rw [← hAe]; exact hS.F ht⟩) (by rw [← hAe]; exact hS.2.2) dX7_digitAt_89
  · skip
    refine lv_iconst (v := 2) hx hb dX7_digitAt_22 (by decide) ?_
    exact W.iret (v := 2) hx hb hr (fun t ht hW => ⟨⟨some (.int (2)), wXp y ad h q n (sp_X6_load_b1 (tb k) (tl k) (th k) p) (sp_X6_load_lo1 (tb k) (tl k) (th k) p) (sp_X6_load_hi1 (tb k) (tl k) (th k) p) b2 l2 r2 b3 l3 r3 uz ul uh f1 g1 f2 g2 pa kd on ot pt fb fl fh tb tl th dg ds, rfl, ⟨congrArg (fun z => some (Value.int z)) (by simp only [sp_X7_digitAt, if_neg c_19]), ⟨_, _, _, _, _, _, _, _, _, _, _, _, _, _, _, _, rfl⟩⟩, rfl, by rw [ht]; exact hP⟩, by rw [← hAe]; exact hS.F ht⟩) (by rw [← hAe]; exact hS.2.2) dX7_digitAt_23
def nxX (f : Nat → Int32) : Nat → Nat → Int32
  | 0, _ => 2
  | n + 1, p => if f p = 2 then nxX f n (p + 1) else f p
set_option maxHeartbeats 4000000 in
set_option maxRecDepth 100000 in
theorem c_X7_next_X1 (l : Launch) (hfl : l.stackTraces = false) (D : va_G) (y : Nat → ClassId) (ad : Nat → Nat) (sz : Nat) (h : Nat) (q : Nat → Nat) (n : Nat) (b1 : Bool) (l1 r1 : Int64) (b2 : Bool) (l2 r2 : Int64) (b3 : Bool) (l3 r3 : Int64) (uz : Nat → Bool) (ul uh : Nat → Int64) (f1 g1 f2 g2 : Int64) (pa : Nat → Nat → Nat) (kd : Nat → Nat) (on ot : Nat → Int32) (pt : Nat → Int64) (fb : Nat → Nat → Bool) (fl fh : Nat → Nat → Int64) (tb : Nat → Nat → Bool) (tl th : Nat → Nat → Int64) (dg : Nat → Int32) (ds : Nat → Int64) (a : Int32) (hbad : a < 0 ∨ nI n ≤ a) : vx_Met l yX7_next wsX7_next ({ frames := 7, cells := 1, slots := 6, locals := 114 } : Room) (gPX D y ad [.ref h, .int a] (wXp y ad h q n b1 l1 r1 b2 l2 r2 b3 l3 r3 uz ul uh f1 g1 f2 g2 pa kd on ot pt fb fl fh tb tl th dg ds) sz) gNo (gXC D (wXp y ad h q n b1 l1 r1 b2 l2 r2 b3 l3 r3 uz ul uh f1 g1 f2 g2 pa kd on ot pt fb fl fh tb tl th dg ds) gIOB (fun w => w = wXp y ad h q n b1 l1 r1 b2 l2 r2 b3 l3 r3 uz ul uh f1 g1 f2 g2 pa kd on ot pt fb fl fh tb tl th dg ds)) 1 6 (va_A (wXp y ad h q n b1 l1 r1 b2 l2 r2 b3 l3 r3 uz ul uh f1 g1 f2 g2 pa kd on ot pt fb fl fh tb tl th dg ds) sz) := by
  refine vx_ofW (cc := cX7_next) (maxL := 5) (ret := (some .int)) (by decide) rfl ?_
  intro pg e s m args below meth c s₁ B hml hno hv
  obtain ⟨rfl, hsz, hP, hK, hD0, hE0⟩ := hv
  have hx := B.exec
  have hb := B.bytes
  have hr := B.returns
  have hts := atoms_spec (ws := wsX7_next) B.pre
  have hown : s.vm.findClass RX7 = some m.cls := findClass_of_methodNamed B.named
  have hlocks := B.notSynchronized
  subst hsz
  obtain ⟨A, hAe⟩ : ∃ A : Nat → Prop, A = va_A (wXp y ad h q n b1 l1 r1 b2 l2 r2 b3 l3 r3 uz ul uh f1 g1 f2 g2 pa kd on ot pt fb fl fh tb tl th dg ds) s.heap.size := ⟨_, rfl⟩
  have hE : gE ad A s s.heap := by rw [hAe]; exact hE0
  have hD : va_D A (wXp y ad h q n b1 l1 r1 b2 l2 r2 b3 l3 r3 uz ul uh f1 g1 f2 g2 pa kd on ot pt fb fl fh tb tl th dg ds) := by rw [hAe]; exact hD0.self (sz := s.heap.size)
  have hA : ∀ q : Nat, s.heap.size ≤ q → A q := fun q h => by rw [hAe]; exact Or.inr h
  have hS : va_S A s.heap s.heap [] := va_S.rf
  have hl := lv_entry ([.ref h, .int a]) (n := 5) (Nat.le_of_ble_eq_true rfl)
  rw [lg_entry_eq]
  generalize (lg_sl ([.ref h, .int a]) ++ List.replicate (5 - (lg_sl ([.ref h, .int a])).length) Slot.unset).toArray = ls at hl ⊢
  have hl : lv_has ls 5 [(0, .ref h), (1, .int a)] := hl
  refine lv_aload_n hx hb dX7_next_0 rfl (lv_at hl 0 rfl) ?_
  refine lv_iload_n hx hb dX7_next_1 rfl (lv_at hl 1 rfl) ?_
  exact g_outX (vx_runV (As := [.int a]) (rest := []) ⟨hx, hb, hml, hown, hts⟩ (c_X7_existing_X l hfl D y ad s.heap.size h q n b1 l1 r1 b2 l2 r2 b3 l3 r3 uz ul uh f1 g1 f2 g2 pa kd on ot pt fb fl fh tb tl th dg ds a hbad) (cwV 1 hts gX7_next_X7_existing rfl rfl rfl (by decide +kernel) ⟨Nat.le_of_ble_eq_true rfl, Nat.le_of_ble_eq_true rfl⟩) (gPX_VA hP hD hK hE hS hA 0 rfl rfl) rfl rfl hl.1 rfl (lv_room (Nat.le_of_ble_eq_true rfl)) dX7_next_2 ⟨Nat.le_of_ble_eq_true rfl, Nat.le_of_ble_eq_true rfl⟩) hAe hD hS hA (fun w1 h9 => h9) rfl hno hlocks (Nat.le_of_ble_eq_true rfl) (Nat.le_of_ble_eq_true rfl)
theorem in_X7_next_X5 : ∀ w ∈ wsX50, w ∈ wsX7_next := fun _ h => List.mem_cons_of_mem _ (List.mem_append_left _ (List.mem_append_left _ (List.mem_append_left _ (List.mem_append_left _ (List.mem_append_left _ (List.mem_append_right _ h))))))
theorem in_X7_next_ise : ∀ w ∈ (vx_atS RX7 138 "java/lang/IllegalStateException" ["java/lang/RuntimeException", "java/lang/Exception"]).filter goodWord, w ∈ wsX7_next := fun _ h => List.mem_cons_of_mem _ (List.mem_append_left _ (List.mem_append_right _ h))
set_option maxHeartbeats 4000000 in
set_option maxRecDepth 100000 in
theorem c_X7_next_X2 (l : Launch) (hfl : l.stackTraces = false) (D : va_G) (y : Nat → ClassId) (ad : Nat → Nat) (sz : Nat) (h : Nat) (q : Nat → Nat) (n : Nat) (b1 : Bool) (l1 r1 : Int64) (b2 : Bool) (l2 r2 : Int64) (b3 : Bool) (l3 r3 : Int64) (uz : Nat → Bool) (ul uh : Nat → Int64) (f1 g1 f2 g2 : Int64) (pa : Nat → Nat → Nat) (kd : Nat → Nat) (on ot : Nat → Int32) (pt : Nat → Int64) (fb : Nat → Nat → Bool) (fl fh : Nat → Nat → Int64) (tb : Nat → Nat → Bool) (tl th : Nat → Nat → Int64) (dg : Nat → Int32) (ds : Nat → Int64) (k : Nat) (hn : n ≤ 40) (hk : k < n) (hd : ¬ dg k < 24) : vx_Met l yX7_next wsX7_next ({ frames := 6, cells := 1, slots := 6, locals := 92 } : Room) (gPX D y ad [.ref h, .int (nI k)] (wXp y ad h q n b1 l1 r1 b2 l2 r2 b3 l3 r3 uz ul uh f1 g1 f2 g2 pa kd on ot pt fb fl fh tb tl th dg ds) sz) gNo (gXC D (wXp y ad h q n b1 l1 r1 b2 l2 r2 b3 l3 r3 uz ul uh f1 g1 f2 g2 pa kd on ot pt fb fl fh tb tl th dg ds) gISE (fun w => w = wXp y ad h q n b1 l1 r1 b2 l2 r2 b3 l3 r3 uz ul uh f1 g1 f2 g2 pa kd on ot pt fb fl fh tb tl th dg ds)) 1 6 (va_A (wXp y ad h q n b1 l1 r1 b2 l2 r2 b3 l3 r3 uz ul uh f1 g1 f2 g2 pa kd on ot pt fb fl fh tb tl th dg ds) sz) := by
  refine vx_ofW (cc := cX7_next) (maxL := 5) (ret := (some .int)) (by decide) rfl ?_
  intro pg e s m args below meth c s₁ B hml hno hv
  obtain ⟨rfl, hsz, hP, hK, hD0, hE0⟩ := hv
  have hx := B.exec
  have hb := B.bytes
  have hr := B.returns
  have hts := atoms_spec (ws := wsX7_next) B.pre
  have hown : s.vm.findClass RX7 = some m.cls := findClass_of_methodNamed B.named
  have hlocks := B.notSynchronized
  subst hsz
  obtain ⟨A, hAe⟩ : ∃ A : Nat → Prop, A = va_A (wXp y ad h q n b1 l1 r1 b2 l2 r2 b3 l3 r3 uz ul uh f1 g1 f2 g2 pa kd on ot pt fb fl fh tb tl th dg ds) s.heap.size := ⟨_, rfl⟩
  have hE : gE ad A s s.heap := by rw [hAe]; exact hE0
  have hD : va_D A (wXp y ad h q n b1 l1 r1 b2 l2 r2 b3 l3 r3 uz ul uh f1 g1 f2 g2 pa kd on ot pt fb fl fh tb tl th dg ds) := by rw [hAe]; exact hD0.self (sz := s.heap.size)
  have hA : ∀ q : Nat, s.heap.size ≤ q → A q := fun q h => by rw [hAe]; exact Or.inr h
  have hS : va_S A s.heap s.heap [] := va_S.rf
  have hl := lv_entry ([.ref h, .int (nI k)]) (n := 5) (Nat.le_of_ble_eq_true rfl)
  rw [lg_entry_eq]
  generalize (lg_sl ([.ref h, .int (nI k)]) ++ List.replicate (5 - (lg_sl ([.ref h, .int (nI k)])).length) Slot.unset).toArray = ls at hl ⊢
  have hl : lv_has ls 5 [(0, .ref h), (1, .int (nI k))] := hl
  refine lv_aload_n hx hb dX7_next_0 rfl (lv_at hl 0 rfl) ?_
  refine lv_iload_n hx hb dX7_next_1 rfl (lv_at hl 1 rfl) ?_
  refine g_callR (v0 := .ref (pa k 0)) (va_runV (As := [.int (nI k)]) (rest := []) ⟨hx, hb, hml, hown, hts⟩ (c_X7_existing_0 l hfl D y ad s.heap.size h q n b1 l1 r1 b2 l2 r2 b3 l3 r3 uz ul uh f1 g1 f2 g2 pa kd on ot pt fb fl fh tb tl th dg ds k hn hk) (cwV 1 hts gX7_next_X7_existing rfl rfl rfl (by decide +kernel) ⟨Nat.le_of_ble_eq_true rfl, Nat.le_of_ble_eq_true rfl⟩) (gPX_VA hP hD hK hE hS hA 0 rfl rfl) rfl rfl hl.1 rfl (lv_room (Nat.le_of_ble_eq_true rfl)) dX7_next_2 ⟨Nat.zero_le _, Nat.zero_le _⟩) ?_
  refine lv_astore_n (lv' := [(2, .ref (pa k 0)), (0, .ref h), (1, .int (nI k))]) hx hb dX7_next_5 rfl hl (by decide) rfl (fun ls hl => ?_)
  refine lv_aload_n hx hb dX7_next_6 rfl (lv_at hl 0 rfl) ?_
  refine va_get (D := D) (ci := 3) (v := .int (dg k)) (C := RX5) (T := TX5) (N := 8) hx hb hts in_X7_next_X5 hown hK.1 hP (9 * k + 0 + 11) (gPL_at (j := 0) (fun _ => rfl) (by decide) hk) rfl 6 (by decide) (hts (.fieldLink RX7 220 "Nestlimit$Program" "digits" "I") (List.mem_of_getElem? (i := 3) rfl)) (fun _ h9 => h9) rfl dX7_next_7 ?_
  refine lv_bipush (v := 24) hx hb dX7_next_10 (by decide) ?_
  refine lv_icmp_lt (tgt := 25) hx hb dX7_next_12 (by decide) (fun c_12 => absurd c_12 hd) (fun c_12 => ?_)
  obtain ⟨sa, hsa⟩ := hE.str 4 rfl
  exact vx_throwS hx hb hfl (own := RX7) (cls := gISE) (names := gNm) (A := A) hown (by decide +kernel) (by decide +kernel) (hts (.classLink RX7 134 "java/lang/IllegalStateException") (List.mem_of_getElem? (i := 1) rfl)) (hts (.initialized "java/lang/IllegalStateException") (List.mem_of_getElem? (i := 2) rfl)) hsa (vx_hat (fun w hw => hts w (in_X7_next_ise w hw)) gAt_ise hE.cw) gOt_ise hE.1.1 hE.1.2 hS (hl.1.trans hml.symm) dX7_next_15 dX7_next_18 dX7_next_19 dX7_next_21 dX7_next_24 (fun x hx9 => (hno x hx9).elim) (Nat.le_of_ble_eq_true rfl) (Nat.le_of_ble_eq_true rfl) (Nat.le_of_ble_eq_true rfl) (Nat.le_of_ble_eq_true rfl) hlocks (g_xc hAe hP hS rfl rfl) (by rw [← hAe]; exact hS.2.2) (Nat.le_of_ble_eq_true rfl) (Nat.le_of_ble_eq_true rfl)
set_option maxHeartbeats 4000000 in
set_option maxRecDepth 100000 in
theorem c_X7_next_0 (l : Launch) (hfl : l.stackTraces = false) (D : va_G) (y : Nat → ClassId) (ad : Nat → Nat) (sz : Nat) (h : Nat) (q : Nat → Nat) (n : Nat) (b1 : Bool) (l1 r1 : Int64) (b2 : Bool) (l2 r2 : Int64) (b3 : Bool) (l3 r3 : Int64) (uz : Nat → Bool) (ul uh : Nat → Int64) (f1 g1 f2 g2 : Int64) (pa : Nat → Nat → Nat) (kd : Nat → Nat) (on ot : Nat → Int32) (pt : Nat → Int64) (fb : Nat → Nat → Bool) (fl fh : Nat → Nat → Int64) (tb : Nat → Nat → Bool) (tl th : Nat → Nat → Int64) (dg : Nat → Int32) (ds : Nat → Int64) (k d : Nat) (hn : n ≤ 40) (hk : k < n) (hdi : dg k = nI d) (hd : d < 24) (hs : ¬ nxX (sp_X7_digitAt tb tl th dg ds k) (24 - d) (d + 1) = 2) : Met l yX7_next wsX7_next ({ frames := 3, cells := 0, slots := 0, locals := 74 } : Room) (gPX D y ad [.ref h, .int (nI k)] (wXp y ad h q n b1 l1 r1 b2 l2 r2 b3 l3 r3 uz ul uh f1 g1 f2 g2 pa kd on ot pt fb fl fh tb tl th dg ds) sz) (gQ D (wXp y ad h q n b1 l1 r1 b2 l2 r2 b3 l3 r3 uz ul uh f1 g1 f2 g2 pa kd on ot pt fb fl fh tb tl th dg ds) (fun v w => v = some (.int (nxX (sp_X7_digitAt tb tl th dg ds k) (24 - d) (d + 1))) ∧ xScr y ad h q n pa kd on ot pt fb fl fh tb tl th (upd dg k (dg k + 1)) (vp_updL ds k (2 * ds k + (nxX (sp_X7_digitAt tb tl th dg ds k) (24 - d) (d + 1)).toInt64)) w)) 0 0 (va_A (wXp y ad h q n b1 l1 r1 b2 l2 r2 b3 l3 r3 uz ul uh f1 g1 f2 g2 pa kd on ot pt fb fl fh tb tl th dg ds) sz) := by
  refine Met.ofW (cc := cX7_next) (maxL := 5) (ret := (some .int)) (by decide) rfl ?_
  intro pg e s m args below meth c s₁ B hml hv
  obtain ⟨rfl, hsz, hP, hK, hD0, hE0⟩ := hv
  have hx := B.exec
  have hb := B.bytes
  have hr := B.returns
  have hts := atoms_spec (ws := wsX7_next) B.pre
  have hown : s.vm.findClass RX7 = some m.cls := findClass_of_methodNamed B.named
  have hlocks := B.notSynchronized
  subst hsz
  obtain ⟨A, hAe⟩ : ∃ A : Nat → Prop, A = va_A (wXp y ad h q n b1 l1 r1 b2 l2 r2 b3 l3 r3 uz ul uh f1 g1 f2 g2 pa kd on ot pt fb fl fh tb tl th dg ds) s.heap.size := ⟨_, rfl⟩
  have hE : gE ad A s s.heap := by rw [hAe]; exact hE0
  have hD : va_D A (wXp y ad h q n b1 l1 r1 b2 l2 r2 b3 l3 r3 uz ul uh f1 g1 f2 g2 pa kd on ot pt fb fl fh tb tl th dg ds) := by rw [hAe]; exact hD0.self (sz := s.heap.size)
  have hA : ∀ q : Nat, s.heap.size ≤ q → A q := fun q h => by rw [hAe]; exact Or.inr h
  have hS : va_S A s.heap s.heap [] := va_S.rf
  have hl := lv_entry ([.ref h, .int (nI k)]) (n := 5) (Nat.le_of_ble_eq_true rfl)
  rw [lg_entry_eq]
  generalize (lg_sl ([.ref h, .int (nI k)]) ++ List.replicate (5 - (lg_sl ([.ref h, .int (nI k)])).length) Slot.unset).toArray = ls at hl ⊢
  have hl : lv_has ls 5 [(0, .ref h), (1, .int (nI k))] := hl
  refine lv_aload_n hx hb dX7_next_0 rfl (lv_at hl 0 rfl) ?_
  refine lv_iload_n hx hb dX7_next_1 rfl (lv_at hl 1 rfl) ?_
  refine g_callR (v0 := .ref (pa k 0)) (va_runV (As := [.int (nI k)]) (rest := []) ⟨hx, hb, hml, hown, hts⟩ (c_X7_existing_0 l hfl D y ad s.heap.size h q n b1 l1 r1 b2 l2 r2 b3 l3 r3 uz ul uh f1 g1 f2 g2 pa kd on ot pt fb fl fh tb tl th dg ds k hn hk) (cwV 1 hts gX7_next_X7_existing rfl rfl rfl (by decide +kernel) ⟨Nat.le_of_ble_eq_true rfl, Nat.le_of_ble_eq_true rfl⟩) (gPX_VA hP hD hK hE hS hA 0 rfl rfl) rfl rfl hl.1 rfl (lv_room (Nat.le_of_ble_eq_true rfl)) dX7_next_2 ⟨Nat.zero_le _, Nat.zero_le _⟩) ?_
  refine lv_astore_n (lv' := [(2, .ref (pa k 0)), (0, .ref h), (1, .int (nI k))]) hx hb dX7_next_5 rfl hl (by decide) rfl (fun ls hl => ?_)
  refine lv_aload_n hx hb dX7_next_6 rfl (lv_at hl 0 rfl) ?_
  refine va_get (D := D) (ci := 3) (v := .int (dg k)) (C := RX5) (T := TX5) (N := 8) hx hb hts in_X7_next_X5 hown hK.1 hP (9 * k + 0 + 11) (gPL_at (j := 0) (fun _ => rfl) (by decide) hk) rfl 6 (by decide) (hts (.fieldLink RX7 220 "Nestlimit$Program" "digits" "I") (List.mem_of_getElem? (i := 3) rfl)) (fun _ h9 => h9) rfl dX7_next_7 ?_
  refine g_topi (y := nI d) (hdi) ?_
  refine lv_bipush (v := 24) hx hb dX7_next_10 (by decide) ?_
  refine lv_icmp_lt (tgt := 25) hx hb dX7_next_12 (by decide) (fun c_12 => ?_) (fun c_12 => absurd (nI_lt (b := 24) hd (by decide)) c_12)
  refine lv_aload_n hx hb dX7_next_25 rfl (lv_at hl 0 rfl) ?_
  refine va_get (D := D) (ci := 3) (v := .int (dg k)) (C := RX5) (T := TX5) (N := 8) hx hb hts in_X7_next_X5 hown hK.1 hP (9 * k + 0 + 11) (gPL_at (j := 0) (fun _ => rfl) (by decide) hk) rfl 6 (by decide) (hts (.fieldLink RX7 220 "Nestlimit$Program" "digits" "I") (List.mem_of_getElem? (i := 3) rfl)) (fun _ h9 => h9) rfl dX7_next_26 ?_
  refine g_topi (y := nI d) (hdi) ?_
  refine lv_iconst (v := 1) hx hb dX7_next_29 (by decide) ?_
  refine lv_iadd hx hb dX7_next_30 ?_
  refine g_topi (nI_add d 1) ?_
  refine lv_istore_n (lv' := [(3, .int (nI (d + 1))), (2, .ref (pa k 0)), (0, .ref h), (1, .int (nI k))]) hx hb dX7_next_31 rfl hl (by decide) rfl (fun ls hl => ?_)
  have LOOP32 : ∀ (m9 : Nat) (p : Nat) (xb1 : Bool) (xl1 : Int64) (xr1 : Int64) (xb2 : Bool) (xl2 : Int64) (xr2 : Int64) (xb3 : Bool) (xl3 : Int64) (xr3 : Int64) (xuz : Nat → Bool) (xul : Nat → Int64) (xuh : Nat → Int64) (xf1 : Int64) (xg1 : Int64) (xf2 : Int64) (xg2 : Int64), (p + m9 = 25) → (nxX (sp_X7_digitAt tb tl th dg ds k) m9 p = nxX (sp_X7_digitAt tb tl th dg ds k) (24 - d) (d + 1)) → ∀ (H : Heap) (locs : List Loc), va_P D vwCl (wXp y ad h q n xb1 xl1 xr1 xb2 xl2 xr2 xb3 xl3 xr3 xuz xul xuh xf1 xg1 xf2 xg2 pa kd on ot pt fb fl fh tb tl th dg ds) H → va_D A (wXp y ad h q n xb1 xl1 xr1 xb2 xl2 xr2 xb3 xl3 xr3 xuz xul xuh xf1 xg1 xf2 xg2 pa kd on ot pt fb fl fh tb tl th dg ds) → va_S A s.heap H locs → ∀ (ls : Array Slot), lv_has ls 5 [(0, .ref h), (1, .int (nI k)), (2, .ref (pa k 0)), (3, .int (nI p))] → W pg l e (headSpec wsX7_next ({ frames := 3, cells := 0, slots := 0, locals := 74 } : Room)).room s m (([.ref h, .int (nI k)] : List Value).toArray) below meth c H locs 0 0 (MQ below (gQ D (wXp y ad h q n b1 l1 r1 b2 l2 r2 b3 l3 r3 uz ul uh f1 g1 f2 g2 pa kd on ot pt fb fl fh tb tl th dg ds) (fun v w => v = some (.int (nxX (sp_X7_digitAt tb tl th dg ds k) (24 - d) (d + 1))) ∧ xScr y ad h q n pa kd on ot pt fb fl fh tb tl th (upd dg k (dg k + 1)) (vp_updL ds k (2 * ds k + (nxX (sp_X7_digitAt tb tl th dg ds k) (24 - d) (d + 1)).toInt64)) w)) (([.ref h, .int (nI k)] : List Value).toArray) s 0 0 (va_A (wXp y ad h q n b1 l1 r1 b2 l2 r2 b3 l3 r3 uz ul uh f1 g1 f2 g2 pa kd on ot pt fb fl fh tb tl th dg ds) s.heap.size)) (F0 m 32 ls []) := by
    intro m9
    induction m9 with
    | zero =>
      intro p xb1 xl1 xr1 xb2 xl2 xr2 xb3 xl3 xr3 xuz xul xuh xf1 xg1 xf2 xg2 hp2 hF H locs hP hD hS ls hl
      refine lv_iload_n hx hb dX7_next_32 rfl (lv_at hl 3 rfl) ?_
      refine lv_bipush (v := 24) hx hb dX7_next_33 (by decide) ?_
      refine lv_icmp_gt (tgt := 87) hx hb dX7_next_35 (by decide) (fun c_35 => ?_) (fun c_35 => absurd (nI_lt (a := 24) (b := p) (by omega) (by omega)) c_35)
      exact absurd hF.symm hs
    | succ m9 ih32 =>
      intro p xb1 xl1 xr1 xb2 xl2 xr2 xb3 xl3 xr3 xuz xul xuh xf1 xg1 xf2 xg2 hp2 hF H locs hP hD hS ls hl
      refine lv_iload_n hx hb dX7_next_32 rfl (lv_at hl 3 rfl) ?_
      refine lv_bipush (v := 24) hx hb dX7_next_33 (by decide) ?_
      refine lv_icmp_gt (tgt := 87) hx hb dX7_next_35 (by decide) (fun c_35 => absurd c_35 (nI_nlt (a := 24) (b := p) (by omega) (by omega))) (fun c_35 => ?_)
      refine lv_aload_n hx hb dX7_next_38 rfl (lv_at hl 0 rfl) ?_
      refine lv_aload_n hx hb dX7_next_39 rfl (lv_at hl 2 rfl) ?_
      refine lv_iload_n hx hb dX7_next_40 rfl (lv_at hl 3 rfl) ?_
      refine g_callA (va_runV (As := [.ref (pa k 0), .int (nI p)]) (rest := []) ⟨hx, hb, hml, hown, hts⟩ (c_X7_digitAt l hfl D y ad H.size h q n xb1 xl1 xr1 xb2 xl2 xr2 xb3 xl3 xr3 xuz xul xuh xf1 xg1 xf2 xg2 pa kd on ot pt fb fl fh tb tl th dg ds k p hn hk (by omega)) (cwV 2 hts gX7_next_X7_digitAt rfl rfl rfl (by decide +kernel) ⟨Nat.le_of_ble_eq_true rfl, Nat.le_of_ble_eq_true rfl⟩) (gPX_VA hP hD hK hE hS hA 0 rfl rfl) rfl rfl hl.1 rfl (lv_room (Nat.le_of_ble_eq_true rfl)) dX7_next_41 ⟨Nat.zero_le _, Nat.zero_le _⟩) hP hD hS hA (fun v w1 H locs hf hP hD hS => ?_)
      obtain ⟨rfl, b1_41, l1_41, r1_41, b2_41, l2_41, r2_41, b3_41, l3_41, r3_41, uz_41, ul_41, uh_41, f1_41, g1_41, f2_41, g2_41, rfl⟩ := hf
      have hP : va_P D vwCl (wXp y ad h q n b1_41 l1_41 r1_41 b2_41 l2_41 r2_41 b3_41 l3_41 r3_41 uz_41 ul_41 uh_41 f1_41 g1_41 f2_41 g2_41 pa kd on ot pt fb fl fh tb tl th dg ds) H := hP
      have hD : va_D A (wXp y ad h q n b1_41 l1_41 r1_41 b2_41 l2_41 r2_41 b3_41 l3_41 r3_41 uz_41 ul_41 uh_41 f1_41 g1_41 f2_41 g2_41 pa kd on ot pt fb fl fh tb tl th dg ds) := hD
      refine lv_istore (lv' := [(4, .int (sp_X7_digitAt tb tl th dg ds k p)), (0, .ref h), (1, .int (nI k)), (2, .ref (pa k 0)), (3, .int (nI p))]) hx hb dX7_next_44 hl (by decide) rfl (fun ls hl => ?_)
      refine lv_iload hx hb dX7_next_46 (lv_at hl 0 rfl) ?_
      refine lv_iconst (v := 2) hx hb dX7_next_48 (by decide) ?_
      refine lv_icmp_eq (tgt := 81) hx hb dX7_next_49 (by decide) (fun c_49 => ?_) (fun c_49 => ?_)
      · skip
        refine lv_iinc (v := nI (p + 1)) (lv' := [(3, .int (nI (p + 1))), (4, .int (sp_X7_digitAt tb tl th dg ds k p)), (0, .ref h), (1, .int (nI k)), (2, .ref (pa k 0))]) hx hb dX7_next_81 hl (k := 4) rfl (nI_add p 1) (by decide) rfl (fun ls hl => ?_)
        refine lv_goto (tgt := 32) hx hb dX7_next_84 (by decide) ?_
        exact ih32 (p + 1) b1_41 l1_41 r1_41 b2_41 l2_41 r2_41 b3_41 l3_41 r3_41 uz_41 ul_41 uh_41 f1_41 g1_41 f2_41 g2_41 (by omega) (by rw [← hF]; show _ = (if _ then _ else _); rw [if_pos c_49]) _ _ hP hD hS ls (lv_sub hl [2, 3, 4, 0] rfl)
      · skip
        have hR9 : (sp_X7_digitAt tb tl th dg ds k) p = nxX (sp_X7_digitAt tb tl th dg ds k) (24 - d) (d + 1) := by rw [← hF]; show _ = (if _ then _ else _); rw [if_neg c_49]
        rw [hR9] at hl
        have hne9 : ¬ nxX (sp_X7_digitAt tb tl th dg ds k) (24 - d) (d + 1) = 2 := by rw [← hR9]; exact c_49
        refine lv_aload_n hx hb dX7_next_52 rfl (lv_at hl 3 rfl) ?_
        refine lv_dup hx hb dX7_next_53 rfl ?_
        refine va_get (D := D) (ci := 3) (v := .int (dg k)) (C := RX5) (T := TX5) (N := 8) hx hb hts in_X7_next_X5 hown hK.1 hP (9 * k + 0 + 11) (gPL_at (j := 0) (fun _ => rfl) (by decide) hk) rfl 6 (by decide) (hts (.fieldLink RX7 220 "Nestlimit$Program" "digits" "I") (List.mem_of_getElem? (i := 3) rfl)) (fun _ h9 => h9) rfl dX7_next_54 ?_
        refine lv_iconst (v := 1) hx hb dX7_next_57 (by decide) ?_
        refine lv_iadd hx hb dX7_next_58 ?_
        refine va_put (D := D) (ci := 3) (v := .int ((dg k) + 1)) (ty := .int) (C := RX5) (T := TX5) (N := 8) hx hb hts in_X7_next_X5 tyX5 tyX5_ok nmX5 hown hK.1 hP hD hS (9 * k + 0 + 11) (gPL_at (j := 0) (fun _ => rfl) (by decide) hk) rfl 6 (by decide) (hts (.fieldLink RX7 220 "Nestlimit$Program" "digits" "I") (List.mem_of_getElem? (i := 3) rfl)) (fun _ h9 => h9) rfl (by decide +kernel) (rfl) (rfl) (Nat.le_of_ble_eq_true rfl) dX7_next_59 (fun H locs hP hD hS => ?_)
        have h9 := wXp_dg y ad h q n b1_41 l1_41 r1_41 b2_41 l2_41 r2_41 b3_41 l3_41 r3_41 uz_41 ul_41 uh_41 f1_41 g1_41 f2_41 g2_41 pa kd on ot pt fb fl fh tb tl th dg ds k hk ((dg k) + 1)
        have hP : va_P D vwCl (wXp y ad h q n b1_41 l1_41 r1_41 b2_41 l2_41 r2_41 b3_41 l3_41 r3_41 uz_41 ul_41 uh_41 f1_41 g1_41 f2_41 g2_41 pa kd on ot pt fb fl fh tb tl th (upd dg k ((dg k) + 1)) ds) H := Eq.mp (congrArg (fun w => va_P D vwCl w H) h9) hP
        have hD : va_D A (wXp y ad h q n b1_41 l1_41 r1_41 b2_41 l2_41 r2_41 b3_41 l3_41 r3_41 uz_41 ul_41 uh_41 f1_41 g1_41 f2_41 g2_41 pa kd on ot pt fb fl fh tb tl th (upd dg k ((dg k) + 1)) ds) := Eq.mp (congrArg (fun w => va_D A w) h9) hD
        refine lv_aload_n hx hb dX7_next_62 rfl (lv_at hl 3 rfl) ?_
        refine lv_ldc2 (v := 2) hx hb hown (hts (.constantLong RX7 229 (2)) (List.mem_of_getElem? (i := 4) rfl)) dX7_next_63 ?_
        refine lv_aload_n hx hb dX7_next_66 rfl (lv_at hl 3 rfl) ?_
        refine va_get (D := D) (ci := 3) (v := .long (ds k)) (C := RX5) (T := TX5) (N := 8) hx hb hts in_X7_next_X5 hown hK.1 hP (9 * k + 0 + 11) (gPL_at (j := 0) (fun _ => rfl) (by decide) hk) rfl 7 (by decide) (hts (.fieldLink RX7 231 "Nestlimit$Program" "digitSum" "J") (List.mem_of_getElem? (i := 5) rfl)) (fun _ h9 => h9) rfl dX7_next_67 ?_
        refine lv_lmul hx hb dX7_next_70 ?_
        refine lv_iload hx hb dX7_next_71 (lv_at hl 0 rfl) ?_
        refine lv_i2l (v := (nxX (sp_X7_digitAt tb tl th dg ds k) (24 - d) (d + 1)).toInt64) hx hb dX7_next_73 rfl ?_
        refine lv_ladd hx hb dX7_next_74 ?_
        refine va_put (D := D) (ci := 3) (v := .long ((2 * (ds k)) + ((nxX (sp_X7_digitAt tb tl th dg ds k) (24 - d) (d + 1)).toInt64))) (ty := .long) (C := RX5) (T := TX5) (N := 8) hx hb hts in_X7_next_X5 tyX5 tyX5_ok nmX5 hown hK.1 hP hD hS (9 * k + 0 + 11) (gPL_at (j := 0) (fun _ => rfl) (by decide) hk) rfl 7 (by decide) (hts (.fieldLink RX7 231 "Nestlimit$Program" "digitSum" "J") (List.mem_of_getElem? (i := 5) rfl)) (fun _ h9 => h9) rfl (by decide +kernel) (rfl) (rfl) (Nat.le_of_ble_eq_true rfl) dX7_next_75 (fun H locs hP hD hS => ?_)
        have h9 := wXp_ds y ad h q n b1_41 l1_41 r1_41 b2_41 l2_41 r2_41 b3_41 l3_41 r3_41 uz_41 ul_41 uh_41 f1_41 g1_41 f2_41 g2_41 pa kd on ot pt fb fl fh tb tl th (upd dg k ((dg k) + 1)) ds k hk ((2 * (ds k)) + ((nxX (sp_X7_digitAt tb tl th dg ds k) (24 - d) (d + 1)).toInt64))
        have hP : va_P D vwCl (wXp y ad h q n b1_41 l1_41 r1_41 b2_41 l2_41 r2_41 b3_41 l3_41 r3_41 uz_41 ul_41 uh_41 f1_41 g1_41 f2_41 g2_41 pa kd on ot pt fb fl fh tb tl th (upd dg k ((dg k) + 1)) (vp_updL ds k ((2 * (ds k)) + ((nxX (sp_X7_digitAt tb tl th dg ds k) (24 - d) (d + 1)).toInt64)))) H := Eq.mp (congrArg (fun w => va_P D vwCl w H) h9) hP
        have hD : va_D A (wXp y ad h q n b1_41 l1_41 r1_41 b2_41 l2_41 r2_41 b3_41 l3_41 r3_41 uz_41 ul_41 uh_41 f1_41 g1_41 f2_41 g2_41 pa kd on ot pt fb fl fh tb tl th (upd dg k ((dg k) + 1)) (vp_updL ds k ((2 * (ds k)) + ((nxX (sp_X7_digitAt tb tl th dg ds k) (24 - d) (d + 1)).toInt64)))) := Eq.mp (congrArg (fun w => va_D A w) h9) hD
        refine lv_iload hx hb dX7_next_78 (lv_at hl 0 rfl) ?_
        exact W.iret (v := nxX (sp_X7_digitAt tb tl th dg ds k) (24 - d) (d + 1)) hx hb hr (fun t ht hW => ⟨⟨some (.int (nxX (sp_X7_digitAt tb tl th dg ds k) (24 - d) (d + 1))), wXp y ad h q n b1_41 l1_41 r1_41 b2_41 l2_41 r2_41 b3_41 l3_41 r3_41 uz_41 ul_41 uh_41 f1_41 g1_41 f2_41 g2_41 pa kd on ot pt fb fl fh tb tl th (upd dg k ((dg k) + 1)) (vp_updL ds k ((2 * (ds k)) + ((nxX (sp_X7_digitAt tb tl th dg ds k) (24 - d) (d + 1)).toInt64))), rfl, ⟨rfl, ⟨_, _, _, _, _, _, _, _, _, _, _, _, _, _, _, _, rfl⟩⟩, (congrArg (fun z => [h, q 0, q 1, q 2, q 3, q 4, q 5, q 6, q 7, q 8, q 9] ++ z) (gPL_fst (pc := (pcX y ad pa kd on ot pt fb fl fh tb tl th (upd dg k ((dg k) + 1)) (vp_updL ds k ((2 * (ds k)) + ((nxX (sp_X7_digitAt tb tl th dg ds k) (24 - d) (d + 1)).toInt64))))) (pc' := (pcX y ad pa kd on ot pt fb fl fh tb tl th dg ds)) (fun _ => rfl) n)), by rw [ht]; exact hP⟩, by rw [← hAe]; exact hS.F ht⟩) (by rw [← hAe]; exact hS.2.2) dX7_next_80
  exact LOOP32 (24 - d) (d + 1) b1 l1 r1 b2 l2 r2 b3 l3 r3 uz ul uh f1 g1 f2 g2 (by omega) (rfl) _ _ hP hD hS ls (lv_sub hl [2, 3, 1, 0] rfl)
set_option maxHeartbeats 4000000 in
set_option maxRecDepth 100000 in
theorem c_X7_next_X3 (l : Launch) (hfl : l.stackTraces = false) (D : va_G) (y : Nat → ClassId) (ad : Nat → Nat) (sz : Nat) (h : Nat) (q : Nat → Nat) (n : Nat) (b1 : Bool) (l1 r1 : Int64) (b2 : Bool) (l2 r2 : Int64) (b3 : Bool) (l3 r3 : Int64) (uz : Nat → Bool) (ul uh : Nat → Int64) (f1 g1 f2 g2 : Int64) (pa : Nat → Nat → Nat) (kd : Nat → Nat) (on ot : Nat → Int32) (pt : Nat → Int64) (fb : Nat → Nat → Bool) (fl fh : Nat → Nat → Int64) (tb : Nat → Nat → Bool) (tl th : Nat → Nat → Int64) (dg : Nat → Int32) (ds : Nat → Int64) (k d : Nat) (hn : n ≤ 40) (hk : k < n) (hdi : dg k = nI d) (hd : d < 24) (hs : nxX (sp_X7_digitAt tb tl th dg ds k) (24 - d) (d + 1) = 2) : vx_Met l yX7_next wsX7_next ({ frames := 6, cells := 1, slots := 6, locals := 92 } : Room) (gPX D y ad [.ref h, .int (nI k)] (wXp y ad h q n b1 l1 r1 b2 l2 r2 b3 l3 r3 uz ul uh f1 g1 f2 g2 pa kd on ot pt fb fl fh tb tl th dg ds) sz) gNo (gXC D (wXp y ad h q n b1 l1 r1 b2 l2 r2 b3 l3 r3 uz ul uh f1 g1 f2 g2 pa kd on ot pt fb fl fh tb tl th dg ds) gISE (xScr y ad h q n pa kd on ot pt fb fl fh tb tl th dg ds)) 1 6 (va_A (wXp y ad h q n b1 l1 r1 b2 l2 r2 b3 l3 r3 uz ul uh f1 g1 f2 g2 pa kd on ot pt fb fl fh tb tl th dg ds) sz) := by
  refine vx_ofW (cc := cX7_next) (maxL := 5) (ret := (some .int)) (by decide) rfl ?_
  intro pg e s m args below meth c s₁ B hml hno hv
  obtain ⟨rfl, hsz, hP, hK, hD0, hE0⟩ := hv
  have hx := B.exec
  have hb := B.bytes
  have hr := B.returns
  have hts := atoms_spec (ws := wsX7_next) B.pre
  have hown : s.vm.findClass RX7 = some m.cls := findClass_of_methodNamed B.named
  have hlocks := B.notSynchronized
  subst hsz
  obtain ⟨A, hAe⟩ : ∃ A : Nat → Prop, A = va_A (wXp y ad h q n b1 l1 r1 b2 l2 r2 b3 l3 r3 uz ul uh f1 g1 f2 g2 pa kd on ot pt fb fl fh tb tl th dg ds) s.heap.size := ⟨_, rfl⟩
  have hE : gE ad A s s.heap := by rw [hAe]; exact hE0
  have hD : va_D A (wXp y ad h q n b1 l1 r1 b2 l2 r2 b3 l3 r3 uz ul uh f1 g1 f2 g2 pa kd on ot pt fb fl fh tb tl th dg ds) := by rw [hAe]; exact hD0.self (sz := s.heap.size)
  have hA : ∀ q : Nat, s.heap.size ≤ q → A q := fun q h => by rw [hAe]; exact Or.inr h
  have hS : va_S A s.heap s.heap [] := va_S.rf
  have hl := lv_entry ([.ref h, .int (nI k)]) (n := 5) (Nat.le_of_ble_eq_true rfl)
  rw [lg_entry_eq]
  generalize (lg_sl ([.ref h, .int (nI k)]) ++ List.replicate (5 - (lg_sl ([.ref h, .int (nI k)])).length) Slot.unset).toArray = ls at hl ⊢
  have hl : lv_has ls 5 [(0, .ref h), (1, .int (nI k))] := hl
  refine lv_aload_n hx hb dX7_next_0 rfl (lv_at hl 0 rfl) ?_
  refine lv_iload_n hx hb dX7_next_1 rfl (lv_at hl 1 rfl) ?_
  refine g_callR (v0 := .ref (pa k 0)) (va_runV (As := [.int (nI k)]) (rest := []) ⟨hx, hb, hml, hown, hts⟩ (c_X7_existing_0 l hfl D y ad s.heap.size h q n b1 l1 r1 b2 l2 r2 b3 l3 r3 uz ul uh f1 g1 f2 g2 pa kd on ot pt fb fl fh tb tl th dg ds k hn hk) (cwV 1 hts gX7_next_X7_existing rfl rfl rfl (by decide +kernel) ⟨Nat.le_of_ble_eq_true rfl, Nat.le_of_ble_eq_true rfl⟩) (gPX_VA hP hD hK hE hS hA 0 rfl rfl) rfl rfl hl.1 rfl (lv_room (Nat.le_of_ble_eq_true rfl)) dX7_next_2 ⟨Nat.zero_le _, Nat.zero_le _⟩) ?_
  refine lv_astore_n (lv' := [(2, .ref (pa k 0)), (0, .ref h), (1, .int (nI k))]) hx hb dX7_next_5 rfl hl (by decide) rfl (fun ls hl => ?_)
  refine lv_aload_n hx hb dX7_next_6 rfl (lv_at hl 0 rfl) ?_
  refine va_get (D := D) (ci := 3) (v := .int (dg k)) (C := RX5) (T := TX5) (N := 8) hx hb hts in_X7_next_X5 hown hK.1 hP (9 * k + 0 + 11) (gPL_at (j := 0) (fun _ => rfl) (by decide) hk) rfl 6 (by decide) (hts (.fieldLink RX7 220 "Nestlimit$Program" "digits" "I") (List.mem_of_getElem? (i := 3) rfl)) (fun _ h9 => h9) rfl dX7_next_7 ?_
  refine g_topi (y := nI d) (hdi) ?_
  refine lv_bipush (v := 24) hx hb dX7_next_10 (by decide) ?_
  refine lv_icmp_lt (tgt := 25) hx hb dX7_next_12 (by decide) (fun c_12 => ?_) (fun c_12 => absurd (nI_lt (b := 24) hd (by decide)) c_12)
  refine lv_aload_n hx hb dX7_next_25 rfl (lv_at hl 0 rfl) ?_
  refine va_get (D := D) (ci := 3) (v := .int (dg k)) (C := RX5) (T := TX5) (N := 8) hx hb hts in_X7_next_X5 hown hK.1 hP (9 * k + 0 + 11) (gPL_at (j := 0) (fun _ => rfl) (by decide) hk) rfl 6 (by decide) (hts (.fieldLink RX7 220 "Nestlimit$Program" "digits" "I") (List.mem_of_getElem? (i := 3) rfl)) (fun _ h9 => h9) rfl dX7_next_26 ?_
  refine g_topi (y := nI d) (hdi) ?_
  refine lv_iconst (v := 1) hx hb dX7_next_29 (by decide) ?_
  refine lv_iadd hx hb dX7_next_30 ?_
  refine g_topi (nI_add d 1) ?_
  refine lv_istore_n (lv' := [(3, .int (nI (d + 1))), (2, .ref (pa k 0)), (0, .ref h), (1, .int (nI k))]) hx hb dX7_next_31 rfl hl (by decide) rfl (fun ls hl => ?_)
  have LOOP32 : ∀ (m9 : Nat) (p : Nat) (xb1 : Bool) (xl1 : Int64) (xr1 : Int64) (xb2 : Bool) (xl2 : Int64) (xr2 : Int64) (xb3 : Bool) (xl3 : Int64) (xr3 : Int64) (xuz : Nat → Bool) (xul : Nat → Int64) (xuh : Nat → Int64) (xf1 : Int64) (xg1 : Int64) (xf2 : Int64) (xg2 : Int64), (p + m9 = 25) → (nxX (sp_X7_digitAt tb tl th dg ds k) m9 p = nxX (sp_X7_digitAt tb tl th dg ds k) (24 - d) (d + 1)) → ∀ (H : Heap) (locs : List Loc), va_P D vwCl (wXp y ad h q n xb1 xl1 xr1 xb2 xl2 xr2 xb3 xl3 xr3 xuz xul xuh xf1 xg1 xf2 xg2 pa kd on ot pt fb fl fh tb tl th dg ds) H → va_D A (wXp y ad h q n xb1 xl1 xr1 xb2 xl2 xr2 xb3 xl3 xr3 xuz xul xuh xf1 xg1 xf2 xg2 pa kd on ot pt fb fl fh tb tl th dg ds) → va_S A s.heap H locs → ∀ (ls : Array Slot), lv_has ls 5 [(0, .ref h), (1, .int (nI k)), (2, .ref (pa k 0)), (3, .int (nI p))] → W pg l e (headSpec wsX7_next ({ frames := 6, cells := 1, slots := 6, locals := 92 } : Room)).room s m (([.ref h, .int (nI k)] : List Value).toArray) below meth c H locs 0 0 (vx_MQ below gNo (gXC D (wXp y ad h q n b1 l1 r1 b2 l2 r2 b3 l3 r3 uz ul uh f1 g1 f2 g2 pa kd on ot pt fb fl fh tb tl th dg ds) gISE (xScr y ad h q n pa kd on ot pt fb fl fh tb tl th dg ds)) (([.ref h, .int (nI k)] : List Value).toArray) s 1 6 (va_A (wXp y ad h q n b1 l1 r1 b2 l2 r2 b3 l3 r3 uz ul uh f1 g1 f2 g2 pa kd on ot pt fb fl fh tb tl th dg ds) s.heap.size)) (F0 m 32 ls []) := by
    intro m9
    induction m9 with
    | zero =>
      intro p xb1 xl1 xr1 xb2 xl2 xr2 xb3 xl3 xr3 xuz xul xuh xf1 xg1 xf2 xg2 hp2 hF H locs hP hD hS ls hl
      refine lv_iload_n hx hb dX7_next_32 rfl (lv_at hl 3 rfl) ?_
      refine lv_bipush (v := 24) hx hb dX7_next_33 (by decide) ?_
      refine lv_icmp_gt (tgt := 87) hx hb dX7_next_35 (by decide) (fun c_35 => ?_) (fun c_35 => absurd (nI_lt (a := 24) (b := p) (by omega) (by omega)) c_35)
      obtain ⟨sa, hsa⟩ := hE.str 5 rfl
      exact vx_throwS hx hb hfl (own := RX7) (cls := gISE) (names := gNm) (A := A) hown (by decide +kernel) (by decide +kernel) (hts (.classLink RX7 134 "java/lang/IllegalStateException") (List.mem_of_getElem? (i := 1) rfl)) (hts (.initialized "java/lang/IllegalStateException") (List.mem_of_getElem? (i := 2) rfl)) hsa (vx_hat (fun w hw => hts w (in_X7_next_ise w hw)) gAt_ise hE.cw) gOt_ise hE.1.1 hE.1.2 hS (hl.1.trans hml.symm) dX7_next_87 dX7_next_90 dX7_next_91 dX7_next_93 dX7_next_96 (fun x hx9 => (hno x hx9).elim) (Nat.le_of_ble_eq_true rfl) (Nat.le_of_ble_eq_true rfl) (Nat.le_of_ble_eq_true rfl) (Nat.le_of_ble_eq_true rfl) hlocks (g_xc hAe hP hS ⟨_, _, _, _, _, _, _, _, _, _, _, _, _, _, _, _, rfl⟩ rfl) (by rw [← hAe]; exact hS.2.2) (Nat.le_of_ble_eq_true rfl) (Nat.le_of_ble_eq_true rfl)
    | succ m9 ih32 =>
      intro p xb1 xl1 xr1 xb2 xl2 xr2 xb3 xl3 xr3 xuz xul xuh xf1 xg1 xf2 xg2 hp2 hF H locs hP hD hS ls hl
      refine lv_iload_n hx hb dX7_next_32 rfl (lv_at hl 3 rfl) ?_
      refine lv_bipush (v := 24) hx hb dX7_next_33 (by decide) ?_
      refine lv_icmp_gt (tgt := 87) hx hb dX7_next_35 (by decide) (fun c_35 => absurd c_35 (nI_nlt (a := 24) (b := p) (by omega) (by omega))) (fun c_35 => ?_)
      refine lv_aload_n hx hb dX7_next_38 rfl (lv_at hl 0 rfl) ?_
      refine lv_aload_n hx hb dX7_next_39 rfl (lv_at hl 2 rfl) ?_
      refine lv_iload_n hx hb dX7_next_40 rfl (lv_at hl 3 rfl) ?_
      refine g_callA (va_runV (As := [.ref (pa k 0), .int (nI p)]) (rest := []) ⟨hx, hb, hml, hown, hts⟩ (c_X7_digitAt l hfl D y ad H.size h q n xb1 xl1 xr1 xb2 xl2 xr2 xb3 xl3 xr3 xuz xul xuh xf1 xg1 xf2 xg2 pa kd on ot pt fb fl fh tb tl th dg ds k p hn hk (by omega)) (cwV 2 hts gX7_next_X7_digitAt rfl rfl rfl (by decide +kernel) ⟨Nat.le_of_ble_eq_true rfl, Nat.le_of_ble_eq_true rfl⟩) (gPX_VA hP hD hK hE hS hA 0 rfl rfl) rfl rfl hl.1 rfl (lv_room (Nat.le_of_ble_eq_true rfl)) dX7_next_41 ⟨Nat.zero_le _, Nat.zero_le _⟩) hP hD hS hA (fun v w1 H locs hf hP hD hS => ?_)
      obtain ⟨rfl, b1_41, l1_41, r1_41, b2_41, l2_41, r2_41, b3_41, l3_41, r3_41, uz_41, ul_41, uh_41, f1_41, g1_41, f2_41, g2_41, rfl⟩ := hf
      have hP : va_P D vwCl (wXp y ad h q n b1_41 l1_41 r1_41 b2_41 l2_41 r2_41 b3_41 l3_41 r3_41 uz_41 ul_41 uh_41 f1_41 g1_41 f2_41 g2_41 pa kd on ot pt fb fl fh tb tl th dg ds) H := hP
      have hD : va_D A (wXp y ad h q n b1_41 l1_41 r1_41 b2_41 l2_41 r2_41 b3_41 l3_41 r3_41 uz_41 ul_41 uh_41 f1_41 g1_41 f2_41 g2_41 pa kd on ot pt fb fl fh tb tl th dg ds) := hD
      refine lv_istore (lv' := [(4, .int (sp_X7_digitAt tb tl th dg ds k p)), (0, .ref h), (1, .int (nI k)), (2, .ref (pa k 0)), (3, .int (nI p))]) hx hb dX7_next_44 hl (by decide) rfl (fun ls hl => ?_)
      refine lv_iload hx hb dX7_next_46 (lv_at hl 0 rfl) ?_
      refine lv_iconst (v := 2) hx hb dX7_next_48 (by decide) ?_
      refine lv_icmp_eq (tgt := 81) hx hb dX7_next_49 (by decide) (fun c_49 => ?_) (fun c_49 => ?_)
      · skip
        refine lv_iinc (v := nI (p + 1)) (lv' := [(3, .int (nI (p + 1))), (4, .int (sp_X7_digitAt tb tl th dg ds k p)), (0, .ref h), (1, .int (nI k)), (2, .ref (pa k 0))]) hx hb dX7_next_81 hl (k := 4) rfl (nI_add p 1) (by decide) rfl (fun ls hl => ?_)
        refine lv_goto (tgt := 32) hx hb dX7_next_84 (by decide) ?_
        exact ih32 (p + 1) b1_41 l1_41 r1_41 b2_41 l2_41 r2_41 b3_41 l3_41 r3_41 uz_41 ul_41 uh_41 f1_41 g1_41 f2_41 g2_41 (by omega) (by rw [← hF]; show _ = (if _ then _ else _); rw [if_pos c_49]) _ _ hP hD hS ls (lv_sub hl [2, 3, 4, 0] rfl)
      · skip
        exact absurd (hs.symm ▸ (by rw [← hF]; show (if _ then _ else _) = _; rw [if_neg c_49] : nxX (sp_X7_digitAt tb tl th dg ds k) (24 - d) (d + 1) = (sp_X7_digitAt tb tl th dg ds k) p)) (fun z9 => c_49 z9.symm)
  exact LOOP32 (24 - d) (d + 1) b1 l1 r1 b2 l2 r2 b3 l3 r3 uz ul uh f1 g1 f2 g2 (by omega) (rfl) _ _ hP hD hS ls (lv_sub hl [2, 3, 1, 0] rfl)
set_option maxHeartbeats 4000000 in
set_option maxRecDepth 100000 in
theorem c_X7_emitted_X1 (l : Launch) (hfl : l.stackTraces = false) (D : va_G) (y : Nat → ClassId) (ad : Nat → Nat) (sz : Nat) (h : Nat) (q : Nat → Nat) (n : Nat) (b1 : Bool) (l1 r1 : Int64) (b2 : Bool) (l2 r2 : Int64) (b3 : Bool) (l3 r3 : Int64) (uz : Nat → Bool) (ul uh : Nat → Int64) (f1 g1 f2 g2 : Int64) (pa : Nat → Nat → Nat) (kd : Nat → Nat) (on ot : Nat → Int32) (pt : Nat → Int64) (fb : Nat → Nat → Bool) (fl fh : Nat → Nat → Int64) (tb : Nat → Nat → Bool) (tl th : Nat → Nat → Int64) (dg : Nat → Int32) (ds : Nat → Int64) (a : Int32) (hbad : a < 0 ∨ nI n ≤ a) : vx_Met l yX7_emitted wsX7_emitted ({ frames := 7, cells := 1, slots := 6, locals := 114 } : Room) (gPX D y ad [.ref h, .int a] (wXp y ad h q n b1 l1 r1 b2 l2 r2 b3 l3 r3 uz ul uh f1 g1 f2 g2 pa kd on ot pt fb fl fh tb tl th dg ds) sz) gNo (gXC D (wXp y ad h q n b1 l1 r1 b2 l2 r2 b3 l3 r3 uz ul uh f1 g1 f2 g2 pa kd on ot pt fb fl fh tb tl th dg ds) gIOB (fun w => w = wXp y ad h q n b1 l1 r1 b2 l2 r2 b3 l3 r3 uz ul uh f1 g1 f2 g2 pa kd on ot pt fb fl fh tb tl th dg ds)) 1 6 (va_A (wXp y ad h q n b1 l1 r1 b2 l2 r2 b3 l3 r3 uz ul uh f1 g1 f2 g2 pa kd on ot pt fb fl fh tb tl th dg ds) sz) := by
  refine vx_ofW (cc := cX7_emitted) (maxL := 2) (ret := (some .int)) (by decide) rfl ?_
  intro pg e s m args below meth c s₁ B hml hno hv
  obtain ⟨rfl, hsz, hP, hK, hD0, hE0⟩ := hv
  have hx := B.exec
  have hb := B.bytes
  have hr := B.returns
  have hts := atoms_spec (ws := wsX7_emitted) B.pre
  have hown : s.vm.findClass RX7 = some m.cls := findClass_of_methodNamed B.named
  have hlocks := B.notSynchronized
  subst hsz
  obtain ⟨A, hAe⟩ : ∃ A : Nat → Prop, A = va_A (wXp y ad h q n b1 l1 r1 b2 l2 r2 b3 l3 r3 uz ul uh f1 g1 f2 g2 pa kd on ot pt fb fl fh tb tl th dg ds) s.heap.size := ⟨_, rfl⟩
  have hE : gE ad A s s.heap := by rw [hAe]; exact hE0
  have hD : va_D A (wXp y ad h q n b1 l1 r1 b2 l2 r2 b3 l3 r3 uz ul uh f1 g1 f2 g2 pa kd on ot pt fb fl fh tb tl th dg ds) := by rw [hAe]; exact hD0.self (sz := s.heap.size)
  have hA : ∀ q : Nat, s.heap.size ≤ q → A q := fun q h => by rw [hAe]; exact Or.inr h
  have hS : va_S A s.heap s.heap [] := va_S.rf
  have hl := lv_entry ([.ref h, .int a]) (n := 2) (Nat.le_of_ble_eq_true rfl)
  rw [lg_entry_eq]
  generalize (lg_sl ([.ref h, .int a]) ++ List.replicate (2 - (lg_sl ([.ref h, .int a])).length) Slot.unset).toArray = ls at hl ⊢
  have hl : lv_has ls 2 [(0, .ref h), (1, .int a)] := hl
  refine lv_aload_n hx hb dX7_emitted_0 rfl (lv_at hl 0 rfl) ?_
  refine lv_iload_n hx hb dX7_emitted_1 rfl (lv_at hl 1 rfl) ?_
  exact g_outX (vx_runV (As := [.int a]) (rest := []) ⟨hx, hb, hml, hown, hts⟩ (c_X7_existing_X l hfl D y ad s.heap.size h q n b1 l1 r1 b2 l2 r2 b3 l3 r3 uz ul uh f1 g1 f2 g2 pa kd on ot pt fb fl fh tb tl th dg ds a hbad) (cwV 1 hts gX7_emitted_X7_existing rfl rfl rfl (by decide +kernel) ⟨Nat.le_of_ble_eq_true rfl, Nat.le_of_ble_eq_true rfl⟩) (gPX_VA hP hD hK hE hS hA 0 rfl rfl) rfl rfl hl.1 rfl (lv_room (Nat.le_of_ble_eq_true rfl)) dX7_emitted_2 ⟨Nat.le_of_ble_eq_true rfl, Nat.le_of_ble_eq_true rfl⟩) hAe hD hS hA (fun w1 h9 => h9) rfl hno hlocks (Nat.le_of_ble_eq_true rfl) (Nat.le_of_ble_eq_true rfl)
theorem in_X7_emitted_X5 : ∀ w ∈ wsX50, w ∈ wsX7_emitted := fun _ h => List.mem_cons_of_mem _ (List.mem_append_left _ (List.mem_append_left _ (List.mem_append_right _ h)))
set_option maxHeartbeats 4000000 in
set_option maxRecDepth 100000 in
theorem c_X7_emitted_0 (l : Launch) (hfl : l.stackTraces = false) (D : va_G) (y : Nat → ClassId) (ad : Nat → Nat) (sz : Nat) (h : Nat) (q : Nat → Nat) (n : Nat) (b1 : Bool) (l1 r1 : Int64) (b2 : Bool) (l2 r2 : Int64) (b3 : Bool) (l3 r3 : Int64) (uz : Nat → Bool) (ul uh : Nat → Int64) (f1 g1 f2 g2 : Int64) (pa : Nat → Nat → Nat) (kd : Nat → Nat) (on ot : Nat → Int32) (pt : Nat → Int64) (fb : Nat → Nat → Bool) (fl fh : Nat → Nat → Int64) (tb : Nat → Nat → Bool) (tl th : Nat → Nat → Int64) (dg : Nat → Int32) (ds : Nat → Int64) (k : Nat) (hn : n ≤ 40) (hk : k < n) : Met l yX7_emitted wsX7_emitted ({ frames := 1, cells := 0, slots := 0, locals := 22 } : Room) (gPX D y ad [.ref h, .int (nI k)] (wXp y ad h q n b1 l1 r1 b2 l2 r2 b3 l3 r3 uz ul uh f1 g1 f2 g2 pa kd on ot pt fb fl fh tb tl th dg ds) sz) (gR (.int (dg k))) 0 0 (fun _ => False) := by
  refine Met.ofW (cc := cX7_emitted) (maxL := 2) (ret := (some .int)) (by decide) rfl ?_
  intro pg e s m args below meth c s₁ B hml hv
  obtain ⟨rfl, hsz, hP, hK, hD0, hE0⟩ := hv
  have hx := B.exec
  have hb := B.bytes
  have hr := B.returns
  have hts := atoms_spec (ws := wsX7_emitted) B.pre
  have hown : s.vm.findClass RX7 = some m.cls := findClass_of_methodNamed B.named
  have hlocks := B.notSynchronized
  subst hsz
  obtain ⟨A, hAe⟩ : ∃ A : Nat → Prop, A = va_A (wXp y ad h q n b1 l1 r1 b2 l2 r2 b3 l3 r3 uz ul uh f1 g1 f2 g2 pa kd on ot pt fb fl fh tb tl th dg ds) s.heap.size := ⟨_, rfl⟩
  have hE : gE ad A s s.heap := by rw [hAe]; exact hE0
  have hD : va_D A (wXp y ad h q n b1 l1 r1 b2 l2 r2 b3 l3 r3 uz ul uh f1 g1 f2 g2 pa kd on ot pt fb fl fh tb tl th dg ds) := by rw [hAe]; exact hD0.self (sz := s.heap.size)
  have hA : ∀ q : Nat, s.heap.size ≤ q → A q := fun q h => by rw [hAe]; exact Or.inr h
  have hS : va_S A s.heap s.heap [] := va_S.rf
  have hl := lv_entry ([.ref h, .int (nI k)]) (n := 2) (Nat.le_of_ble_eq_true rfl)
  rw [lg_entry_eq]
  generalize (lg_sl ([.ref h, .int (nI k)]) ++ List.replicate (2 - (lg_sl ([.ref h, .int (nI k)])).length) Slot.unset).toArray = ls at hl ⊢
  have hl : lv_has ls 2 [(0, .ref h), (1, .int (nI k))] := hl
  refine lv_aload_n hx hb dX7_emitted_0 rfl (lv_at hl 0 rfl) ?_
  refine lv_iload_n hx hb dX7_emitted_1 rfl (lv_at hl 1 rfl) ?_
  refine g_callR (v0 := .ref (pa k 0)) (va_runV (As := [.int (nI k)]) (rest := []) ⟨hx, hb, hml, hown, hts⟩ (c_X7_existing_0 l hfl D y ad s.heap.size h q n b1 l1 r1 b2 l2 r2 b3 l3 r3 uz ul uh f1 g1 f2 g2 pa kd on ot pt fb fl fh tb tl th dg ds k hn hk) (cwV 1 hts gX7_emitted_X7_existing rfl rfl rfl (by decide +kernel) ⟨Nat.le_of_ble_eq_true rfl, Nat.le_of_ble_eq_true rfl⟩) (gPX_VA hP hD hK hE hS hA 0 rfl rfl) rfl rfl hl.1 rfl (lv_room (Nat.le_of_ble_eq_true rfl)) dX7_emitted_2 ⟨Nat.zero_le _, Nat.zero_le _⟩) ?_
  refine va_get (D := D) (ci := 3) (v := .int (dg k)) (C := RX5) (T := TX5) (N := 8) hx hb hts in_X7_emitted_X5 hown hK.1 hP (9 * k + 0 + 11) (gPL_at (j := 0) (fun _ => rfl) (by decide) hk) rfl 6 (by decide) (hts (.fieldLink RX7 220 "Nestlimit$Program" "digits" "I") (List.mem_of_getElem? (i := 1) rfl)) (fun _ h9 => h9) rfl dX7_emitted_5 ?_
  exact W.iret (v := dg k) hx hb hr (fun t ht hW => ⟨congrArg (fun z => Outcome.returned (some (Value.int z))) (rfl), ht⟩) (fun q h => by cases h) dX7_emitted_8
set_option maxHeartbeats 4000000 in
set_option maxRecDepth 100000 in
theorem c_X7_partial_X1 (l : Launch) (hfl : l.stackTraces = false) (D : va_G) (y : Nat → ClassId) (ad : Nat → Nat) (sz : Nat) (h : Nat) (q : Nat → Nat) (n : Nat) (b1 : Bool) (l1 r1 : Int64) (b2 : Bool) (l2 r2 : Int64) (b3 : Bool) (l3 r3 : Int64) (uz : Nat → Bool) (ul uh : Nat → Int64) (f1 g1 f2 g2 : Int64) (pa : Nat → Nat → Nat) (kd : Nat → Nat) (on ot : Nat → Int32) (pt : Nat → Int64) (fb : Nat → Nat → Bool) (fl fh : Nat → Nat → Int64) (tb : Nat → Nat → Bool) (tl th : Nat → Nat → Int64) (dg : Nat → Int32) (ds : Nat → Int64) (a : Int32) (hbad : a < 0 ∨ nI n ≤ a) : vx_Met l yX7_partial wsX7_partial ({ frames := 7, cells := 1, slots := 6, locals := 114 } : Room) (gPX D y ad [.ref h, .int a] (wXp y ad h q n b1 l1 r1 b2 l2 r2 b3 l3 r3 uz ul uh f1 g1 f2 g2 pa kd on ot pt fb fl fh tb tl th dg ds) sz) gNo (gXC D (wXp y ad h q n b1 l1 r1 b2 l2 r2 b3 l3 r3 uz ul uh f1 g1 f2 g2 pa kd on ot pt fb fl fh tb tl th dg ds) gIOB (fun w => w = wXp y ad h q n b1 l1 r1 b2 l2 r2 b3 l3 r3 uz ul uh f1 g1 f2 g2 pa kd on ot pt fb fl fh tb tl th dg ds)) 1 6 (va_A (wXp y ad h q n b1 l1 r1 b2 l2 r2 b3 l3 r3 uz ul uh f1 g1 f2 g2 pa kd on ot pt fb fl fh tb tl th dg ds) sz) := by
  refine vx_ofW (cc := cX7_partial) (maxL := 2) (ret := (some .long)) (by decide) rfl ?_
  intro pg e s m args below meth c s₁ B hml hno hv
  obtain ⟨rfl, hsz, hP, hK, hD0, hE0⟩ := hv
  have hx := B.exec
  have hb := B.bytes
  have hr := B.returns
  have hts := atoms_spec (ws := wsX7_partial) B.pre
  have hown : s.vm.findClass RX7 = some m.cls := findClass_of_methodNamed B.named
  have hlocks := B.notSynchronized
  subst hsz
  obtain ⟨A, hAe⟩ : ∃ A : Nat → Prop, A = va_A (wXp y ad h q n b1 l1 r1 b2 l2 r2 b3 l3 r3 uz ul uh f1 g1 f2 g2 pa kd on ot pt fb fl fh tb tl th dg ds) s.heap.size := ⟨_, rfl⟩
  have hE : gE ad A s s.heap := by rw [hAe]; exact hE0
  have hD : va_D A (wXp y ad h q n b1 l1 r1 b2 l2 r2 b3 l3 r3 uz ul uh f1 g1 f2 g2 pa kd on ot pt fb fl fh tb tl th dg ds) := by rw [hAe]; exact hD0.self (sz := s.heap.size)
  have hA : ∀ q : Nat, s.heap.size ≤ q → A q := fun q h => by rw [hAe]; exact Or.inr h
  have hS : va_S A s.heap s.heap [] := va_S.rf
  have hl := lv_entry ([.ref h, .int a]) (n := 2) (Nat.le_of_ble_eq_true rfl)
  rw [lg_entry_eq]
  generalize (lg_sl ([.ref h, .int a]) ++ List.replicate (2 - (lg_sl ([.ref h, .int a])).length) Slot.unset).toArray = ls at hl ⊢
  have hl : lv_has ls 2 [(0, .ref h), (1, .int a)] := hl
  refine lv_aload_n hx hb dX7_partial_0 rfl (lv_at hl 0 rfl) ?_
  refine lv_iload_n hx hb dX7_partial_1 rfl (lv_at hl 1 rfl) ?_
  exact g_outX (vx_runV (As := [.int a]) (rest := []) ⟨hx, hb, hml, hown, hts⟩ (c_X7_existing_X l hfl D y ad s.heap.size h q n b1 l1 r1 b2 l2 r2 b3 l3 r3 uz ul uh f1 g1 f2 g2 pa kd on ot pt fb fl fh tb tl th dg ds a hbad) (cwV 1 hts gX7_partial_X7_existing rfl rfl rfl (by decide +kernel) ⟨Nat.le_of_ble_eq_true rfl, Nat.le_of_ble_eq_true rfl⟩) (gPX_VA hP hD hK hE hS hA 0 rfl rfl) rfl rfl hl.1 rfl (lv_room (Nat.le_of_ble_eq_true rfl)) dX7_partial_2 ⟨Nat.le_of_ble_eq_true rfl, Nat.le_of_ble_eq_true rfl⟩) hAe hD hS hA (fun w1 h9 => h9) rfl hno hlocks (Nat.le_of_ble_eq_true rfl) (Nat.le_of_ble_eq_true rfl)
theorem in_X7_partial_X5 : ∀ w ∈ wsX50, w ∈ wsX7_partial := fun _ h => List.mem_cons_of_mem _ (List.mem_append_left _ (List.mem_append_left _ (List.mem_append_right _ h)))
set_option maxHeartbeats 4000000 in
set_option maxRecDepth 100000 in
theorem c_X7_partial_0 (l : Launch) (hfl : l.stackTraces = false) (D : va_G) (y : Nat → ClassId) (ad : Nat → Nat) (sz : Nat) (h : Nat) (q : Nat → Nat) (n : Nat) (b1 : Bool) (l1 r1 : Int64) (b2 : Bool) (l2 r2 : Int64) (b3 : Bool) (l3 r3 : Int64) (uz : Nat → Bool) (ul uh : Nat → Int64) (f1 g1 f2 g2 : Int64) (pa : Nat → Nat → Nat) (kd : Nat → Nat) (on ot : Nat → Int32) (pt : Nat → Int64) (fb : Nat → Nat → Bool) (fl fh : Nat → Nat → Int64) (tb : Nat → Nat → Bool) (tl th : Nat → Nat → Int64) (dg : Nat → Int32) (ds : Nat → Int64) (k : Nat) (hn : n ≤ 40) (hk : k < n) : Met l yX7_partial wsX7_partial ({ frames := 1, cells := 0, slots := 0, locals := 22 } : Room) (gPX D y ad [.ref h, .int (nI k)] (wXp y ad h q n b1 l1 r1 b2 l2 r2 b3 l3 r3 uz ul uh f1 g1 f2 g2 pa kd on ot pt fb fl fh tb tl th dg ds) sz) (gR (.long (ds k))) 0 0 (fun _ => False) := by
  refine Met.ofW (cc := cX7_partial) (maxL := 2) (ret := (some .long)) (by decide) rfl ?_
  intro pg e s m args below meth c s₁ B hml hv
  obtain ⟨rfl, hsz, hP, hK, hD0, hE0⟩ := hv
  have hx := B.exec
  have hb := B.bytes
  have hr := B.returns
  have hts := atoms_spec (ws := wsX7_partial) B.pre
  have hown : s.vm.findClass RX7 = some m.cls := findClass_of_methodNamed B.named
  have hlocks := B.notSynchronized
  subst hsz
  obtain ⟨A, hAe⟩ : ∃ A : Nat → Prop, A = va_A (wXp y ad h q n b1 l1 r1 b2 l2 r2 b3 l3 r3 uz ul uh f1 g1 f2 g2 pa kd on ot pt fb fl fh tb tl th dg ds) s.heap.size := ⟨_, rfl⟩
  have hE : gE ad A s s.heap := by rw [hAe]; exact hE0
  have hD : va_D A (wXp y ad h q n b1 l1 r1 b2 l2 r2 b3 l3 r3 uz ul uh f1 g1 f2 g2 pa kd on ot pt fb fl fh tb tl th dg ds) := by rw [hAe]; exact hD0.self (sz := s.heap.size)
  have hA : ∀ q : Nat, s.heap.size ≤ q → A q := fun q h => by rw [hAe]; exact Or.inr h
  have hS : va_S A s.heap s.heap [] := va_S.rf
  have hl := lv_entry ([.ref h, .int (nI k)]) (n := 2) (Nat.le_of_ble_eq_true rfl)
  rw [lg_entry_eq]
  generalize (lg_sl ([.ref h, .int (nI k)]) ++ List.replicate (2 - (lg_sl ([.ref h, .int (nI k)])).length) Slot.unset).toArray = ls at hl ⊢
  have hl : lv_has ls 2 [(0, .ref h), (1, .int (nI k))] := hl
  refine lv_aload_n hx hb dX7_partial_0 rfl (lv_at hl 0 rfl) ?_
  refine lv_iload_n hx hb dX7_partial_1 rfl (lv_at hl 1 rfl) ?_
  refine g_callR (v0 := .ref (pa k 0)) (va_runV (As := [.int (nI k)]) (rest := []) ⟨hx, hb, hml, hown, hts⟩ (c_X7_existing_0 l hfl D y ad s.heap.size h q n b1 l1 r1 b2 l2 r2 b3 l3 r3 uz ul uh f1 g1 f2 g2 pa kd on ot pt fb fl fh tb tl th dg ds k hn hk) (cwV 1 hts gX7_partial_X7_existing rfl rfl rfl (by decide +kernel) ⟨Nat.le_of_ble_eq_true rfl, Nat.le_of_ble_eq_true rfl⟩) (gPX_VA hP hD hK hE hS hA 0 rfl rfl) rfl rfl hl.1 rfl (lv_room (Nat.le_of_ble_eq_true rfl)) dX7_partial_2 ⟨Nat.zero_le _, Nat.zero_le _⟩) ?_
  refine va_get (D := D) (ci := 3) (v := .long (ds k)) (C := RX5) (T := TX5) (N := 8) hx hb hts in_X7_partial_X5 hown hK.1 hP (9 * k + 0 + 11) (gPL_at (j := 0) (fun _ => rfl) (by decide) hk) rfl 7 (by decide) (hts (.fieldLink RX7 231 "Nestlimit$Program" "digitSum" "J") (List.mem_of_getElem? (i := 1) rfl)) (fun _ h9 => h9) rfl dX7_partial_5 ?_
  exact W.lret (v := ds k) hx hb hr (fun t ht hW => ⟨congrArg (fun z => Outcome.returned (some (Value.long z))) (rfl), ht⟩) (fun q h => by cases h) dX7_partial_8
set_option maxHeartbeats 4000000 in
set_option maxRecDepth 100000 in
theorem c_X7_restart_X1 (l : Launch) (hfl : l.stackTraces = false) (D : va_G) (y : Nat → ClassId) (ad : Nat → Nat) (sz : Nat) (h : Nat) (q : Nat → Nat) (n : Nat) (b1 : Bool) (l1 r1 : Int64) (b2 : Bool) (l2 r2 : Int64) (b3 : Bool) (l3 r3 : Int64) (uz : Nat → Bool) (ul uh : Nat → Int64) (f1 g1 f2 g2 : Int64) (pa : Nat → Nat → Nat) (kd : Nat → Nat) (on ot : Nat → Int32) (pt : Nat → Int64) (fb : Nat → Nat → Bool) (fl fh : Nat → Nat → Int64) (tb : Nat → Nat → Bool) (tl th : Nat → Nat → Int64) (dg : Nat → Int32) (ds : Nat → Int64) (a : Int32) (hbad : a < 0 ∨ nI n ≤ a) : vx_Met l yX7_restart wsX7_restart ({ frames := 7, cells := 1, slots := 6, locals := 114 } : Room) (gPX D y ad [.ref h, .int a] (wXp y ad h q n b1 l1 r1 b2 l2 r2 b3 l3 r3 uz ul uh f1 g1 f2 g2 pa kd on ot pt fb fl fh tb tl th dg ds) sz) gNo (gXC D (wXp y ad h q n b1 l1 r1 b2 l2 r2 b3 l3 r3 uz ul uh f1 g1 f2 g2 pa kd on ot pt fb fl fh tb tl th dg ds) gIOB (fun w => w = wXp y ad h q n b1 l1 r1 b2 l2 r2 b3 l3 r3 uz ul uh f1 g1 f2 g2 pa kd on ot pt fb fl fh tb tl th dg ds)) 1 6 (va_A (wXp y ad h q n b1 l1 r1 b2 l2 r2 b3 l3 r3 uz ul uh f1 g1 f2 g2 pa kd on ot pt fb fl fh tb tl th dg ds) sz) := by
  refine vx_ofW (cc := cX7_restart) (maxL := 4) (ret := (some .int)) (by decide) rfl ?_
  intro pg e s m args below meth c s₁ B hml hno hv
  obtain ⟨rfl, hsz, hP, hK, hD0, hE0⟩ := hv
  have hx := B.exec
  have hb := B.bytes
  have hr := B.returns
  have hts := atoms_spec (ws := wsX7_restart) B.pre
  have hown : s.vm.findClass RX7 = some m.cls := findClass_of_methodNamed B.named
  have hlocks := B.notSynchronized
  subst hsz
  obtain ⟨A, hAe⟩ : ∃ A : Nat → Prop, A = va_A (wXp y ad h q n b1 l1 r1 b2 l2 r2 b3 l3 r3 uz ul uh f1 g1 f2 g2 pa kd on ot pt fb fl fh tb tl th dg ds) s.heap.size := ⟨_, rfl⟩
  have hE : gE ad A s s.heap := by rw [hAe]; exact hE0
  have hD : va_D A (wXp y ad h q n b1 l1 r1 b2 l2 r2 b3 l3 r3 uz ul uh f1 g1 f2 g2 pa kd on ot pt fb fl fh tb tl th dg ds) := by rw [hAe]; exact hD0.self (sz := s.heap.size)
  have hA : ∀ q : Nat, s.heap.size ≤ q → A q := fun q h => by rw [hAe]; exact Or.inr h
  have hS : va_S A s.heap s.heap [] := va_S.rf
  have hl := lv_entry ([.ref h, .int a]) (n := 4) (Nat.le_of_ble_eq_true rfl)
  rw [lg_entry_eq]
  generalize (lg_sl ([.ref h, .int a]) ++ List.replicate (4 - (lg_sl ([.ref h, .int a])).length) Slot.unset).toArray = ls at hl ⊢
  have hl : lv_has ls 4 [(0, .ref h), (1, .int a)] := hl
  refine lv_aload_n hx hb dX7_restart_0 rfl (lv_at hl 0 rfl) ?_
  refine lv_iload_n hx hb dX7_restart_1 rfl (lv_at hl 1 rfl) ?_
  exact g_outX (vx_runV (As := [.int a]) (rest := []) ⟨hx, hb, hml, hown, hts⟩ (c_X7_existing_X l hfl D y ad s.heap.size h q n b1 l1 r1 b2 l2 r2 b3 l3 r3 uz ul uh f1 g1 f2 g2 pa kd on ot pt fb fl fh tb tl th dg ds a hbad) (cwV 1 hts gX7_restart_X7_existing rfl rfl rfl (by decide +kernel) ⟨Nat.le_of_ble_eq_true rfl, Nat.le_of_ble_eq_true rfl⟩) (gPX_VA hP hD hK hE hS hA 0 rfl rfl) rfl rfl hl.1 rfl (lv_room (Nat.le_of_ble_eq_true rfl)) dX7_restart_2 ⟨Nat.le_of_ble_eq_true rfl, Nat.le_of_ble_eq_true rfl⟩) hAe hD hS hA (fun w1 h9 => h9) rfl hno hlocks (Nat.le_of_ble_eq_true rfl) (Nat.le_of_ble_eq_true rfl)
theorem in_X7_restart_X5 : ∀ w ∈ wsX50, w ∈ wsX7_restart := fun _ h => List.mem_cons_of_mem _ (List.mem_append_left _ (List.mem_append_left _ (List.mem_append_right _ h)))
set_option maxHeartbeats 4000000 in
set_option maxRecDepth 100000 in
theorem c_X7_restart_0 (l : Launch) (hfl : l.stackTraces = false) (D : va_G) (y : Nat → ClassId) (ad : Nat → Nat) (sz : Nat) (h : Nat) (q : Nat → Nat) (n : Nat) (b1 : Bool) (l1 r1 : Int64) (b2 : Bool) (l2 r2 : Int64) (b3 : Bool) (l3 r3 : Int64) (uz : Nat → Bool) (ul uh : Nat → Int64) (f1 g1 f2 g2 : Int64) (pa : Nat → Nat → Nat) (kd : Nat → Nat) (on ot : Nat → Int32) (pt : Nat → Int64) (fb : Nat → Nat → Bool) (fl fh : Nat → Nat → Int64) (tb : Nat → Nat → Bool) (tl th : Nat → Nat → Int64) (dg : Nat → Int32) (ds : Nat → Int64) (k : Nat) (hn : n ≤ 40) (hk : k < n) : Met l yX7_restart wsX7_restart ({ frames := 1, cells := 0, slots := 0, locals := 22 } : Room) (gPX D y ad [.ref h, .int (nI k)] (wXp y ad h q n b1 l1 r1 b2 l2 r2 b3 l3 r3 uz ul uh f1 g1 f2 g2 pa kd on ot pt fb fl fh tb tl th dg ds) sz) (gQ D (wXp y ad h q n b1 l1 r1 b2 l2 r2 b3 l3 r3 uz ul uh f1 g1 f2 g2 pa kd on ot pt fb fl fh tb tl th dg ds) (gF (some (.int (dg k))) (wXp y ad h q n b1 l1 r1 b2 l2 r2 b3 l3 r3 uz ul uh f1 g1 f2 g2 pa kd on ot pt fb fl fh tb tl th (upd dg k 0) (vp_updL ds k 0)))) 0 0 (va_A (wXp y ad h q n b1 l1 r1 b2 l2 r2 b3 l3 r3 uz ul uh f1 g1 f2 g2 pa kd on ot pt fb fl fh tb tl th dg ds) sz) := by
  refine Met.ofW (cc := cX7_restart) (maxL := 4) (ret := (some .int)) (by decide) rfl ?_
  intro pg e s m args below meth c s₁ B hml hv
  obtain ⟨rfl, hsz, hP, hK, hD0, hE0⟩ := hv
  have hx := B.exec
  have hb := B.bytes
  have hr := B.returns
  have hts := atoms_spec (ws := wsX7_restart) B.pre
  have hown : s.vm.findClass RX7 = some m.cls := findClass_of_methodNamed B.named
  have hlocks := B.notSynchronized
  subst hsz
  obtain ⟨A, hAe⟩ : ∃ A : Nat → Prop, A = va_A (wXp y ad h q n b1 l1 r1 b2 l2 r2 b3 l3 r3 uz ul uh f1 g1 f2 g2 pa kd on ot pt fb fl fh tb tl th dg ds) s.heap.size := ⟨_, rfl⟩
  have hE : gE ad A s s.heap := by rw [hAe]; exact hE0
  have hD : va_D A (wXp y ad h q n b1 l1 r1 b2 l2 r2 b3 l3 r3 uz ul uh f1 g1 f2 g2 pa kd on ot pt fb fl fh tb tl th dg ds) := by rw [hAe]; exact hD0.self (sz := s.heap.size)
  have hA : ∀ q : Nat, s.heap.size ≤ q → A q := fun q h => by rw [hAe]; exact Or.inr h
  have hS : va_S A s.heap s.heap [] := va_S.rf
  have hl := lv_entry ([.ref h, .int (nI k)]) (n := 4) (Nat.le_of_ble_eq_true rfl)
  rw [lg_entry_eq]
  generalize (lg_sl ([.ref h, .int (nI k)]) ++ List.replicate (4 - (lg_sl ([.ref h, .int (nI k)])).length) Slot.unset).toArray = ls at hl ⊢
  have hl : lv_has ls 4 [(0, .ref h), (1, .int (nI k))] := hl
  refine lv_aload_n hx hb dX7_restart_0 rfl (lv_at hl 0 rfl) ?_
  refine lv_iload_n hx hb dX7_restart_1 rfl (lv_at hl 1 rfl) ?_
  refine g_callR (v0 := .ref (pa k 0)) (va_runV (As := [.int (nI k)]) (rest := []) ⟨hx, hb, hml, hown, hts⟩ (c_X7_existing_0 l hfl D y ad s.heap.size h q n b1 l1 r1 b2 l2 r2 b3 l3 r3 uz ul uh f1 g1 f2 g2 pa kd on ot pt fb fl fh tb tl th dg ds k hn hk) (cwV 1 hts gX7_restart_X7_existing rfl rfl rfl (by decide +kernel) ⟨Nat.le_of_ble_eq_true rfl, Nat.le_of_ble_eq_true rfl⟩) (gPX_VA hP hD hK hE hS hA 0 rfl rfl) rfl rfl hl.1 rfl (lv_room (Nat.le_of_ble_eq_true rfl)) dX7_restart_2 ⟨Nat.zero_le _, Nat.zero_le _⟩) ?_
  refine lv_astore_n (lv' := [(2, .ref (pa k 0)), (0, .ref h), (1, .int (nI k))]) hx hb dX7_restart_5 rfl hl (by decide) rfl (fun ls hl => ?_)
  refine lv_aload_n hx hb dX7_restart_6 rfl (lv_at hl 0 rfl) ?_
  refine va_get (D := D) (ci := 3) (v := .int (dg k)) (C := RX5) (T := TX5) (N := 8) hx hb hts in_X7_restart_X5 hown hK.1 hP (9 * k + 0 + 11) (gPL_at (j := 0) (fun _ => rfl) (by decide) hk) rfl 6 (by decide) (hts (.fieldLink RX7 220 "Nestlimit$Program" "digits" "I") (List.mem_of_getElem? (i := 1) rfl)) (fun _ h9 => h9) rfl dX7_restart_7 ?_
  refine lv_istore_n (lv' := [(3, .int (dg k)), (2, .ref (pa k 0)), (0, .ref h), (1, .int (nI k))]) hx hb dX7_restart_10 rfl hl (by decide) rfl (fun ls hl => ?_)
  refine lv_aload_n hx hb dX7_restart_11 rfl (lv_at hl 1 rfl) ?_
  refine lv_iconst (v := 0) hx hb dX7_restart_12 (by decide) ?_
  refine va_put (D := D) (ci := 3) (v := .int 0) (ty := .int) (C := RX5) (T := TX5) (N := 8) hx hb hts in_X7_restart_X5 tyX5 tyX5_ok nmX5 hown hK.1 hP hD hS (9 * k + 0 + 11) (gPL_at (j := 0) (fun _ => rfl) (by decide) hk) rfl 6 (by decide) (hts (.fieldLink RX7 220 "Nestlimit$Program" "digits" "I") (List.mem_of_getElem? (i := 1) rfl)) (fun _ h9 => h9) rfl (by decide +kernel) (rfl) (rfl) (Nat.le_of_ble_eq_true rfl) dX7_restart_13 (fun H locs hP hD hS => ?_)
  have h9 := wXp_dg y ad h q n b1 l1 r1 b2 l2 r2 b3 l3 r3 uz ul uh f1 g1 f2 g2 pa kd on ot pt fb fl fh tb tl th dg ds k hk 0
  have hP : va_P D vwCl (wXp y ad h q n b1 l1 r1 b2 l2 r2 b3 l3 r3 uz ul uh f1 g1 f2 g2 pa kd on ot pt fb fl fh tb tl th (upd dg k 0) ds) H := Eq.mp (congrArg (fun w => va_P D vwCl w H) h9) hP
  have hD : va_D A (wXp y ad h q n b1 l1 r1 b2 l2 r2 b3 l3 r3 uz ul uh f1 g1 f2 g2 pa kd on ot pt fb fl fh tb tl th (upd dg k 0) ds) := Eq.mp (congrArg (fun w => va_D A w) h9) hD
  refine lv_aload_n hx hb dX7_restart_16 rfl (lv_at hl 1 rfl) ?_
  refine lv_lconst (v := 0) hx hb dX7_restart_17 (by decide) ?_
  refine va_put (D := D) (ci := 3) (v := .long 0) (ty := .long) (C := RX5) (T := TX5) (N := 8) hx hb hts in_X7_restart_X5 tyX5 tyX5_ok nmX5 hown hK.1 hP hD hS (9 * k + 0 + 11) (gPL_at (j := 0) (fun _ => rfl) (by decide) hk) rfl 7 (by decide) (hts (.fieldLink RX7 231 "Nestlimit$Program" "digitSum" "J") (List.mem_of_getElem? (i := 2) rfl)) (fun _ h9 => h9) rfl (by decide +kernel) (rfl) (rfl) (Nat.le_of_ble_eq_true rfl) dX7_restart_18 (fun H locs hP hD hS => ?_)
  have h9 := wXp_ds y ad h q n b1 l1 r1 b2 l2 r2 b3 l3 r3 uz ul uh f1 g1 f2 g2 pa kd on ot pt fb fl fh tb tl th (upd dg k 0) ds k hk 0
  have hP : va_P D vwCl (wXp y ad h q n b1 l1 r1 b2 l2 r2 b3 l3 r3 uz ul uh f1 g1 f2 g2 pa kd on ot pt fb fl fh tb tl th (upd dg k 0) (vp_updL ds k 0)) H := Eq.mp (congrArg (fun w => va_P D vwCl w H) h9) hP
  have hD : va_D A (wXp y ad h q n b1 l1 r1 b2 l2 r2 b3 l3 r3 uz ul uh f1 g1 f2 g2 pa kd on ot pt fb fl fh tb tl th (upd dg k 0) (vp_updL ds k 0)) := Eq.mp (congrArg (fun w => va_D A w) h9) hD
  refine lv_iload_n hx hb dX7_restart_21 rfl (lv_at hl 0 rfl) ?_
  exact W.iret (v := dg k) hx hb hr (fun t ht hW => ⟨⟨_, wXp y ad h q n b1 l1 r1 b2 l2 r2 b3 l3 r3 uz ul uh f1 g1 f2 g2 pa kd on ot pt fb fl fh tb tl th (upd dg k 0) (vp_updL ds k 0), rfl, ⟨congrArg (fun z => some (Value.int z)) (rfl), rfl⟩, (congrArg (fun z => [h, q 0, q 1, q 2, q 3, q 4, q 5, q 6, q 7, q 8, q 9] ++ z) (gPL_fst (pc := (pcX y ad pa kd on ot pt fb fl fh tb tl th (upd dg k 0) (vp_updL ds k 0))) (pc' := (pcX y ad pa kd on ot pt fb fl fh tb tl th dg ds)) (fun _ => rfl) n)), by rw [ht]; exact hP⟩, by rw [← hAe]; exact hS.F ht⟩) (by rw [← hAe]; exact hS.2.2) dX7_restart_22
set_option maxHeartbeats 4000000 in
set_option maxRecDepth 100000 in
theorem c_X7_needs_X1 (l : Launch) (hfl : l.stackTraces = false) (D : va_G) (y : Nat → ClassId) (ad : Nat → Nat) (sz : Nat) (h : Nat) (q : Nat → Nat) (n : Nat) (b1 : Bool) (l1 r1 : Int64) (b2 : Bool) (l2 r2 : Int64) (b3 : Bool) (l3 r3 : Int64) (uz : Nat → Bool) (ul uh : Nat → Int64) (f1 g1 f2 g2 : Int64) (pa : Nat → Nat → Nat) (kd : Nat → Nat) (on ot : Nat → Int32) (pt : Nat → Int64) (fb : Nat → Nat → Bool) (fl fh : Nat → Nat → Int64) (tb : Nat → Nat → Bool) (tl th : Nat → Nat → Int64) (dg : Nat → Int32) (ds : Nat → Int64) (a : Int32) (hbad : a < 0 ∨ nI n ≤ a) : vx_Met l yX7_needs wsX7_needs ({ frames := 7, cells := 1, slots := 6, locals := 114 } : Room) (gPX D y ad [.ref h, .int a] (wXp y ad h q n b1 l1 r1 b2 l2 r2 b3 l3 r3 uz ul uh f1 g1 f2 g2 pa kd on ot pt fb fl fh tb tl th dg ds) sz) gNo (gXC D (wXp y ad h q n b1 l1 r1 b2 l2 r2 b3 l3 r3 uz ul uh f1 g1 f2 g2 pa kd on ot pt fb fl fh tb tl th dg ds) gIOB (fun w => w = wXp y ad h q n b1 l1 r1 b2 l2 r2 b3 l3 r3 uz ul uh f1 g1 f2 g2 pa kd on ot pt fb fl fh tb tl th dg ds)) 1 6 (va_A (wXp y ad h q n b1 l1 r1 b2 l2 r2 b3 l3 r3 uz ul uh f1 g1 f2 g2 pa kd on ot pt fb fl fh tb tl th dg ds) sz) := by
  refine vx_ofW (cc := cX7_needs) (maxL := 2) (ret := (some .int)) (by decide) rfl ?_
  intro pg e s m args below meth c s₁ B hml hno hv
  obtain ⟨rfl, hsz, hP, hK, hD0, hE0⟩ := hv
  have hx := B.exec
  have hb := B.bytes
  have hr := B.returns
  have hts := atoms_spec (ws := wsX7_needs) B.pre
  have hown : s.vm.findClass RX7 = some m.cls := findClass_of_methodNamed B.named
  have hlocks := B.notSynchronized
  subst hsz
  obtain ⟨A, hAe⟩ : ∃ A : Nat → Prop, A = va_A (wXp y ad h q n b1 l1 r1 b2 l2 r2 b3 l3 r3 uz ul uh f1 g1 f2 g2 pa kd on ot pt fb fl fh tb tl th dg ds) s.heap.size := ⟨_, rfl⟩
  have hE : gE ad A s s.heap := by rw [hAe]; exact hE0
  have hD : va_D A (wXp y ad h q n b1 l1 r1 b2 l2 r2 b3 l3 r3 uz ul uh f1 g1 f2 g2 pa kd on ot pt fb fl fh tb tl th dg ds) := by rw [hAe]; exact hD0.self (sz := s.heap.size)
  have hA : ∀ q : Nat, s.heap.size ≤ q → A q := fun q h => by rw [hAe]; exact Or.inr h
  have hS : va_S A s.heap s.heap [] := va_S.rf
  have hl := lv_entry ([.ref h, .int a]) (n := 2) (Nat.le_of_ble_eq_true rfl)
  rw [lg_entry_eq]
  generalize (lg_sl ([.ref h, .int a]) ++ List.replicate (2 - (lg_sl ([.ref h, .int a])).length) Slot.unset).toArray = ls at hl ⊢
  have hl : lv_has ls 2 [(0, .ref h), (1, .int a)] := hl
  refine lv_aload_n hx hb dX7_needs_0 rfl (lv_at hl 0 rfl) ?_
  refine lv_iload_n hx hb dX7_needs_1 rfl (lv_at hl 1 rfl) ?_
  exact g_outX (vx_runV (As := [.int a]) (rest := []) ⟨hx, hb, hml, hown, hts⟩ (c_X7_existing_X l hfl D y ad s.heap.size h q n b1 l1 r1 b2 l2 r2 b3 l3 r3 uz ul uh f1 g1 f2 g2 pa kd on ot pt fb fl fh tb tl th dg ds a hbad) (cwV 1 hts gX7_needs_X7_existing rfl rfl rfl (by decide +kernel) ⟨Nat.le_of_ble_eq_true rfl, Nat.le_of_ble_eq_true rfl⟩) (gPX_VA hP hD hK hE hS hA 0 rfl rfl) rfl rfl hl.1 rfl (lv_room (Nat.le_of_ble_eq_true rfl)) dX7_needs_2 ⟨Nat.le_of_ble_eq_true rfl, Nat.le_of_ble_eq_true rfl⟩) hAe hD hS hA (fun w1 h9 => h9) rfl hno hlocks (Nat.le_of_ble_eq_true rfl) (Nat.le_of_ble_eq_true rfl)
theorem in_X7_needs_X5 : ∀ w ∈ wsX50, w ∈ wsX7_needs := fun _ h => List.mem_cons_of_mem _ (List.mem_append_left _ (List.mem_append_left _ (List.mem_append_right _ h)))
set_option maxHeartbeats 4000000 in
set_option maxRecDepth 100000 in
theorem c_X7_needs_0 (l : Launch) (hfl : l.stackTraces = false) (D : va_G) (y : Nat → ClassId) (ad : Nat → Nat) (sz : Nat) (h : Nat) (q : Nat → Nat) (n : Nat) (b1 : Bool) (l1 r1 : Int64) (b2 : Bool) (l2 r2 : Int64) (b3 : Bool) (l3 r3 : Int64) (uz : Nat → Bool) (ul uh : Nat → Int64) (f1 g1 f2 g2 : Int64) (pa : Nat → Nat → Nat) (kd : Nat → Nat) (on ot : Nat → Int32) (pt : Nat → Int64) (fb : Nat → Nat → Bool) (fl fh : Nat → Nat → Int64) (tb : Nat → Nat → Bool) (tl th : Nat → Nat → Int64) (dg : Nat → Int32) (ds : Nat → Int64) (k : Nat) (hn : n ≤ 40) (hk : k < n) : Met l yX7_needs wsX7_needs ({ frames := 1, cells := 0, slots := 0, locals := 22 } : Room) (gPX D y ad [.ref h, .int (nI k)] (wXp y ad h q n b1 l1 r1 b2 l2 r2 b3 l3 r3 uz ul uh f1 g1 f2 g2 pa kd on ot pt fb fl fh tb tl th dg ds) sz) (gR (.int (sp_J13_bitCount_95d88 (pt k)))) 0 0 (fun _ => False) := by
  refine Met.ofW (cc := cX7_needs) (maxL := 2) (ret := (some .int)) (by decide) rfl ?_
  intro pg e s m args below meth c s₁ B hml hv
  obtain ⟨rfl, hsz, hP, hK, hD0, hE0⟩ := hv
  have hx := B.exec
  have hb := B.bytes
  have hr := B.returns
  have hts := atoms_spec (ws := wsX7_needs) B.pre
  have hown : s.vm.findClass RX7 = some m.cls := findClass_of_methodNamed B.named
  have hlocks := B.notSynchronized
  subst hsz
  obtain ⟨A, hAe⟩ : ∃ A : Nat → Prop, A = va_A (wXp y ad h q n b1 l1 r1 b2 l2 r2 b3 l3 r3 uz ul uh f1 g1 f2 g2 pa kd on ot pt fb fl fh tb tl th dg ds) s.heap.size := ⟨_, rfl⟩
  have hE : gE ad A s s.heap := by rw [hAe]; exact hE0
  have hD : va_D A (wXp y ad h q n b1 l1 r1 b2 l2 r2 b3 l3 r3 uz ul uh f1 g1 f2 g2 pa kd on ot pt fb fl fh tb tl th dg ds) := by rw [hAe]; exact hD0.self (sz := s.heap.size)
  have hA : ∀ q : Nat, s.heap.size ≤ q → A q := fun q h => by rw [hAe]; exact Or.inr h
  have hS : va_S A s.heap s.heap [] := va_S.rf
  have hl := lv_entry ([.ref h, .int (nI k)]) (n := 2) (Nat.le_of_ble_eq_true rfl)
  rw [lg_entry_eq]
  generalize (lg_sl ([.ref h, .int (nI k)]) ++ List.replicate (2 - (lg_sl ([.ref h, .int (nI k)])).length) Slot.unset).toArray = ls at hl ⊢
  have hl : lv_has ls 2 [(0, .ref h), (1, .int (nI k))] := hl
  refine lv_aload_n hx hb dX7_needs_0 rfl (lv_at hl 0 rfl) ?_
  refine lv_iload_n hx hb dX7_needs_1 rfl (lv_at hl 1 rfl) ?_
  refine g_callR (v0 := .ref (pa k 0)) (va_runV (As := [.int (nI k)]) (rest := []) ⟨hx, hb, hml, hown, hts⟩ (c_X7_existing_0 l hfl D y ad s.heap.size h q n b1 l1 r1 b2 l2 r2 b3 l3 r3 uz ul uh f1 g1 f2 g2 pa kd on ot pt fb fl fh tb tl th dg ds k hn hk) (cwV 1 hts gX7_needs_X7_existing rfl rfl rfl (by decide +kernel) ⟨Nat.le_of_ble_eq_true rfl, Nat.le_of_ble_eq_true rfl⟩) (gPX_VA hP hD hK hE hS hA 0 rfl rfl) rfl rfl hl.1 rfl (lv_room (Nat.le_of_ble_eq_true rfl)) dX7_needs_2 ⟨Nat.zero_le _, Nat.zero_le _⟩) ?_
  refine va_get (D := D) (ci := 3) (v := .long (pt k)) (C := RX5) (T := TX5) (N := 8) hx hb hts in_X7_needs_X5 hown hK.1 hP (9 * k + 0 + 11) (gPL_at (j := 0) (fun _ => rfl) (by decide) hk) rfl 3 (by decide) (hts (.fieldLink RX7 236 "Nestlimit$Program" "parts" "J") (List.mem_of_getElem? (i := 1) rfl)) (fun _ h9 => h9) rfl dX7_needs_5 ?_
  refine g_callR (v0 := .int (sp_J13_bitCount_95d88 (pt k))) (va_runS (As := [.long (pt k)]) (rest := []) ⟨hx, hb, hml, hown, hts⟩ (c_J13_bitCount_95d88 l D y s.heap.size (pt k)) (va_cwS 1 hts gX7_needs_J13_bitCount_95d88 rfl rfl rfl (by decide +kernel) ⟨Nat.le_of_ble_eq_true rfl, Nat.le_of_ble_eq_true rfl⟩) (gP_S hP hD hK [] (by decide) rfl) rfl rfl hl.1 rfl (lv_room (Nat.le_of_ble_eq_true rfl)) dX7_needs_8 ⟨Nat.zero_le _, Nat.zero_le _⟩) ?_
  exact W.iret (v := sp_J13_bitCount_95d88 (pt k)) hx hb hr (fun t ht hW => ⟨congrArg (fun z => Outcome.returned (some (Value.int z))) (rfl), ht⟩) (fun q h => by cases h) dX7_needs_11
theorem in_X7_count_X7 : ∀ w ∈ wsX70, w ∈ wsX7_count := fun _ h => List.mem_cons_of_mem _ (List.mem_append_right _ h)
set_option maxHeartbeats 4000000 in
set_option maxRecDepth 100000 in
theorem c_X7_count (l : Launch) (hfl : l.stackTraces = false) (D : va_G) (y : Nat → ClassId) (ad : Nat → Nat) (sz : Nat) (h : Nat) (q : Nat → Nat) (n : Nat) (b1 : Bool) (l1 r1 : Int64) (b2 : Bool) (l2 r2 : Int64) (b3 : Bool) (l3 r3 : Int64) (uz : Nat → Bool) (ul uh : Nat → Int64) (f1 g1 f2 g2 : Int64) (pa : Nat → Nat → Nat) (kd : Nat → Nat) (on ot : Nat → Int32) (pt : Nat → Int64) (fb : Nat → Nat → Bool) (fl fh : Nat → Nat → Int64) (tb : Nat → Nat → Bool) (tl th : Nat → Nat → Int64) (dg : Nat → Int32) (ds : Nat → Int64) : Met l yX7_count wsX7_count ({ frames := 0, cells := 0, slots := 0, locals := 0 } : Room) (gPX D y ad [.ref h] (wXp y ad h q n b1 l1 r1 b2 l2 r2 b3 l3 r3 uz ul uh f1 g1 f2 g2 pa kd on ot pt fb fl fh tb tl th dg ds) sz) (gR (.int (nI n))) 0 0 (fun _ => False) := by
  refine Met.ofW (cc := cX7_count) (maxL := 1) (ret := (some .int)) (by decide) rfl ?_
  intro pg e s m args below meth c s₁ B hml hv
  obtain ⟨rfl, hsz, hP, hK, hD0, hE0⟩ := hv
  have hx := B.exec
  have hb := B.bytes
  have hr := B.returns
  have hts := atoms_spec (ws := wsX7_count) B.pre
  have hown : s.vm.findClass RX7 = some m.cls := findClass_of_methodNamed B.named
  have hlocks := B.notSynchronized
  subst hsz
  obtain ⟨A, hAe⟩ : ∃ A : Nat → Prop, A = va_A (wXp y ad h q n b1 l1 r1 b2 l2 r2 b3 l3 r3 uz ul uh f1 g1 f2 g2 pa kd on ot pt fb fl fh tb tl th dg ds) s.heap.size := ⟨_, rfl⟩
  have hE : gE ad A s s.heap := by rw [hAe]; exact hE0
  have hD : va_D A (wXp y ad h q n b1 l1 r1 b2 l2 r2 b3 l3 r3 uz ul uh f1 g1 f2 g2 pa kd on ot pt fb fl fh tb tl th dg ds) := by rw [hAe]; exact hD0.self (sz := s.heap.size)
  have hA : ∀ q : Nat, s.heap.size ≤ q → A q := fun q h => by rw [hAe]; exact Or.inr h
  have hS : va_S A s.heap s.heap [] := va_S.rf
  have hl := lv_entry ([.ref h]) (n := 1) (Nat.le_of_ble_eq_true rfl)
  rw [lg_entry_eq]
  generalize (lg_sl ([.ref h]) ++ List.replicate (1 - (lg_sl ([.ref h])).length) Slot.unset).toArray = ls at hl ⊢
  have hl : lv_has ls 1 [(0, .ref h)] := hl
  refine lv_aload_n hx hb dX7_count_0 rfl (lv_at hl 0 rfl) ?_
  refine va_get (D := D) (ci := 5) (v := .int (nI n)) (C := RX7) (T := TX7) (N := 8) hx hb hts in_X7_count_X7 hown hK.1 hP 0 rfl rfl 1 (by decide) (hts (.fieldLink RX7 15 "Nestlimit" "made" "I") (List.mem_of_getElem? (i := 1) rfl)) (fun _ h9 => h9) rfl dX7_count_1 ?_
  exact W.iret (v := nI n) hx hb hr (fun t ht hW => ⟨congrArg (fun z => Outcome.returned (some (Value.int z))) (rfl), ht⟩) (fun q h => by cases h) dX7_count_4
