theorem lt_irr9 (x : Int64) : ¬ x < x := by rw [q_lt]; omega
theorem gSl0 (x z : Int64) : gSl (decide ((0 : Int32) = 1)) x z = z := rfl
theorem gSl1 (x z : Int64) : gSl (decide ((1 : Int32) = 1)) x z = x := rfl
theorem t64 (x : Int32) : x.toInt64.toInt32 = x := by
  apply Int32.toInt_inj.mp
  rw [Int64.toInt_toInt32, Int32.toInt_toInt64]
  have h1 := Int32.le_toInt x
  have h2 := Int32.toInt_lt x
  apply Int.bmod_eq_of_le <;> omega
theorem SI.ins1 {S : St} (h : SI S) {k j p : Nat} (hk : k < sN S) (hj : j < sN S) (hp : p < 25) (bb : Bool) : dIns S (nI k) (nI k) (nI j) (nI p) bb = dRaw S (nI j) (nI p) bb := by
  have hn := h.1
  obtain ⟨a1, a2, a3⟩ := h.ins_self (jo := j) (p := p) hk
  unfold dIns dRaw
  rw [ix_nI (show k < 2 ^ 31 by omega), ix_nI (show j < 2 ^ 31 by omega), ix_nI (show p < 2 ^ 31 by omega), if_pos (ok_nI hk (by omega)), if_pos (ok_nI hk (by omega)), if_pos (ok_nI hj (by omega)), if_pos (ok_nI hp (by decide)), a1, a2, a3, if_pos (ok_nI hj (by omega)), if_pos (ok_nI hp (by decide))]
theorem SI.ins2 {S : St} (h : SI S) {k j p : Nat} (hk : k < sN S) (hj : j < sN S) (hp : p < 25) (bb : Bool) : dIns S (nI k) (nI j) (nI j) (nI p) bb = dRaw S (nI k) (nI p) bb := by
  have hn := h.1
  obtain ⟨a1, a2, a3⟩ := h.ins_same hj hp k hk
  unfold dIns dRaw
  rw [ix_nI (show k < 2 ^ 31 by omega), ix_nI (show j < 2 ^ 31 by omega), ix_nI (show p < 2 ^ 31 by omega), if_pos (ok_nI hk (by omega)), if_pos (ok_nI hj (by omega)), if_pos (ok_nI hj (by omega)), if_pos (ok_nI hp (by decide)), a1, a2, a3, if_pos (ok_nI hk (by omega)), if_pos (ok_nI hp (by decide))]
theorem e_emi0 (l : Launch) (hfl : l.stackTraces = false) (D : va_G) (y : Nat → ClassId) (ad : Nat → Nat) {S : St} (hn : sN S ≤ 40) {h : Nat} {w : va_W} (hw : OW y ad h S w) {k : Nat} (hk : k < sN S) (sz : Nat) : Met l yX7_emitted wsX7_emitted ({ frames := 1, cells := 0, slots := 0, locals := 22 } : Room) (gPX D y ad [.ref h, .int (nI k)] w sz) (gR (.int (sDg S k))) 0 0 (fun _ => False) := by
  obtain ⟨q, pa, b1, l1, r1, b2, l2, r2, b3, l3, r3, uz, ul, uh, f1, g1, f2, g2, rfl⟩ := hw
  exact c_X7_emitted_0 l hfl D y ad sz h q _ b1 l1 r1 b2 l2 r2 b3 l3 r3 uz ul uh f1 g1 f2 g2 pa _ _ _ _ _ _ _ _ _ _ _ _ k hn hk
theorem e_par0 (l : Launch) (hfl : l.stackTraces = false) (D : va_G) (y : Nat → ClassId) (ad : Nat → Nat) {S : St} (hn : sN S ≤ 40) {h : Nat} {w : va_W} (hw : OW y ad h S w) {k : Nat} (hk : k < sN S) (sz : Nat) : Met l yX7_partial wsX7_partial ({ frames := 1, cells := 0, slots := 0, locals := 22 } : Room) (gPX D y ad [.ref h, .int (nI k)] w sz) (gR (.long (sDs S k))) 0 0 (fun _ => False) := by
  obtain ⟨q, pa, b1, l1, r1, b2, l2, r2, b3, l3, r3, uz, ul, uh, f1, g1, f2, g2, rfl⟩ := hw
  exact c_X7_partial_0 l hfl D y ad sz h q _ b1 l1 r1 b2 l2 r2 b3 l3 r3 uz ul uh f1 g1 f2 g2 pa _ _ _ _ _ _ _ _ _ _ _ _ k hn hk
theorem e_need0 (l : Launch) (hfl : l.stackTraces = false) (D : va_G) (y : Nat → ClassId) (ad : Nat → Nat) {S : St} (hn : sN S ≤ 40) {h : Nat} {w : va_W} (hw : OW y ad h S w) {k : Nat} (hk : k < sN S) (sz : Nat) : Met l yX7_needs wsX7_needs ({ frames := 1, cells := 0, slots := 0, locals := 22 } : Room) (gPX D y ad [.ref h, .int (nI k)] w sz) (gR (.int (sp_J13_bitCount_95d88 (sPt S k)))) 0 0 (fun _ => False) := by
  obtain ⟨q, pa, b1, l1, r1, b2, l2, r2, b3, l3, r3, uz, ul, uh, f1, g1, f2, g2, rfl⟩ := hw
  exact c_X7_needs_0 l hfl D y ad sz h q _ b1 l1 r1 b2 l2 r2 b3 l3 r3 uz ul uh f1 g1 f2 g2 pa _ _ _ _ _ _ _ _ _ _ _ _ k hn hk

set_option maxHeartbeats 4000000 in
set_option maxRecDepth 100000 in
theorem c_L_areNested (l : Launch) (hfl : l.stackTraces = false) (D : va_G) (y : Nat → ClassId) (ad : Nat → Nat) {S : St} (hS9 : SI S) {h : Nat} {w : va_W} (hw : OW y ad h S w) {k p : Nat} (hk : k < sN S) (hp : p < 25) (sz : Nat) : Met l yL_areNested wsL_areNested ({ frames := 12, cells := 6, slots := 36, locals := 440 } : Room) (gPN D y ad [.ref h, .int (nI k), .int (nI p)] w sz) (gQn D w (fun v w1 => v = some (.int 1) ∧ OW y ad h S w1)) 6 36 (va_A w sz) := by
  have hn := hS9.1
  rcases p with _ | p
  · by_cases hf0 : sFb S k 0 = true
    · obtain ⟨n1, n2, n3, n4⟩ := hS9.nest hk hp hf0
      refine Met.ofW (cc := cL_areNested) (maxL := 18) (ret := (some .boolean)) (by decide) rfl ?_
      intro pg e s m args below meth c s₁ B hml hv
      obtain ⟨rfl, ⟨hsz, hP, hK, hD0, hE0⟩, hN⟩ := hv
      have hx := B.exec
      have hb := B.bytes
      have hr := B.returns
      have hts := atoms_spec (ws := wsL_areNested) B.pre
      have hown : s.vm.findClass RL = some m.cls := findClass_of_methodNamed B.named
      have hlocks := B.notSynchronized
      subst hsz
      obtain ⟨A, hAe⟩ : ∃ A : Nat → Prop, A = va_A w s.heap.size := ⟨_, rfl⟩
      have hE : gE ad A s s.heap := by rw [hAe]; exact hE0
      have hD : va_D A w := by rw [hAe]; exact hD0.self (sz := s.heap.size)
      have hA : ∀ q : Nat, s.heap.size ≤ q → A q := fun q h => by rw [hAe]; exact Or.inr h
      have hS : va_S A s.heap s.heap [] := va_S.rf
      have hl := lv_entry ([.ref h, .int (nI k), .int (nI 0)]) (n := 18) (Nat.le_of_ble_eq_true rfl)
      rw [lg_entry_eq]
      generalize (lg_sl ([.ref h, .int (nI k), .int (nI 0)]) ++ List.replicate (18 - (lg_sl ([.ref h, .int (nI k), .int (nI 0)])).length) Slot.unset).toArray = ls at hl ⊢
      have hl : lv_has ls 18 [(0, .ref h), (1, .int (nI k)), (2, .int (nI 0))] := hl
      refine lv_ldc2 (v := -2100000000) hx hb hown (hts (.constantLong RL 62 (-2100000000)) (List.mem_of_getElem? (i := 1) rfl)) dL_areNested_0 ?_
      refine lv_lstore_n (lv' := [(3, .long (-2100000000)), (0, .ref h), (1, .int (nI k)), (2, .int (nI 0))]) hx hb dL_areNested_3 rfl hl (by decide) rfl (fun ls hl => ?_)
      refine lv_aload_n hx hb dL_areNested_4 rfl (lv_at hl 1 rfl) ?_
      refine lv_bipush (v := 9) hx hb dL_areNested_5 (by decide) ?_
      refine lv_iload_n hx hb dL_areNested_7 rfl (lv_at hl 2 rfl) ?_
      refine lv_iload_n hx hb dL_areNested_8 rfl (lv_at hl 3 rfl) ?_
      refine lv_iconst (v := 0) hx hb dL_areNested_9 (by decide) ?_
      refine g_callN (ws := []) (wc := w) (vx_runSW (As := [.ref h, .int 9, .int (nI k), .int (nI 0), .int 0]) (rest := []) ⟨hx, hb, hml, hown, hts⟩ (e_told l hfl D y ad hS9 hw (nI k) (nI 0) 0 s.heap.size) (vx_cwSW 5 hts gL_areNested_L_does rfl rfl rfl (by decide +kernel) ⟨Nat.le_of_ble_eq_true rfl, Nat.le_of_ble_eq_true rfl⟩) (gPN_SA hP hD hK hE hN hS hA) rfl rfl hl.1 rfl (lv_room (Nat.le_of_ble_eq_true rfl)) dL_areNested_10 ⟨Nat.le_of_ble_eq_true rfl, Nat.le_of_ble_eq_true rfl⟩) hP hD hS hA (fun v9 w1 H locs hf hP hD hS => ?_)
      obtain ⟨rfl, hw⟩ := hf
      refine g_topl (y := sFl S k 0) ((hS9.toldr hk hp _).trans ((dRaw_y hn hk hp hf0 _).trans (gSl0 _ _))) ?_
      refine lv_lstore (lv' := [(5, .long (sFl S k 0)), (3, .long (-2100000000)), (0, .ref h), (1, .int (nI k)), (2, .int (nI 0))]) hx hb dL_areNested_13 hl (by decide) rfl (fun ls hl => ?_)
      refine lv_aload_n hx hb dL_areNested_15 rfl (lv_at hl 2 rfl) ?_
      refine lv_bipush (v := 9) hx hb dL_areNested_16 (by decide) ?_
      refine lv_iload_n hx hb dL_areNested_18 rfl (lv_at hl 3 rfl) ?_
      refine lv_iload_n hx hb dL_areNested_19 rfl (lv_at hl 4 rfl) ?_
      refine lv_iconst (v := 1) hx hb dL_areNested_20 (by decide) ?_
      refine g_callN (ws := []) (wc := w1) (vx_runSW (As := [.ref h, .int 9, .int (nI k), .int (nI 0), .int 1]) (rest := []) ⟨hx, hb, hml, hown, hts⟩ (e_told l hfl D y ad hS9 hw (nI k) (nI 0) 1 H.size) (vx_cwSW 5 hts gL_areNested_L_does rfl rfl rfl (by decide +kernel) ⟨Nat.le_of_ble_eq_true rfl, Nat.le_of_ble_eq_true rfl⟩) (gPN_SA hP hD hK hE hN hS hA) rfl rfl hl.1 rfl (lv_room (Nat.le_of_ble_eq_true rfl)) dL_areNested_21 ⟨Nat.le_of_ble_eq_true rfl, Nat.le_of_ble_eq_true rfl⟩) hP hD hS hA (fun v9 w2 H locs hf hP hD hS => ?_)
      obtain ⟨rfl, hw⟩ := hf
      refine g_topl (y := sFh S k 0) ((hS9.toldr hk hp _).trans ((dRaw_y hn hk hp hf0 _).trans (gSl1 _ _))) ?_
      refine lv_lstore (lv' := [(7, .long (sFh S k 0)), (5, .long (sFl S k 0)), (3, .long (-2100000000)), (0, .ref h), (1, .int (nI k)), (2, .int (nI 0))]) hx hb dL_areNested_24 hl (by decide) rfl (fun ls hl => ?_)
      refine lv_aload_n hx hb dL_areNested_26 rfl (lv_at hl 3 rfl) ?_
      refine lv_bipush (v := 8) hx hb dL_areNested_27 (by decide) ?_
      refine lv_iload_n hx hb dL_areNested_29 rfl (lv_at hl 4 rfl) ?_
      refine lv_iload_n hx hb dL_areNested_30 rfl (lv_at hl 5 rfl) ?_
      refine lv_iconst (v := 0) hx hb dL_areNested_31 (by decide) ?_
      refine g_callN (ws := []) (wc := w2) (vx_runSW (As := [.ref h, .int 8, .int (nI k), .int (nI 0), .int 0]) (rest := []) ⟨hx, hb, hml, hown, hts⟩ (e_raw l hfl D y ad hS9 hw (nI k) (nI 0) 0 H.size) (vx_cwSW 5 hts gL_areNested_L_does rfl rfl rfl (by decide +kernel) ⟨Nat.le_of_ble_eq_true rfl, Nat.le_of_ble_eq_true rfl⟩) (gPN_SA hP hD hK hE hN hS hA) rfl rfl hl.1 rfl (lv_room (Nat.le_of_ble_eq_true rfl)) dL_areNested_32 ⟨Nat.le_of_ble_eq_true rfl, Nat.le_of_ble_eq_true rfl⟩) hP hD hS hA (fun v9 w3 H locs hf hP hD hS => ?_)
      obtain ⟨rfl, hw⟩ := hf
      refine g_topl (y := sFl S k 0) ((dRaw_y hn hk hp hf0 _).trans (gSl0 _ _)) ?_
      refine lv_lstore (lv' := [(9, .long (sFl S k 0)), (7, .long (sFh S k 0)), (5, .long (sFl S k 0)), (3, .long (-2100000000)), (0, .ref h), (1, .int (nI k)), (2, .int (nI 0))]) hx hb dL_areNested_35 hl (by decide) rfl (fun ls hl => ?_)
      refine lv_aload_n hx hb dL_areNested_37 rfl (lv_at hl 4 rfl) ?_
      refine lv_bipush (v := 8) hx hb dL_areNested_38 (by decide) ?_
      refine lv_iload_n hx hb dL_areNested_40 rfl (lv_at hl 5 rfl) ?_
      refine lv_iload_n hx hb dL_areNested_41 rfl (lv_at hl 6 rfl) ?_
      refine lv_iconst (v := 1) hx hb dL_areNested_42 (by decide) ?_
      refine g_callN (ws := []) (wc := w3) (vx_runSW (As := [.ref h, .int 8, .int (nI k), .int (nI 0), .int 1]) (rest := []) ⟨hx, hb, hml, hown, hts⟩ (e_raw l hfl D y ad hS9 hw (nI k) (nI 0) 1 H.size) (vx_cwSW 5 hts gL_areNested_L_does rfl rfl rfl (by decide +kernel) ⟨Nat.le_of_ble_eq_true rfl, Nat.le_of_ble_eq_true rfl⟩) (gPN_SA hP hD hK hE hN hS hA) rfl rfl hl.1 rfl (lv_room (Nat.le_of_ble_eq_true rfl)) dL_areNested_43 ⟨Nat.le_of_ble_eq_true rfl, Nat.le_of_ble_eq_true rfl⟩) hP hD hS hA (fun v9 w4 H locs hf hP hD hS => ?_)
      obtain ⟨rfl, hw⟩ := hf
      refine g_topl (y := sFh S k 0) ((dRaw_y hn hk hp hf0 _).trans (gSl1 _ _)) ?_
      refine lv_lstore (lv' := [(11, .long (sFh S k 0)), (9, .long (sFl S k 0)), (7, .long (sFh S k 0)), (5, .long (sFl S k 0)), (3, .long (-2100000000)), (0, .ref h), (1, .int (nI k)), (2, .int (nI 0))]) hx hb dL_areNested_46 hl (by decide) rfl (fun ls hl => ?_)
      refine lv_iload_n hx hb dL_areNested_48 rfl (lv_at hl 7 rfl) ?_
      refine lv_if_ne (tgt := 56) hx hb dL_areNested_49 (by decide) (fun c_49 => absurd nI_0 c_49) (fun c_49 => ?_)
      refine lv_lload_n hx hb dL_areNested_52 rfl (lv_at hl 4 rfl) ?_
      refine lv_goto (tgt := 67) hx hb dL_areNested_53 (by decide) ?_
      refine lv_lstore (lv' := [(13, .long (-2100000000)), (11, .long (sFh S k 0)), (9, .long (sFl S k 0)), (7, .long (sFh S k 0)), (5, .long (sFl S k 0)), (3, .long (-2100000000)), (0, .ref h), (1, .int (nI k)), (2, .int (nI 0))]) hx hb dL_areNested_67 hl (by decide) rfl (fun ls hl => ?_)
      refine lv_iload_n hx hb dL_areNested_69 rfl (lv_at hl 8 rfl) ?_
      refine lv_if_ne (tgt := 77) hx hb dL_areNested_70 (by decide) (fun c_70 => absurd nI_0 c_70) (fun c_70 => ?_)
      refine lv_lload_n hx hb dL_areNested_73 rfl (lv_at hl 5 rfl) ?_
      refine lv_goto (tgt := 88) hx hb dL_areNested_74 (by decide) ?_
      refine lv_lstore (lv' := [(15, .long (-2100000000)), (13, .long (-2100000000)), (11, .long (sFh S k 0)), (9, .long (sFl S k 0)), (7, .long (sFh S k 0)), (5, .long (sFl S k 0)), (3, .long (-2100000000)), (0, .ref h), (1, .int (nI k)), (2, .int (nI 0))]) hx hb dL_areNested_88 hl (by decide) rfl (fun ls hl => ?_)
      refine lv_lload hx hb dL_areNested_90 (lv_at hl 5 rfl) ?_
      refine lv_lload_n hx hb dL_areNested_92 rfl (lv_at hl 6 rfl) ?_
      refine g_ne (tgt := 101) hx hb dL_areNested_93 dL_areNested_94 (by decide) (fun c_93 => ?_) (fun c_93 => absurd c_93 n1)
      refine lv_iconst (v := 0) hx hb dL_areNested_101 (by decide) ?_
      refine lv_lload hx hb dL_areNested_102 (lv_at hl 4 rfl) ?_
      refine lv_lload_n hx hb dL_areNested_104 rfl (lv_at hl 6 rfl) ?_
      refine g_ne (tgt := 113) hx hb dL_areNested_105 dL_areNested_106 (by decide) (fun c_105 => ?_) (fun c_105 => absurd c_105 n2)
      refine lv_iconst (v := 0) hx hb dL_areNested_113 (by decide) ?_
      refine lv_icmp_ne (tgt := 182) hx hb dL_areNested_114 (by decide) (fun c_114 => absurd c_114 (by decide)) (fun c_114 => ?_)
      refine lv_lload hx hb dL_areNested_117 (lv_at hl 3 rfl) ?_
      refine lv_lload_n hx hb dL_areNested_119 rfl (lv_at hl 6 rfl) ?_
      refine g_eq (tgt := 147) hx hb dL_areNested_120 dL_areNested_121 (by decide) (fun c_120 => absurd c_120 n1) (fun c_120 => ?_)
      refine lv_lload hx hb dL_areNested_124 (lv_at hl 5 rfl) ?_
      refine lv_lload_n hx hb dL_areNested_126 rfl (lv_at hl 6 rfl) ?_
      refine g_eq (tgt := 182) hx hb dL_areNested_127 dL_areNested_128 (by decide) (fun c_127 => absurd c_127 n1) (fun c_127 => ?_)
      refine lv_lload hx hb dL_areNested_131 (lv_at hl 3 rfl) ?_
      refine lv_lload hx hb dL_areNested_133 (lv_at hl 5 rfl) ?_
      refine g_gt (tgt := 182) hx hb dL_areNested_135 dL_areNested_136 (by decide) (fun c_135 => absurd c_135 (lt_irr9 _)) (fun c_135 => ?_)
      refine lv_lload hx hb dL_areNested_139 (lv_at hl 2 rfl) ?_
      refine lv_lload hx hb dL_areNested_141 (lv_at hl 4 rfl) ?_
      refine g_lt (tgt := 182) hx hb dL_areNested_143 dL_areNested_144 (by decide) (fun c_143 => absurd c_143 (lt_irr9 _)) (fun c_143 => ?_)
      refine lv_lload hx hb dL_areNested_147 (lv_at hl 1 rfl) ?_
      refine lv_lload_n hx hb dL_areNested_149 rfl (lv_at hl 6 rfl) ?_
      refine g_eq (tgt := 178) hx hb dL_areNested_150 dL_areNested_151 (by decide) (fun c_150 => ?_) (fun c_150 => absurd c_150 (by decide))
      refine lv_iconst (v := 1) hx hb dL_areNested_178 (by decide) ?_
      refine lv_goto (tgt := 183) hx hb dL_areNested_179 (by decide) ?_
      refine lv_istore (lv' := [(17, .int 1), (15, .long (-2100000000)), (13, .long (-2100000000)), (11, .long (sFh S k 0)), (9, .long (sFl S k 0)), (7, .long (sFh S k 0)), (5, .long (sFl S k 0)), (3, .long (-2100000000)), (0, .ref h), (1, .int (nI k)), (2, .int (nI 0))]) hx hb dL_areNested_183 hl (by decide) rfl (fun ls hl => ?_)
      refine lv_iload hx hb dL_areNested_185 (lv_at hl 0 rfl) ?_
      refine lv_if_eq (tgt := 240) hx hb dL_areNested_187 (by decide) (fun c_187 => absurd c_187 (by decide)) (fun c_187 => ?_)
      refine lv_lload hx hb dL_areNested_190 (lv_at hl 6 rfl) ?_
      refine lv_lload_n hx hb dL_areNested_192 rfl (lv_at hl 7 rfl) ?_
      refine g_eq (tgt := 215) hx hb dL_areNested_193 dL_areNested_194 (by decide) (fun c_193 => absurd c_193 n1) (fun c_193 => ?_)
      refine lv_lload hx hb dL_areNested_197 (lv_at hl 6 rfl) ?_
      refine lv_lload hx hb dL_areNested_199 (lv_at hl 5 rfl) ?_
      refine g_gt (tgt := 240) hx hb dL_areNested_201 dL_areNested_202 (by decide) (fun c_201 => absurd c_201 n3) (fun c_201 => ?_)
      refine lv_lload hx hb dL_areNested_205 (lv_at hl 5 rfl) ?_
      refine lv_lload hx hb dL_areNested_207 (lv_at hl 6 rfl) ?_
      refine lv_lsub hx hb dL_areNested_209 ?_
      refine lv_lconst (v := 0) hx hb dL_areNested_210 (by decide) ?_
      refine g_lt (tgt := 240) hx hb dL_areNested_211 dL_areNested_212 (by decide) (fun c_211 => absurd c_211 n4) (fun c_211 => ?_)
      refine lv_lload hx hb dL_areNested_215 (lv_at hl 6 rfl) ?_
      refine lv_lload_n hx hb dL_areNested_217 rfl (lv_at hl 7 rfl) ?_
      refine g_ne (tgt := 236) hx hb dL_areNested_218 dL_areNested_219 (by decide) (fun c_218 => ?_) (fun c_218 => absurd c_218 n1)
      refine lv_iconst (v := 1) hx hb dL_areNested_236 (by decide) ?_
      refine lv_goto (tgt := 241) hx hb dL_areNested_237 (by decide) ?_
      refine W.widen (k := 6) (n := 36) (Nat.le_of_ble_eq_true rfl) (Nat.le_of_ble_eq_true rfl) ?_
      exact W.zret (v := 1) hx hb hr (by decide) (fun t ht hW => ⟨⟨_, w4, rfl, ⟨rfl, hw⟩, by rw [← hAe]; exact hD, by rw [ht]; exact hP⟩, by rw [← hAe]; exact hS.F ht⟩) (by rw [← hAe]; exact hS.2.2) dL_areNested_241
    · skip
      refine Met.ofW (cc := cL_areNested) (maxL := 18) (ret := (some .boolean)) (by decide) rfl ?_
      intro pg e s m args below meth c s₁ B hml hv
      obtain ⟨rfl, ⟨hsz, hP, hK, hD0, hE0⟩, hN⟩ := hv
      have hx := B.exec
      have hb := B.bytes
      have hr := B.returns
      have hts := atoms_spec (ws := wsL_areNested) B.pre
      have hown : s.vm.findClass RL = some m.cls := findClass_of_methodNamed B.named
      have hlocks := B.notSynchronized
      subst hsz
      obtain ⟨A, hAe⟩ : ∃ A : Nat → Prop, A = va_A w s.heap.size := ⟨_, rfl⟩
      have hE : gE ad A s s.heap := by rw [hAe]; exact hE0
      have hD : va_D A w := by rw [hAe]; exact hD0.self (sz := s.heap.size)
      have hA : ∀ q : Nat, s.heap.size ≤ q → A q := fun q h => by rw [hAe]; exact Or.inr h
      have hS : va_S A s.heap s.heap [] := va_S.rf
      have hl := lv_entry ([.ref h, .int (nI k), .int (nI 0)]) (n := 18) (Nat.le_of_ble_eq_true rfl)
      rw [lg_entry_eq]
      generalize (lg_sl ([.ref h, .int (nI k), .int (nI 0)]) ++ List.replicate (18 - (lg_sl ([.ref h, .int (nI k), .int (nI 0)])).length) Slot.unset).toArray = ls at hl ⊢
      have hl : lv_has ls 18 [(0, .ref h), (1, .int (nI k)), (2, .int (nI 0))] := hl
      refine lv_ldc2 (v := -2100000000) hx hb hown (hts (.constantLong RL 62 (-2100000000)) (List.mem_of_getElem? (i := 1) rfl)) dL_areNested_0 ?_
      refine lv_lstore_n (lv' := [(3, .long (-2100000000)), (0, .ref h), (1, .int (nI k)), (2, .int (nI 0))]) hx hb dL_areNested_3 rfl hl (by decide) rfl (fun ls hl => ?_)
      refine lv_aload_n hx hb dL_areNested_4 rfl (lv_at hl 1 rfl) ?_
      refine lv_bipush (v := 9) hx hb dL_areNested_5 (by decide) ?_
      refine lv_iload_n hx hb dL_areNested_7 rfl (lv_at hl 2 rfl) ?_
      refine lv_iload_n hx hb dL_areNested_8 rfl (lv_at hl 3 rfl) ?_
      refine lv_iconst (v := 0) hx hb dL_areNested_9 (by decide) ?_
      refine g_callN (ws := []) (wc := w) (vx_runSW (As := [.ref h, .int 9, .int (nI k), .int (nI 0), .int 0]) (rest := []) ⟨hx, hb, hml, hown, hts⟩ (e_told l hfl D y ad hS9 hw (nI k) (nI 0) 0 s.heap.size) (vx_cwSW 5 hts gL_areNested_L_does rfl rfl rfl (by decide +kernel) ⟨Nat.le_of_ble_eq_true rfl, Nat.le_of_ble_eq_true rfl⟩) (gPN_SA hP hD hK hE hN hS hA) rfl rfl hl.1 rfl (lv_room (Nat.le_of_ble_eq_true rfl)) dL_areNested_10 ⟨Nat.le_of_ble_eq_true rfl, Nat.le_of_ble_eq_true rfl⟩) hP hD hS hA (fun v9 w1 H locs hf hP hD hS => ?_)
      obtain ⟨rfl, hw⟩ := hf
      refine g_topl (y := -2100000000) ((hS9.toldr hk hp _).trans (dRaw_n hn hk hp hf0 _)) ?_
      refine lv_lstore (lv' := [(5, .long (-2100000000)), (3, .long (-2100000000)), (0, .ref h), (1, .int (nI k)), (2, .int (nI 0))]) hx hb dL_areNested_13 hl (by decide) rfl (fun ls hl => ?_)
      refine lv_aload_n hx hb dL_areNested_15 rfl (lv_at hl 2 rfl) ?_
      refine lv_bipush (v := 9) hx hb dL_areNested_16 (by decide) ?_
      refine lv_iload_n hx hb dL_areNested_18 rfl (lv_at hl 3 rfl) ?_
      refine lv_iload_n hx hb dL_areNested_19 rfl (lv_at hl 4 rfl) ?_
      refine lv_iconst (v := 1) hx hb dL_areNested_20 (by decide) ?_
      refine g_callN (ws := []) (wc := w1) (vx_runSW (As := [.ref h, .int 9, .int (nI k), .int (nI 0), .int 1]) (rest := []) ⟨hx, hb, hml, hown, hts⟩ (e_told l hfl D y ad hS9 hw (nI k) (nI 0) 1 H.size) (vx_cwSW 5 hts gL_areNested_L_does rfl rfl rfl (by decide +kernel) ⟨Nat.le_of_ble_eq_true rfl, Nat.le_of_ble_eq_true rfl⟩) (gPN_SA hP hD hK hE hN hS hA) rfl rfl hl.1 rfl (lv_room (Nat.le_of_ble_eq_true rfl)) dL_areNested_21 ⟨Nat.le_of_ble_eq_true rfl, Nat.le_of_ble_eq_true rfl⟩) hP hD hS hA (fun v9 w2 H locs hf hP hD hS => ?_)
      obtain ⟨rfl, hw⟩ := hf
      refine g_topl (y := -2100000000) ((hS9.toldr hk hp _).trans (dRaw_n hn hk hp hf0 _)) ?_
      refine lv_lstore (lv' := [(7, .long (-2100000000)), (5, .long (-2100000000)), (3, .long (-2100000000)), (0, .ref h), (1, .int (nI k)), (2, .int (nI 0))]) hx hb dL_areNested_24 hl (by decide) rfl (fun ls hl => ?_)
      refine lv_aload_n hx hb dL_areNested_26 rfl (lv_at hl 3 rfl) ?_
      refine lv_bipush (v := 8) hx hb dL_areNested_27 (by decide) ?_
      refine lv_iload_n hx hb dL_areNested_29 rfl (lv_at hl 4 rfl) ?_
      refine lv_iload_n hx hb dL_areNested_30 rfl (lv_at hl 5 rfl) ?_
      refine lv_iconst (v := 0) hx hb dL_areNested_31 (by decide) ?_
      refine g_callN (ws := []) (wc := w2) (vx_runSW (As := [.ref h, .int 8, .int (nI k), .int (nI 0), .int 0]) (rest := []) ⟨hx, hb, hml, hown, hts⟩ (e_raw l hfl D y ad hS9 hw (nI k) (nI 0) 0 H.size) (vx_cwSW 5 hts gL_areNested_L_does rfl rfl rfl (by decide +kernel) ⟨Nat.le_of_ble_eq_true rfl, Nat.le_of_ble_eq_true rfl⟩) (gPN_SA hP hD hK hE hN hS hA) rfl rfl hl.1 rfl (lv_room (Nat.le_of_ble_eq_true rfl)) dL_areNested_32 ⟨Nat.le_of_ble_eq_true rfl, Nat.le_of_ble_eq_true rfl⟩) hP hD hS hA (fun v9 w3 H locs hf hP hD hS => ?_)
      obtain ⟨rfl, hw⟩ := hf
      refine g_topl (y := -2100000000) (dRaw_n hn hk hp hf0 _) ?_
      refine lv_lstore (lv' := [(9, .long (-2100000000)), (7, .long (-2100000000)), (5, .long (-2100000000)), (3, .long (-2100000000)), (0, .ref h), (1, .int (nI k)), (2, .int (nI 0))]) hx hb dL_areNested_35 hl (by decide) rfl (fun ls hl => ?_)
      refine lv_aload_n hx hb dL_areNested_37 rfl (lv_at hl 4 rfl) ?_
      refine lv_bipush (v := 8) hx hb dL_areNested_38 (by decide) ?_
      refine lv_iload_n hx hb dL_areNested_40 rfl (lv_at hl 5 rfl) ?_
      refine lv_iload_n hx hb dL_areNested_41 rfl (lv_at hl 6 rfl) ?_
      refine lv_iconst (v := 1) hx hb dL_areNested_42 (by decide) ?_
      refine g_callN (ws := []) (wc := w3) (vx_runSW (As := [.ref h, .int 8, .int (nI k), .int (nI 0), .int 1]) (rest := []) ⟨hx, hb, hml, hown, hts⟩ (e_raw l hfl D y ad hS9 hw (nI k) (nI 0) 1 H.size) (vx_cwSW 5 hts gL_areNested_L_does rfl rfl rfl (by decide +kernel) ⟨Nat.le_of_ble_eq_true rfl, Nat.le_of_ble_eq_true rfl⟩) (gPN_SA hP hD hK hE hN hS hA) rfl rfl hl.1 rfl (lv_room (Nat.le_of_ble_eq_true rfl)) dL_areNested_43 ⟨Nat.le_of_ble_eq_true rfl, Nat.le_of_ble_eq_true rfl⟩) hP hD hS hA (fun v9 w4 H locs hf hP hD hS => ?_)
      obtain ⟨rfl, hw⟩ := hf
      refine g_topl (y := -2100000000) (dRaw_n hn hk hp hf0 _) ?_
      refine lv_lstore (lv' := [(11, .long (-2100000000)), (9, .long (-2100000000)), (7, .long (-2100000000)), (5, .long (-2100000000)), (3, .long (-2100000000)), (0, .ref h), (1, .int (nI k)), (2, .int (nI 0))]) hx hb dL_areNested_46 hl (by decide) rfl (fun ls hl => ?_)
      refine lv_iload_n hx hb dL_areNested_48 rfl (lv_at hl 7 rfl) ?_
      refine lv_if_ne (tgt := 56) hx hb dL_areNested_49 (by decide) (fun c_49 => absurd nI_0 c_49) (fun c_49 => ?_)
      refine lv_lload_n hx hb dL_areNested_52 rfl (lv_at hl 4 rfl) ?_
      refine lv_goto (tgt := 67) hx hb dL_areNested_53 (by decide) ?_
      refine lv_lstore (lv' := [(13, .long (-2100000000)), (11, .long (-2100000000)), (9, .long (-2100000000)), (7, .long (-2100000000)), (5, .long (-2100000000)), (3, .long (-2100000000)), (0, .ref h), (1, .int (nI k)), (2, .int (nI 0))]) hx hb dL_areNested_67 hl (by decide) rfl (fun ls hl => ?_)
      refine lv_iload_n hx hb dL_areNested_69 rfl (lv_at hl 8 rfl) ?_
      refine lv_if_ne (tgt := 77) hx hb dL_areNested_70 (by decide) (fun c_70 => absurd nI_0 c_70) (fun c_70 => ?_)
      refine lv_lload_n hx hb dL_areNested_73 rfl (lv_at hl 5 rfl) ?_
      refine lv_goto (tgt := 88) hx hb dL_areNested_74 (by decide) ?_
      refine lv_lstore (lv' := [(15, .long (-2100000000)), (13, .long (-2100000000)), (11, .long (-2100000000)), (9, .long (-2100000000)), (7, .long (-2100000000)), (5, .long (-2100000000)), (3, .long (-2100000000)), (0, .ref h), (1, .int (nI k)), (2, .int (nI 0))]) hx hb dL_areNested_88 hl (by decide) rfl (fun ls hl => ?_)
      refine lv_lload hx hb dL_areNested_90 (lv_at hl 5 rfl) ?_
      refine lv_lload_n hx hb dL_areNested_92 rfl (lv_at hl 6 rfl) ?_
      refine g_ne (tgt := 101) hx hb dL_areNested_93 dL_areNested_94 (by decide) (fun c_93 => absurd c_93 (by decide)) (fun c_93 => ?_)
      refine lv_iconst (v := 1) hx hb dL_areNested_97 (by decide) ?_
      refine lv_goto (tgt := 102) hx hb dL_areNested_98 (by decide) ?_
      refine lv_lload hx hb dL_areNested_102 (lv_at hl 4 rfl) ?_
      refine lv_lload_n hx hb dL_areNested_104 rfl (lv_at hl 6 rfl) ?_
      refine g_ne (tgt := 113) hx hb dL_areNested_105 dL_areNested_106 (by decide) (fun c_105 => absurd c_105 (by decide)) (fun c_105 => ?_)
      refine lv_iconst (v := 1) hx hb dL_areNested_109 (by decide) ?_
      refine lv_goto (tgt := 114) hx hb dL_areNested_110 (by decide) ?_
      refine lv_icmp_ne (tgt := 182) hx hb dL_areNested_114 (by decide) (fun c_114 => absurd c_114 (by decide)) (fun c_114 => ?_)
      refine lv_lload hx hb dL_areNested_117 (lv_at hl 3 rfl) ?_
      refine lv_lload_n hx hb dL_areNested_119 rfl (lv_at hl 6 rfl) ?_
      refine g_eq (tgt := 147) hx hb dL_areNested_120 dL_areNested_121 (by decide) (fun c_120 => ?_) (fun c_120 => absurd c_120 (by decide))
      refine lv_lload hx hb dL_areNested_147 (lv_at hl 1 rfl) ?_
      refine lv_lload_n hx hb dL_areNested_149 rfl (lv_at hl 6 rfl) ?_
      refine g_eq (tgt := 178) hx hb dL_areNested_150 dL_areNested_151 (by decide) (fun c_150 => ?_) (fun c_150 => absurd c_150 (by decide))
      refine lv_iconst (v := 1) hx hb dL_areNested_178 (by decide) ?_
      refine lv_goto (tgt := 183) hx hb dL_areNested_179 (by decide) ?_
      refine lv_istore (lv' := [(17, .int 1), (15, .long (-2100000000)), (13, .long (-2100000000)), (11, .long (-2100000000)), (9, .long (-2100000000)), (7, .long (-2100000000)), (5, .long (-2100000000)), (3, .long (-2100000000)), (0, .ref h), (1, .int (nI k)), (2, .int (nI 0))]) hx hb dL_areNested_183 hl (by decide) rfl (fun ls hl => ?_)
      refine lv_iload hx hb dL_areNested_185 (lv_at hl 0 rfl) ?_
      refine lv_if_eq (tgt := 240) hx hb dL_areNested_187 (by decide) (fun c_187 => absurd c_187 (by decide)) (fun c_187 => ?_)
      refine lv_lload hx hb dL_areNested_190 (lv_at hl 6 rfl) ?_
      refine lv_lload_n hx hb dL_areNested_192 rfl (lv_at hl 7 rfl) ?_
      refine g_eq (tgt := 215) hx hb dL_areNested_193 dL_areNested_194 (by decide) (fun c_193 => ?_) (fun c_193 => absurd c_193 (by decide))
      refine lv_lload hx hb dL_areNested_215 (lv_at hl 6 rfl) ?_
      refine lv_lload_n hx hb dL_areNested_217 rfl (lv_at hl 7 rfl) ?_
      refine g_ne (tgt := 236) hx hb dL_areNested_218 dL_areNested_219 (by decide) (fun c_218 => absurd c_218 (by decide)) (fun c_218 => ?_)
      refine lv_lload hx hb dL_areNested_222 (lv_at hl 4 rfl) ?_
      refine lv_lload_n hx hb dL_areNested_224 rfl (lv_at hl 7 rfl) ?_
      refine g_ne (tgt := 240) hx hb dL_areNested_225 dL_areNested_226 (by decide) (fun c_225 => absurd c_225 (by decide)) (fun c_225 => ?_)
      refine lv_lload hx hb dL_areNested_229 (lv_at hl 2 rfl) ?_
      refine lv_lload_n hx hb dL_areNested_231 rfl (lv_at hl 7 rfl) ?_
      refine g_ne (tgt := 240) hx hb dL_areNested_232 dL_areNested_233 (by decide) (fun c_232 => absurd c_232 (by decide)) (fun c_232 => ?_)
      refine lv_iconst (v := 1) hx hb dL_areNested_236 (by decide) ?_
      refine lv_goto (tgt := 241) hx hb dL_areNested_237 (by decide) ?_
      refine W.widen (k := 6) (n := 36) (Nat.le_of_ble_eq_true rfl) (Nat.le_of_ble_eq_true rfl) ?_
      exact W.zret (v := 1) hx hb hr (by decide) (fun t ht hW => ⟨⟨_, w4, rfl, ⟨rfl, hw⟩, by rw [← hAe]; exact hD, by rw [ht]; exact hP⟩, by rw [← hAe]; exact hS.F ht⟩) (by rw [← hAe]; exact hS.2.2) dL_areNested_241
  · have z9 : ¬ nI (p + 1) = 0 := nI_ne0 (by omega) (by omega)
    by_cases ha : sFb S k p = true
    · obtain ⟨hf0, k2, k3⟩ := hS9.nest2 hk hp ha
      obtain ⟨m1, m2, -, -⟩ := hS9.nest hk (show p < 25 by omega) ha
      obtain ⟨n1, n2, n3, n4⟩ := hS9.nest hk hp hf0
      refine Met.ofW (cc := cL_areNested) (maxL := 18) (ret := (some .boolean)) (by decide) rfl ?_
      intro pg e s m args below meth c s₁ B hml hv
      obtain ⟨rfl, ⟨hsz, hP, hK, hD0, hE0⟩, hN⟩ := hv
      have hx := B.exec
      have hb := B.bytes
      have hr := B.returns
      have hts := atoms_spec (ws := wsL_areNested) B.pre
      have hown : s.vm.findClass RL = some m.cls := findClass_of_methodNamed B.named
      have hlocks := B.notSynchronized
      subst hsz
      obtain ⟨A, hAe⟩ : ∃ A : Nat → Prop, A = va_A w s.heap.size := ⟨_, rfl⟩
      have hE : gE ad A s s.heap := by rw [hAe]; exact hE0
      have hD : va_D A w := by rw [hAe]; exact hD0.self (sz := s.heap.size)
      have hA : ∀ q : Nat, s.heap.size ≤ q → A q := fun q h => by rw [hAe]; exact Or.inr h
      have hS : va_S A s.heap s.heap [] := va_S.rf
      have hl := lv_entry ([.ref h, .int (nI k), .int (nI (p + 1))]) (n := 18) (Nat.le_of_ble_eq_true rfl)
      rw [lg_entry_eq]
      generalize (lg_sl ([.ref h, .int (nI k), .int (nI (p + 1))]) ++ List.replicate (18 - (lg_sl ([.ref h, .int (nI k), .int (nI (p + 1))])).length) Slot.unset).toArray = ls at hl ⊢
      have hl : lv_has ls 18 [(0, .ref h), (1, .int (nI k)), (2, .int (nI (p + 1)))] := hl
      refine lv_ldc2 (v := -2100000000) hx hb hown (hts (.constantLong RL 62 (-2100000000)) (List.mem_of_getElem? (i := 1) rfl)) dL_areNested_0 ?_
      refine lv_lstore_n (lv' := [(3, .long (-2100000000)), (0, .ref h), (1, .int (nI k)), (2, .int (nI (p + 1)))]) hx hb dL_areNested_3 rfl hl (by decide) rfl (fun ls hl => ?_)
      refine lv_aload_n hx hb dL_areNested_4 rfl (lv_at hl 1 rfl) ?_
      refine lv_bipush (v := 9) hx hb dL_areNested_5 (by decide) ?_
      refine lv_iload_n hx hb dL_areNested_7 rfl (lv_at hl 2 rfl) ?_
      refine lv_iload_n hx hb dL_areNested_8 rfl (lv_at hl 3 rfl) ?_
      refine lv_iconst (v := 0) hx hb dL_areNested_9 (by decide) ?_
      refine g_callN (ws := []) (wc := w) (vx_runSW (As := [.ref h, .int 9, .int (nI k), .int (nI (p + 1)), .int 0]) (rest := []) ⟨hx, hb, hml, hown, hts⟩ (e_told l hfl D y ad hS9 hw (nI k) (nI (p + 1)) 0 s.heap.size) (vx_cwSW 5 hts gL_areNested_L_does rfl rfl rfl (by decide +kernel) ⟨Nat.le_of_ble_eq_true rfl, Nat.le_of_ble_eq_true rfl⟩) (gPN_SA hP hD hK hE hN hS hA) rfl rfl hl.1 rfl (lv_room (Nat.le_of_ble_eq_true rfl)) dL_areNested_10 ⟨Nat.le_of_ble_eq_true rfl, Nat.le_of_ble_eq_true rfl⟩) hP hD hS hA (fun v9 w1 H locs hf hP hD hS => ?_)
      obtain ⟨rfl, hw⟩ := hf
      refine g_topl (y := sFl S k (p + 1)) ((hS9.toldr hk hp _).trans ((dRaw_y hn hk hp hf0 _).trans (gSl0 _ _))) ?_
      refine lv_lstore (lv' := [(5, .long (sFl S k (p + 1))), (3, .long (-2100000000)), (0, .ref h), (1, .int (nI k)), (2, .int (nI (p + 1)))]) hx hb dL_areNested_13 hl (by decide) rfl (fun ls hl => ?_)
      refine lv_aload_n hx hb dL_areNested_15 rfl (lv_at hl 2 rfl) ?_
      refine lv_bipush (v := 9) hx hb dL_areNested_16 (by decide) ?_
      refine lv_iload_n hx hb dL_areNested_18 rfl (lv_at hl 3 rfl) ?_
      refine lv_iload_n hx hb dL_areNested_19 rfl (lv_at hl 4 rfl) ?_
      refine lv_iconst (v := 1) hx hb dL_areNested_20 (by decide) ?_
      refine g_callN (ws := []) (wc := w1) (vx_runSW (As := [.ref h, .int 9, .int (nI k), .int (nI (p + 1)), .int 1]) (rest := []) ⟨hx, hb, hml, hown, hts⟩ (e_told l hfl D y ad hS9 hw (nI k) (nI (p + 1)) 1 H.size) (vx_cwSW 5 hts gL_areNested_L_does rfl rfl rfl (by decide +kernel) ⟨Nat.le_of_ble_eq_true rfl, Nat.le_of_ble_eq_true rfl⟩) (gPN_SA hP hD hK hE hN hS hA) rfl rfl hl.1 rfl (lv_room (Nat.le_of_ble_eq_true rfl)) dL_areNested_21 ⟨Nat.le_of_ble_eq_true rfl, Nat.le_of_ble_eq_true rfl⟩) hP hD hS hA (fun v9 w2 H locs hf hP hD hS => ?_)
      obtain ⟨rfl, hw⟩ := hf
      refine g_topl (y := sFh S k (p + 1)) ((hS9.toldr hk hp _).trans ((dRaw_y hn hk hp hf0 _).trans (gSl1 _ _))) ?_
      refine lv_lstore (lv' := [(7, .long (sFh S k (p + 1))), (5, .long (sFl S k (p + 1))), (3, .long (-2100000000)), (0, .ref h), (1, .int (nI k)), (2, .int (nI (p + 1)))]) hx hb dL_areNested_24 hl (by decide) rfl (fun ls hl => ?_)
      refine lv_aload_n hx hb dL_areNested_26 rfl (lv_at hl 3 rfl) ?_
      refine lv_bipush (v := 8) hx hb dL_areNested_27 (by decide) ?_
      refine lv_iload_n hx hb dL_areNested_29 rfl (lv_at hl 4 rfl) ?_
      refine lv_iload_n hx hb dL_areNested_30 rfl (lv_at hl 5 rfl) ?_
      refine lv_iconst (v := 0) hx hb dL_areNested_31 (by decide) ?_
      refine g_callN (ws := []) (wc := w2) (vx_runSW (As := [.ref h, .int 8, .int (nI k), .int (nI (p + 1)), .int 0]) (rest := []) ⟨hx, hb, hml, hown, hts⟩ (e_raw l hfl D y ad hS9 hw (nI k) (nI (p + 1)) 0 H.size) (vx_cwSW 5 hts gL_areNested_L_does rfl rfl rfl (by decide +kernel) ⟨Nat.le_of_ble_eq_true rfl, Nat.le_of_ble_eq_true rfl⟩) (gPN_SA hP hD hK hE hN hS hA) rfl rfl hl.1 rfl (lv_room (Nat.le_of_ble_eq_true rfl)) dL_areNested_32 ⟨Nat.le_of_ble_eq_true rfl, Nat.le_of_ble_eq_true rfl⟩) hP hD hS hA (fun v9 w3 H locs hf hP hD hS => ?_)
      obtain ⟨rfl, hw⟩ := hf
      refine g_topl (y := sFl S k (p + 1)) ((dRaw_y hn hk hp hf0 _).trans (gSl0 _ _)) ?_
      refine lv_lstore (lv' := [(9, .long (sFl S k (p + 1))), (7, .long (sFh S k (p + 1))), (5, .long (sFl S k (p + 1))), (3, .long (-2100000000)), (0, .ref h), (1, .int (nI k)), (2, .int (nI (p + 1)))]) hx hb dL_areNested_35 hl (by decide) rfl (fun ls hl => ?_)
      refine lv_aload_n hx hb dL_areNested_37 rfl (lv_at hl 4 rfl) ?_
      refine lv_bipush (v := 8) hx hb dL_areNested_38 (by decide) ?_
      refine lv_iload_n hx hb dL_areNested_40 rfl (lv_at hl 5 rfl) ?_
      refine lv_iload_n hx hb dL_areNested_41 rfl (lv_at hl 6 rfl) ?_
      refine lv_iconst (v := 1) hx hb dL_areNested_42 (by decide) ?_
      refine g_callN (ws := []) (wc := w3) (vx_runSW (As := [.ref h, .int 8, .int (nI k), .int (nI (p + 1)), .int 1]) (rest := []) ⟨hx, hb, hml, hown, hts⟩ (e_raw l hfl D y ad hS9 hw (nI k) (nI (p + 1)) 1 H.size) (vx_cwSW 5 hts gL_areNested_L_does rfl rfl rfl (by decide +kernel) ⟨Nat.le_of_ble_eq_true rfl, Nat.le_of_ble_eq_true rfl⟩) (gPN_SA hP hD hK hE hN hS hA) rfl rfl hl.1 rfl (lv_room (Nat.le_of_ble_eq_true rfl)) dL_areNested_43 ⟨Nat.le_of_ble_eq_true rfl, Nat.le_of_ble_eq_true rfl⟩) hP hD hS hA (fun v9 w4 H locs hf hP hD hS => ?_)
      obtain ⟨rfl, hw⟩ := hf
      refine g_topl (y := sFh S k (p + 1)) ((dRaw_y hn hk hp hf0 _).trans (gSl1 _ _)) ?_
      refine lv_lstore (lv' := [(11, .long (sFh S k (p + 1))), (9, .long (sFl S k (p + 1))), (7, .long (sFh S k (p + 1))), (5, .long (sFl S k (p + 1))), (3, .long (-2100000000)), (0, .ref h), (1, .int (nI k)), (2, .int (nI (p + 1)))]) hx hb dL_areNested_46 hl (by decide) rfl (fun ls hl => ?_)
      refine lv_iload_n hx hb dL_areNested_48 rfl (lv_at hl 7 rfl) ?_
      refine lv_if_ne (tgt := 56) hx hb dL_areNested_49 (by decide) (fun c_49 => ?_) (fun c_49 => absurd c_49 z9)
      refine lv_aload_n hx hb dL_areNested_56 rfl (lv_at hl 5 rfl) ?_
      refine lv_bipush (v := 9) hx hb dL_areNested_57 (by decide) ?_
      refine lv_iload_n hx hb dL_areNested_59 rfl (lv_at hl 6 rfl) ?_
      refine lv_iload_n hx hb dL_areNested_60 rfl (lv_at hl 7 rfl) ?_
      refine lv_iconst (v := 1) hx hb dL_areNested_61 (by decide) ?_
      refine lv_isub hx hb dL_areNested_62 ?_
      refine g_topi (y := nI p) (nI_pred p) ?_
      refine lv_iconst (v := 0) hx hb dL_areNested_63 (by decide) ?_
      refine g_callN (ws := []) (wc := w4) (vx_runSW (As := [.ref h, .int 9, .int (nI k), .int (nI p), .int 0]) (rest := []) ⟨hx, hb, hml, hown, hts⟩ (e_told l hfl D y ad hS9 hw (nI k) (nI p) 0 H.size) (vx_cwSW 5 hts gL_areNested_L_does rfl rfl rfl (by decide +kernel) ⟨Nat.le_of_ble_eq_true rfl, Nat.le_of_ble_eq_true rfl⟩) (gPN_SA hP hD hK hE hN hS hA) rfl rfl hl.1 rfl (lv_room (Nat.le_of_ble_eq_true rfl)) dL_areNested_64 ⟨Nat.le_of_ble_eq_true rfl, Nat.le_of_ble_eq_true rfl⟩) hP hD hS hA (fun v9 w5 H locs hf hP hD hS => ?_)
      obtain ⟨rfl, hw⟩ := hf
      refine g_topl (y := sFl S k p) ((hS9.toldr hk (by omega) _).trans ((dRaw_y hn hk (by omega) ha _).trans (gSl0 _ _))) ?_
      refine lv_lstore (lv' := [(13, .long (sFl S k p)), (11, .long (sFh S k (p + 1))), (9, .long (sFl S k (p + 1))), (7, .long (sFh S k (p + 1))), (5, .long (sFl S k (p + 1))), (3, .long (-2100000000)), (0, .ref h), (1, .int (nI k)), (2, .int (nI (p + 1)))]) hx hb dL_areNested_67 hl (by decide) rfl (fun ls hl => ?_)
      refine lv_iload_n hx hb dL_areNested_69 rfl (lv_at hl 8 rfl) ?_
      refine lv_if_ne (tgt := 77) hx hb dL_areNested_70 (by decide) (fun c_70 => ?_) (fun c_70 => absurd c_70 z9)
      refine lv_aload_n hx hb dL_areNested_77 rfl (lv_at hl 6 rfl) ?_
      refine lv_bipush (v := 9) hx hb dL_areNested_78 (by decide) ?_
      refine lv_iload_n hx hb dL_areNested_80 rfl (lv_at hl 7 rfl) ?_
      refine lv_iload_n hx hb dL_areNested_81 rfl (lv_at hl 8 rfl) ?_
      refine lv_iconst (v := 1) hx hb dL_areNested_82 (by decide) ?_
      refine lv_isub hx hb dL_areNested_83 ?_
      refine g_topi (y := nI p) (nI_pred p) ?_
      refine lv_iconst (v := 1) hx hb dL_areNested_84 (by decide) ?_
      refine g_callN (ws := []) (wc := w5) (vx_runSW (As := [.ref h, .int 9, .int (nI k), .int (nI p), .int 1]) (rest := []) ⟨hx, hb, hml, hown, hts⟩ (e_told l hfl D y ad hS9 hw (nI k) (nI p) 1 H.size) (vx_cwSW 5 hts gL_areNested_L_does rfl rfl rfl (by decide +kernel) ⟨Nat.le_of_ble_eq_true rfl, Nat.le_of_ble_eq_true rfl⟩) (gPN_SA hP hD hK hE hN hS hA) rfl rfl hl.1 rfl (lv_room (Nat.le_of_ble_eq_true rfl)) dL_areNested_85 ⟨Nat.le_of_ble_eq_true rfl, Nat.le_of_ble_eq_true rfl⟩) hP hD hS hA (fun v9 w6 H locs hf hP hD hS => ?_)
      obtain ⟨rfl, hw⟩ := hf
      refine g_topl (y := sFh S k p) ((hS9.toldr hk (by omega) _).trans ((dRaw_y hn hk (by omega) ha _).trans (gSl1 _ _))) ?_
      refine lv_lstore (lv' := [(15, .long (sFh S k p)), (13, .long (sFl S k p)), (11, .long (sFh S k (p + 1))), (9, .long (sFl S k (p + 1))), (7, .long (sFh S k (p + 1))), (5, .long (sFl S k (p + 1))), (3, .long (-2100000000)), (0, .ref h), (1, .int (nI k)), (2, .int (nI (p + 1)))]) hx hb dL_areNested_88 hl (by decide) rfl (fun ls hl => ?_)
      refine lv_lload hx hb dL_areNested_90 (lv_at hl 5 rfl) ?_
      refine lv_lload_n hx hb dL_areNested_92 rfl (lv_at hl 6 rfl) ?_
      refine g_ne (tgt := 101) hx hb dL_areNested_93 dL_areNested_94 (by decide) (fun c_93 => ?_) (fun c_93 => absurd c_93 n1)
      refine lv_iconst (v := 0) hx hb dL_areNested_101 (by decide) ?_
      refine lv_lload hx hb dL_areNested_102 (lv_at hl 4 rfl) ?_
      refine lv_lload_n hx hb dL_areNested_104 rfl (lv_at hl 6 rfl) ?_
      refine g_ne (tgt := 113) hx hb dL_areNested_105 dL_areNested_106 (by decide) (fun c_105 => ?_) (fun c_105 => absurd c_105 n2)
      refine lv_iconst (v := 0) hx hb dL_areNested_113 (by decide) ?_
      refine lv_icmp_ne (tgt := 182) hx hb dL_areNested_114 (by decide) (fun c_114 => absurd c_114 (by decide)) (fun c_114 => ?_)
      refine lv_lload hx hb dL_areNested_117 (lv_at hl 3 rfl) ?_
      refine lv_lload_n hx hb dL_areNested_119 rfl (lv_at hl 6 rfl) ?_
      refine g_eq (tgt := 147) hx hb dL_areNested_120 dL_areNested_121 (by decide) (fun c_120 => absurd c_120 n1) (fun c_120 => ?_)
      refine lv_lload hx hb dL_areNested_124 (lv_at hl 5 rfl) ?_
      refine lv_lload_n hx hb dL_areNested_126 rfl (lv_at hl 6 rfl) ?_
      refine g_eq (tgt := 182) hx hb dL_areNested_127 dL_areNested_128 (by decide) (fun c_127 => absurd c_127 n1) (fun c_127 => ?_)
      refine lv_lload hx hb dL_areNested_131 (lv_at hl 3 rfl) ?_
      refine lv_lload hx hb dL_areNested_133 (lv_at hl 5 rfl) ?_
      refine g_gt (tgt := 182) hx hb dL_areNested_135 dL_areNested_136 (by decide) (fun c_135 => absurd c_135 (lt_irr9 _)) (fun c_135 => ?_)
      refine lv_lload hx hb dL_areNested_139 (lv_at hl 2 rfl) ?_
      refine lv_lload hx hb dL_areNested_141 (lv_at hl 4 rfl) ?_
      refine g_lt (tgt := 182) hx hb dL_areNested_143 dL_areNested_144 (by decide) (fun c_143 => absurd c_143 (lt_irr9 _)) (fun c_143 => ?_)
      refine lv_lload hx hb dL_areNested_147 (lv_at hl 1 rfl) ?_
      refine lv_lload_n hx hb dL_areNested_149 rfl (lv_at hl 6 rfl) ?_
      refine g_eq (tgt := 178) hx hb dL_areNested_150 dL_areNested_151 (by decide) (fun c_150 => absurd c_150 m1) (fun c_150 => ?_)
      refine lv_lload hx hb dL_areNested_154 (lv_at hl 5 rfl) ?_
      refine lv_ldc2 (v := 2) hx hb hown (hts (.constantLong RL 119 (2)) (List.mem_of_getElem? (i := 2) rfl)) dL_areNested_156 ?_
      refine lv_lload hx hb dL_areNested_159 (lv_at hl 1 rfl) ?_
      refine lv_lmul hx hb dL_areNested_161 ?_
      refine g_lt (tgt := 182) hx hb dL_areNested_162 dL_areNested_163 (by decide) (fun c_162 => absurd c_162 k2) (fun c_162 => ?_)
      refine lv_lload hx hb dL_areNested_166 (lv_at hl 4 rfl) ?_
      refine lv_ldc2 (v := 2) hx hb hown (hts (.constantLong RL 119 (2)) (List.mem_of_getElem? (i := 2) rfl)) dL_areNested_168 ?_
      refine lv_lload hx hb dL_areNested_171 (lv_at hl 0 rfl) ?_
      refine lv_lmul hx hb dL_areNested_173 ?_
      refine g_gt (tgt := 182) hx hb dL_areNested_174 dL_areNested_175 (by decide) (fun c_174 => absurd c_174 k3) (fun c_174 => ?_)
      refine lv_iconst (v := 1) hx hb dL_areNested_178 (by decide) ?_
      refine lv_goto (tgt := 183) hx hb dL_areNested_179 (by decide) ?_
      refine lv_istore (lv' := [(17, .int 1), (15, .long (sFh S k p)), (13, .long (sFl S k p)), (11, .long (sFh S k (p + 1))), (9, .long (sFl S k (p + 1))), (7, .long (sFh S k (p + 1))), (5, .long (sFl S k (p + 1))), (3, .long (-2100000000)), (0, .ref h), (1, .int (nI k)), (2, .int (nI (p + 1)))]) hx hb dL_areNested_183 hl (by decide) rfl (fun ls hl => ?_)
      refine lv_iload hx hb dL_areNested_185 (lv_at hl 0 rfl) ?_
      refine lv_if_eq (tgt := 240) hx hb dL_areNested_187 (by decide) (fun c_187 => absurd c_187 (by decide)) (fun c_187 => ?_)
      refine lv_lload hx hb dL_areNested_190 (lv_at hl 6 rfl) ?_
      refine lv_lload_n hx hb dL_areNested_192 rfl (lv_at hl 7 rfl) ?_
      refine g_eq (tgt := 215) hx hb dL_areNested_193 dL_areNested_194 (by decide) (fun c_193 => absurd c_193 n1) (fun c_193 => ?_)
      refine lv_lload hx hb dL_areNested_197 (lv_at hl 6 rfl) ?_
      refine lv_lload hx hb dL_areNested_199 (lv_at hl 5 rfl) ?_
      refine g_gt (tgt := 240) hx hb dL_areNested_201 dL_areNested_202 (by decide) (fun c_201 => absurd c_201 n3) (fun c_201 => ?_)
      refine lv_lload hx hb dL_areNested_205 (lv_at hl 5 rfl) ?_
      refine lv_lload hx hb dL_areNested_207 (lv_at hl 6 rfl) ?_
      refine lv_lsub hx hb dL_areNested_209 ?_
      refine lv_lconst (v := 0) hx hb dL_areNested_210 (by decide) ?_
      refine g_lt (tgt := 240) hx hb dL_areNested_211 dL_areNested_212 (by decide) (fun c_211 => absurd c_211 n4) (fun c_211 => ?_)
      refine lv_lload hx hb dL_areNested_215 (lv_at hl 6 rfl) ?_
      refine lv_lload_n hx hb dL_areNested_217 rfl (lv_at hl 7 rfl) ?_
      refine g_ne (tgt := 236) hx hb dL_areNested_218 dL_areNested_219 (by decide) (fun c_218 => ?_) (fun c_218 => absurd c_218 n1)
      refine lv_iconst (v := 1) hx hb dL_areNested_236 (by decide) ?_
      refine lv_goto (tgt := 241) hx hb dL_areNested_237 (by decide) ?_
      refine W.widen (k := 6) (n := 36) (Nat.le_of_ble_eq_true rfl) (Nat.le_of_ble_eq_true rfl) ?_
      exact W.zret (v := 1) hx hb hr (by decide) (fun t ht hW => ⟨⟨_, w6, rfl, ⟨rfl, hw⟩, by rw [← hAe]; exact hD, by rw [ht]; exact hP⟩, by rw [← hAe]; exact hS.F ht⟩) (by rw [← hAe]; exact hS.2.2) dL_areNested_241
    · by_cases hf0 : sFb S k (p + 1) = true
      · obtain ⟨n1, n2, n3, n4⟩ := hS9.nest hk hp hf0
        refine Met.ofW (cc := cL_areNested) (maxL := 18) (ret := (some .boolean)) (by decide) rfl ?_
        intro pg e s m args below meth c s₁ B hml hv
        obtain ⟨rfl, ⟨hsz, hP, hK, hD0, hE0⟩, hN⟩ := hv
        have hx := B.exec
        have hb := B.bytes
        have hr := B.returns
        have hts := atoms_spec (ws := wsL_areNested) B.pre
        have hown : s.vm.findClass RL = some m.cls := findClass_of_methodNamed B.named
        have hlocks := B.notSynchronized
        subst hsz
        obtain ⟨A, hAe⟩ : ∃ A : Nat → Prop, A = va_A w s.heap.size := ⟨_, rfl⟩
        have hE : gE ad A s s.heap := by rw [hAe]; exact hE0
        have hD : va_D A w := by rw [hAe]; exact hD0.self (sz := s.heap.size)
        have hA : ∀ q : Nat, s.heap.size ≤ q → A q := fun q h => by rw [hAe]; exact Or.inr h
        have hS : va_S A s.heap s.heap [] := va_S.rf
        have hl := lv_entry ([.ref h, .int (nI k), .int (nI (p + 1))]) (n := 18) (Nat.le_of_ble_eq_true rfl)
        rw [lg_entry_eq]
        generalize (lg_sl ([.ref h, .int (nI k), .int (nI (p + 1))]) ++ List.replicate (18 - (lg_sl ([.ref h, .int (nI k), .int (nI (p + 1))])).length) Slot.unset).toArray = ls at hl ⊢
        have hl : lv_has ls 18 [(0, .ref h), (1, .int (nI k)), (2, .int (nI (p + 1)))] := hl
        refine lv_ldc2 (v := -2100000000) hx hb hown (hts (.constantLong RL 62 (-2100000000)) (List.mem_of_getElem? (i := 1) rfl)) dL_areNested_0 ?_
        refine lv_lstore_n (lv' := [(3, .long (-2100000000)), (0, .ref h), (1, .int (nI k)), (2, .int (nI (p + 1)))]) hx hb dL_areNested_3 rfl hl (by decide) rfl (fun ls hl => ?_)
        refine lv_aload_n hx hb dL_areNested_4 rfl (lv_at hl 1 rfl) ?_
        refine lv_bipush (v := 9) hx hb dL_areNested_5 (by decide) ?_
        refine lv_iload_n hx hb dL_areNested_7 rfl (lv_at hl 2 rfl) ?_
        refine lv_iload_n hx hb dL_areNested_8 rfl (lv_at hl 3 rfl) ?_
        refine lv_iconst (v := 0) hx hb dL_areNested_9 (by decide) ?_
        refine g_callN (ws := []) (wc := w) (vx_runSW (As := [.ref h, .int 9, .int (nI k), .int (nI (p + 1)), .int 0]) (rest := []) ⟨hx, hb, hml, hown, hts⟩ (e_told l hfl D y ad hS9 hw (nI k) (nI (p + 1)) 0 s.heap.size) (vx_cwSW 5 hts gL_areNested_L_does rfl rfl rfl (by decide +kernel) ⟨Nat.le_of_ble_eq_true rfl, Nat.le_of_ble_eq_true rfl⟩) (gPN_SA hP hD hK hE hN hS hA) rfl rfl hl.1 rfl (lv_room (Nat.le_of_ble_eq_true rfl)) dL_areNested_10 ⟨Nat.le_of_ble_eq_true rfl, Nat.le_of_ble_eq_true rfl⟩) hP hD hS hA (fun v9 w1 H locs hf hP hD hS => ?_)
        obtain ⟨rfl, hw⟩ := hf
        refine g_topl (y := sFl S k (p + 1)) ((hS9.toldr hk hp _).trans ((dRaw_y hn hk hp hf0 _).trans (gSl0 _ _))) ?_
        refine lv_lstore (lv' := [(5, .long (sFl S k (p + 1))), (3, .long (-2100000000)), (0, .ref h), (1, .int (nI k)), (2, .int (nI (p + 1)))]) hx hb dL_areNested_13 hl (by decide) rfl (fun ls hl => ?_)
        refine lv_aload_n hx hb dL_areNested_15 rfl (lv_at hl 2 rfl) ?_
        refine lv_bipush (v := 9) hx hb dL_areNested_16 (by decide) ?_
        refine lv_iload_n hx hb dL_areNested_18 rfl (lv_at hl 3 rfl) ?_
        refine lv_iload_n hx hb dL_areNested_19 rfl (lv_at hl 4 rfl) ?_
        refine lv_iconst (v := 1) hx hb dL_areNested_20 (by decide) ?_
        refine g_callN (ws := []) (wc := w1) (vx_runSW (As := [.ref h, .int 9, .int (nI k), .int (nI (p + 1)), .int 1]) (rest := []) ⟨hx, hb, hml, hown, hts⟩ (e_told l hfl D y ad hS9 hw (nI k) (nI (p + 1)) 1 H.size) (vx_cwSW 5 hts gL_areNested_L_does rfl rfl rfl (by decide +kernel) ⟨Nat.le_of_ble_eq_true rfl, Nat.le_of_ble_eq_true rfl⟩) (gPN_SA hP hD hK hE hN hS hA) rfl rfl hl.1 rfl (lv_room (Nat.le_of_ble_eq_true rfl)) dL_areNested_21 ⟨Nat.le_of_ble_eq_true rfl, Nat.le_of_ble_eq_true rfl⟩) hP hD hS hA (fun v9 w2 H locs hf hP hD hS => ?_)
        obtain ⟨rfl, hw⟩ := hf
        refine g_topl (y := sFh S k (p + 1)) ((hS9.toldr hk hp _).trans ((dRaw_y hn hk hp hf0 _).trans (gSl1 _ _))) ?_
        refine lv_lstore (lv' := [(7, .long (sFh S k (p + 1))), (5, .long (sFl S k (p + 1))), (3, .long (-2100000000)), (0, .ref h), (1, .int (nI k)), (2, .int (nI (p + 1)))]) hx hb dL_areNested_24 hl (by decide) rfl (fun ls hl => ?_)
        refine lv_aload_n hx hb dL_areNested_26 rfl (lv_at hl 3 rfl) ?_
        refine lv_bipush (v := 8) hx hb dL_areNested_27 (by decide) ?_
        refine lv_iload_n hx hb dL_areNested_29 rfl (lv_at hl 4 rfl) ?_
        refine lv_iload_n hx hb dL_areNested_30 rfl (lv_at hl 5 rfl) ?_
        refine lv_iconst (v := 0) hx hb dL_areNested_31 (by decide) ?_
        refine g_callN (ws := []) (wc := w2) (vx_runSW (As := [.ref h, .int 8, .int (nI k), .int (nI (p + 1)), .int 0]) (rest := []) ⟨hx, hb, hml, hown, hts⟩ (e_raw l hfl D y ad hS9 hw (nI k) (nI (p + 1)) 0 H.size) (vx_cwSW 5 hts gL_areNested_L_does rfl rfl rfl (by decide +kernel) ⟨Nat.le_of_ble_eq_true rfl, Nat.le_of_ble_eq_true rfl⟩) (gPN_SA hP hD hK hE hN hS hA) rfl rfl hl.1 rfl (lv_room (Nat.le_of_ble_eq_true rfl)) dL_areNested_32 ⟨Nat.le_of_ble_eq_true rfl, Nat.le_of_ble_eq_true rfl⟩) hP hD hS hA (fun v9 w3 H locs hf hP hD hS => ?_)
        obtain ⟨rfl, hw⟩ := hf
        refine g_topl (y := sFl S k (p + 1)) ((dRaw_y hn hk hp hf0 _).trans (gSl0 _ _)) ?_
        refine lv_lstore (lv' := [(9, .long (sFl S k (p + 1))), (7, .long (sFh S k (p + 1))), (5, .long (sFl S k (p + 1))), (3, .long (-2100000000)), (0, .ref h), (1, .int (nI k)), (2, .int (nI (p + 1)))]) hx hb dL_areNested_35 hl (by decide) rfl (fun ls hl => ?_)
        refine lv_aload_n hx hb dL_areNested_37 rfl (lv_at hl 4 rfl) ?_
        refine lv_bipush (v := 8) hx hb dL_areNested_38 (by decide) ?_
        refine lv_iload_n hx hb dL_areNested_40 rfl (lv_at hl 5 rfl) ?_
        refine lv_iload_n hx hb dL_areNested_41 rfl (lv_at hl 6 rfl) ?_
        refine lv_iconst (v := 1) hx hb dL_areNested_42 (by decide) ?_
        refine g_callN (ws := []) (wc := w3) (vx_runSW (As := [.ref h, .int 8, .int (nI k), .int (nI (p + 1)), .int 1]) (rest := []) ⟨hx, hb, hml, hown, hts⟩ (e_raw l hfl D y ad hS9 hw (nI k) (nI (p + 1)) 1 H.size) (vx_cwSW 5 hts gL_areNested_L_does rfl rfl rfl (by decide +kernel) ⟨Nat.le_of_ble_eq_true rfl, Nat.le_of_ble_eq_true rfl⟩) (gPN_SA hP hD hK hE hN hS hA) rfl rfl hl.1 rfl (lv_room (Nat.le_of_ble_eq_true rfl)) dL_areNested_43 ⟨Nat.le_of_ble_eq_true rfl, Nat.le_of_ble_eq_true rfl⟩) hP hD hS hA (fun v9 w4 H locs hf hP hD hS => ?_)
        obtain ⟨rfl, hw⟩ := hf
        refine g_topl (y := sFh S k (p + 1)) ((dRaw_y hn hk hp hf0 _).trans (gSl1 _ _)) ?_
        refine lv_lstore (lv' := [(11, .long (sFh S k (p + 1))), (9, .long (sFl S k (p + 1))), (7, .long (sFh S k (p + 1))), (5, .long (sFl S k (p + 1))), (3, .long (-2100000000)), (0, .ref h), (1, .int (nI k)), (2, .int (nI (p + 1)))]) hx hb dL_areNested_46 hl (by decide) rfl (fun ls hl => ?_)
        refine lv_iload_n hx hb dL_areNested_48 rfl (lv_at hl 7 rfl) ?_
        refine lv_if_ne (tgt := 56) hx hb dL_areNested_49 (by decide) (fun c_49 => ?_) (fun c_49 => absurd c_49 z9)
        refine lv_aload_n hx hb dL_areNested_56 rfl (lv_at hl 5 rfl) ?_
        refine lv_bipush (v := 9) hx hb dL_areNested_57 (by decide) ?_
        refine lv_iload_n hx hb dL_areNested_59 rfl (lv_at hl 6 rfl) ?_
        refine lv_iload_n hx hb dL_areNested_60 rfl (lv_at hl 7 rfl) ?_
        refine lv_iconst (v := 1) hx hb dL_areNested_61 (by decide) ?_
        refine lv_isub hx hb dL_areNested_62 ?_
        refine g_topi (y := nI p) (nI_pred p) ?_
        refine lv_iconst (v := 0) hx hb dL_areNested_63 (by decide) ?_
        refine g_callN (ws := []) (wc := w4) (vx_runSW (As := [.ref h, .int 9, .int (nI k), .int (nI p), .int 0]) (rest := []) ⟨hx, hb, hml, hown, hts⟩ (e_told l hfl D y ad hS9 hw (nI k) (nI p) 0 H.size) (vx_cwSW 5 hts gL_areNested_L_does rfl rfl rfl (by decide +kernel) ⟨Nat.le_of_ble_eq_true rfl, Nat.le_of_ble_eq_true rfl⟩) (gPN_SA hP hD hK hE hN hS hA) rfl rfl hl.1 rfl (lv_room (Nat.le_of_ble_eq_true rfl)) dL_areNested_64 ⟨Nat.le_of_ble_eq_true rfl, Nat.le_of_ble_eq_true rfl⟩) hP hD hS hA (fun v9 w5 H locs hf hP hD hS => ?_)
        obtain ⟨rfl, hw⟩ := hf
        refine g_topl (y := -2100000000) ((hS9.toldr hk (by omega) _).trans (dRaw_n hn hk (by omega) ha _)) ?_
        refine lv_lstore (lv' := [(13, .long (-2100000000)), (11, .long (sFh S k (p + 1))), (9, .long (sFl S k (p + 1))), (7, .long (sFh S k (p + 1))), (5, .long (sFl S k (p + 1))), (3, .long (-2100000000)), (0, .ref h), (1, .int (nI k)), (2, .int (nI (p + 1)))]) hx hb dL_areNested_67 hl (by decide) rfl (fun ls hl => ?_)
        refine lv_iload_n hx hb dL_areNested_69 rfl (lv_at hl 8 rfl) ?_
        refine lv_if_ne (tgt := 77) hx hb dL_areNested_70 (by decide) (fun c_70 => ?_) (fun c_70 => absurd c_70 z9)
        refine lv_aload_n hx hb dL_areNested_77 rfl (lv_at hl 6 rfl) ?_
        refine lv_bipush (v := 9) hx hb dL_areNested_78 (by decide) ?_
        refine lv_iload_n hx hb dL_areNested_80 rfl (lv_at hl 7 rfl) ?_
        refine lv_iload_n hx hb dL_areNested_81 rfl (lv_at hl 8 rfl) ?_
        refine lv_iconst (v := 1) hx hb dL_areNested_82 (by decide) ?_
        refine lv_isub hx hb dL_areNested_83 ?_
        refine g_topi (y := nI p) (nI_pred p) ?_
        refine lv_iconst (v := 1) hx hb dL_areNested_84 (by decide) ?_
        refine g_callN (ws := []) (wc := w5) (vx_runSW (As := [.ref h, .int 9, .int (nI k), .int (nI p), .int 1]) (rest := []) ⟨hx, hb, hml, hown, hts⟩ (e_told l hfl D y ad hS9 hw (nI k) (nI p) 1 H.size) (vx_cwSW 5 hts gL_areNested_L_does rfl rfl rfl (by decide +kernel) ⟨Nat.le_of_ble_eq_true rfl, Nat.le_of_ble_eq_true rfl⟩) (gPN_SA hP hD hK hE hN hS hA) rfl rfl hl.1 rfl (lv_room (Nat.le_of_ble_eq_true rfl)) dL_areNested_85 ⟨Nat.le_of_ble_eq_true rfl, Nat.le_of_ble_eq_true rfl⟩) hP hD hS hA (fun v9 w6 H locs hf hP hD hS => ?_)
        obtain ⟨rfl, hw⟩ := hf
        refine g_topl (y := -2100000000) ((hS9.toldr hk (by omega) _).trans (dRaw_n hn hk (by omega) ha _)) ?_
        refine lv_lstore (lv' := [(15, .long (-2100000000)), (13, .long (-2100000000)), (11, .long (sFh S k (p + 1))), (9, .long (sFl S k (p + 1))), (7, .long (sFh S k (p + 1))), (5, .long (sFl S k (p + 1))), (3, .long (-2100000000)), (0, .ref h), (1, .int (nI k)), (2, .int (nI (p + 1)))]) hx hb dL_areNested_88 hl (by decide) rfl (fun ls hl => ?_)
        refine lv_lload hx hb dL_areNested_90 (lv_at hl 5 rfl) ?_
        refine lv_lload_n hx hb dL_areNested_92 rfl (lv_at hl 6 rfl) ?_
        refine g_ne (tgt := 101) hx hb dL_areNested_93 dL_areNested_94 (by decide) (fun c_93 => ?_) (fun c_93 => absurd c_93 n1)
        refine lv_iconst (v := 0) hx hb dL_areNested_101 (by decide) ?_
        refine lv_lload hx hb dL_areNested_102 (lv_at hl 4 rfl) ?_
        refine lv_lload_n hx hb dL_areNested_104 rfl (lv_at hl 6 rfl) ?_
        refine g_ne (tgt := 113) hx hb dL_areNested_105 dL_areNested_106 (by decide) (fun c_105 => ?_) (fun c_105 => absurd c_105 n2)
        refine lv_iconst (v := 0) hx hb dL_areNested_113 (by decide) ?_
        refine lv_icmp_ne (tgt := 182) hx hb dL_areNested_114 (by decide) (fun c_114 => absurd c_114 (by decide)) (fun c_114 => ?_)
        refine lv_lload hx hb dL_areNested_117 (lv_at hl 3 rfl) ?_
        refine lv_lload_n hx hb dL_areNested_119 rfl (lv_at hl 6 rfl) ?_
        refine g_eq (tgt := 147) hx hb dL_areNested_120 dL_areNested_121 (by decide) (fun c_120 => absurd c_120 n1) (fun c_120 => ?_)
        refine lv_lload hx hb dL_areNested_124 (lv_at hl 5 rfl) ?_
        refine lv_lload_n hx hb dL_areNested_126 rfl (lv_at hl 6 rfl) ?_
        refine g_eq (tgt := 182) hx hb dL_areNested_127 dL_areNested_128 (by decide) (fun c_127 => absurd c_127 n1) (fun c_127 => ?_)
        refine lv_lload hx hb dL_areNested_131 (lv_at hl 3 rfl) ?_
        refine lv_lload hx hb dL_areNested_133 (lv_at hl 5 rfl) ?_
        refine g_gt (tgt := 182) hx hb dL_areNested_135 dL_areNested_136 (by decide) (fun c_135 => absurd c_135 (lt_irr9 _)) (fun c_135 => ?_)
        refine lv_lload hx hb dL_areNested_139 (lv_at hl 2 rfl) ?_
        refine lv_lload hx hb dL_areNested_141 (lv_at hl 4 rfl) ?_
        refine g_lt (tgt := 182) hx hb dL_areNested_143 dL_areNested_144 (by decide) (fun c_143 => absurd c_143 (lt_irr9 _)) (fun c_143 => ?_)
        refine lv_lload hx hb dL_areNested_147 (lv_at hl 1 rfl) ?_
        refine lv_lload_n hx hb dL_areNested_149 rfl (lv_at hl 6 rfl) ?_
        refine g_eq (tgt := 178) hx hb dL_areNested_150 dL_areNested_151 (by decide) (fun c_150 => ?_) (fun c_150 => absurd c_150 (by decide))
        refine lv_iconst (v := 1) hx hb dL_areNested_178 (by decide) ?_
        refine lv_goto (tgt := 183) hx hb dL_areNested_179 (by decide) ?_
        refine lv_istore (lv' := [(17, .int 1), (15, .long (-2100000000)), (13, .long (-2100000000)), (11, .long (sFh S k (p + 1))), (9, .long (sFl S k (p + 1))), (7, .long (sFh S k (p + 1))), (5, .long (sFl S k (p + 1))), (3, .long (-2100000000)), (0, .ref h), (1, .int (nI k)), (2, .int (nI (p + 1)))]) hx hb dL_areNested_183 hl (by decide) rfl (fun ls hl => ?_)
        refine lv_iload hx hb dL_areNested_185 (lv_at hl 0 rfl) ?_
        refine lv_if_eq (tgt := 240) hx hb dL_areNested_187 (by decide) (fun c_187 => absurd c_187 (by decide)) (fun c_187 => ?_)
        refine lv_lload hx hb dL_areNested_190 (lv_at hl 6 rfl) ?_
        refine lv_lload_n hx hb dL_areNested_192 rfl (lv_at hl 7 rfl) ?_
        refine g_eq (tgt := 215) hx hb dL_areNested_193 dL_areNested_194 (by decide) (fun c_193 => absurd c_193 n1) (fun c_193 => ?_)
        refine lv_lload hx hb dL_areNested_197 (lv_at hl 6 rfl) ?_
        refine lv_lload hx hb dL_areNested_199 (lv_at hl 5 rfl) ?_
        refine g_gt (tgt := 240) hx hb dL_areNested_201 dL_areNested_202 (by decide) (fun c_201 => absurd c_201 n3) (fun c_201 => ?_)
        refine lv_lload hx hb dL_areNested_205 (lv_at hl 5 rfl) ?_
        refine lv_lload hx hb dL_areNested_207 (lv_at hl 6 rfl) ?_
        refine lv_lsub hx hb dL_areNested_209 ?_
        refine lv_lconst (v := 0) hx hb dL_areNested_210 (by decide) ?_
        refine g_lt (tgt := 240) hx hb dL_areNested_211 dL_areNested_212 (by decide) (fun c_211 => absurd c_211 n4) (fun c_211 => ?_)
        refine lv_lload hx hb dL_areNested_215 (lv_at hl 6 rfl) ?_
        refine lv_lload_n hx hb dL_areNested_217 rfl (lv_at hl 7 rfl) ?_
        refine g_ne (tgt := 236) hx hb dL_areNested_218 dL_areNested_219 (by decide) (fun c_218 => ?_) (fun c_218 => absurd c_218 n1)
        refine lv_iconst (v := 1) hx hb dL_areNested_236 (by decide) ?_
        refine lv_goto (tgt := 241) hx hb dL_areNested_237 (by decide) ?_
        refine W.widen (k := 6) (n := 36) (Nat.le_of_ble_eq_true rfl) (Nat.le_of_ble_eq_true rfl) ?_
        exact W.zret (v := 1) hx hb hr (by decide) (fun t ht hW => ⟨⟨_, w6, rfl, ⟨rfl, hw⟩, by rw [← hAe]; exact hD, by rw [ht]; exact hP⟩, by rw [← hAe]; exact hS.F ht⟩) (by rw [← hAe]; exact hS.2.2) dL_areNested_241
      · skip
        refine Met.ofW (cc := cL_areNested) (maxL := 18) (ret := (some .boolean)) (by decide) rfl ?_
        intro pg e s m args below meth c s₁ B hml hv
        obtain ⟨rfl, ⟨hsz, hP, hK, hD0, hE0⟩, hN⟩ := hv
        have hx := B.exec
        have hb := B.bytes
        have hr := B.returns
        have hts := atoms_spec (ws := wsL_areNested) B.pre
        have hown : s.vm.findClass RL = some m.cls := findClass_of_methodNamed B.named
        have hlocks := B.notSynchronized
        subst hsz
        obtain ⟨A, hAe⟩ : ∃ A : Nat → Prop, A = va_A w s.heap.size := ⟨_, rfl⟩
        have hE : gE ad A s s.heap := by rw [hAe]; exact hE0
        have hD : va_D A w := by rw [hAe]; exact hD0.self (sz := s.heap.size)
        have hA : ∀ q : Nat, s.heap.size ≤ q → A q := fun q h => by rw [hAe]; exact Or.inr h
        have hS : va_S A s.heap s.heap [] := va_S.rf
        have hl := lv_entry ([.ref h, .int (nI k), .int (nI (p + 1))]) (n := 18) (Nat.le_of_ble_eq_true rfl)
        rw [lg_entry_eq]
        generalize (lg_sl ([.ref h, .int (nI k), .int (nI (p + 1))]) ++ List.replicate (18 - (lg_sl ([.ref h, .int (nI k), .int (nI (p + 1))])).length) Slot.unset).toArray = ls at hl ⊢
        have hl : lv_has ls 18 [(0, .ref h), (1, .int (nI k)), (2, .int (nI (p + 1)))] := hl
        refine lv_ldc2 (v := -2100000000) hx hb hown (hts (.constantLong RL 62 (-2100000000)) (List.mem_of_getElem? (i := 1) rfl)) dL_areNested_0 ?_
        refine lv_lstore_n (lv' := [(3, .long (-2100000000)), (0, .ref h), (1, .int (nI k)), (2, .int (nI (p + 1)))]) hx hb dL_areNested_3 rfl hl (by decide) rfl (fun ls hl => ?_)
        refine lv_aload_n hx hb dL_areNested_4 rfl (lv_at hl 1 rfl) ?_
        refine lv_bipush (v := 9) hx hb dL_areNested_5 (by decide) ?_
        refine lv_iload_n hx hb dL_areNested_7 rfl (lv_at hl 2 rfl) ?_
        refine lv_iload_n hx hb dL_areNested_8 rfl (lv_at hl 3 rfl) ?_
        refine lv_iconst (v := 0) hx hb dL_areNested_9 (by decide) ?_
        refine g_callN (ws := []) (wc := w) (vx_runSW (As := [.ref h, .int 9, .int (nI k), .int (nI (p + 1)), .int 0]) (rest := []) ⟨hx, hb, hml, hown, hts⟩ (e_told l hfl D y ad hS9 hw (nI k) (nI (p + 1)) 0 s.heap.size) (vx_cwSW 5 hts gL_areNested_L_does rfl rfl rfl (by decide +kernel) ⟨Nat.le_of_ble_eq_true rfl, Nat.le_of_ble_eq_true rfl⟩) (gPN_SA hP hD hK hE hN hS hA) rfl rfl hl.1 rfl (lv_room (Nat.le_of_ble_eq_true rfl)) dL_areNested_10 ⟨Nat.le_of_ble_eq_true rfl, Nat.le_of_ble_eq_true rfl⟩) hP hD hS hA (fun v9 w1 H locs hf hP hD hS => ?_)
        obtain ⟨rfl, hw⟩ := hf
        refine g_topl (y := -2100000000) ((hS9.toldr hk hp _).trans (dRaw_n hn hk hp hf0 _)) ?_
        refine lv_lstore (lv' := [(5, .long (-2100000000)), (3, .long (-2100000000)), (0, .ref h), (1, .int (nI k)), (2, .int (nI (p + 1)))]) hx hb dL_areNested_13 hl (by decide) rfl (fun ls hl => ?_)
        refine lv_aload_n hx hb dL_areNested_15 rfl (lv_at hl 2 rfl) ?_
        refine lv_bipush (v := 9) hx hb dL_areNested_16 (by decide) ?_
        refine lv_iload_n hx hb dL_areNested_18 rfl (lv_at hl 3 rfl) ?_
        refine lv_iload_n hx hb dL_areNested_19 rfl (lv_at hl 4 rfl) ?_
        refine lv_iconst (v := 1) hx hb dL_areNested_20 (by decide) ?_
        refine g_callN (ws := []) (wc := w1) (vx_runSW (As := [.ref h, .int 9, .int (nI k), .int (nI (p + 1)), .int 1]) (rest := []) ⟨hx, hb, hml, hown, hts⟩ (e_told l hfl D y ad hS9 hw (nI k) (nI (p + 1)) 1 H.size) (vx_cwSW 5 hts gL_areNested_L_does rfl rfl rfl (by decide +kernel) ⟨Nat.le_of_ble_eq_true rfl, Nat.le_of_ble_eq_true rfl⟩) (gPN_SA hP hD hK hE hN hS hA) rfl rfl hl.1 rfl (lv_room (Nat.le_of_ble_eq_true rfl)) dL_areNested_21 ⟨Nat.le_of_ble_eq_true rfl, Nat.le_of_ble_eq_true rfl⟩) hP hD hS hA (fun v9 w2 H locs hf hP hD hS => ?_)
        obtain ⟨rfl, hw⟩ := hf
        refine g_topl (y := -2100000000) ((hS9.toldr hk hp _).trans (dRaw_n hn hk hp hf0 _)) ?_
        refine lv_lstore (lv' := [(7, .long (-2100000000)), (5, .long (-2100000000)), (3, .long (-2100000000)), (0, .ref h), (1, .int (nI k)), (2, .int (nI (p + 1)))]) hx hb dL_areNested_24 hl (by decide) rfl (fun ls hl => ?_)
        refine lv_aload_n hx hb dL_areNested_26 rfl (lv_at hl 3 rfl) ?_
        refine lv_bipush (v := 8) hx hb dL_areNested_27 (by decide) ?_
        refine lv_iload_n hx hb dL_areNested_29 rfl (lv_at hl 4 rfl) ?_
        refine lv_iload_n hx hb dL_areNested_30 rfl (lv_at hl 5 rfl) ?_
        refine lv_iconst (v := 0) hx hb dL_areNested_31 (by decide) ?_
        refine g_callN (ws := []) (wc := w2) (vx_runSW (As := [.ref h, .int 8, .int (nI k), .int (nI (p + 1)), .int 0]) (rest := []) ⟨hx, hb, hml, hown, hts⟩ (e_raw l hfl D y ad hS9 hw (nI k) (nI (p + 1)) 0 H.size) (vx_cwSW 5 hts gL_areNested_L_does rfl rfl rfl (by decide +kernel) ⟨Nat.le_of_ble_eq_true rfl, Nat.le_of_ble_eq_true rfl⟩) (gPN_SA hP hD hK hE hN hS hA) rfl rfl hl.1 rfl (lv_room (Nat.le_of_ble_eq_true rfl)) dL_areNested_32 ⟨Nat.le_of_ble_eq_true rfl, Nat.le_of_ble_eq_true rfl⟩) hP hD hS hA (fun v9 w3 H locs hf hP hD hS => ?_)
        obtain ⟨rfl, hw⟩ := hf
        refine g_topl (y := -2100000000) (dRaw_n hn hk hp hf0 _) ?_
        refine lv_lstore (lv' := [(9, .long (-2100000000)), (7, .long (-2100000000)), (5, .long (-2100000000)), (3, .long (-2100000000)), (0, .ref h), (1, .int (nI k)), (2, .int (nI (p + 1)))]) hx hb dL_areNested_35 hl (by decide) rfl (fun ls hl => ?_)
        refine lv_aload_n hx hb dL_areNested_37 rfl (lv_at hl 4 rfl) ?_
        refine lv_bipush (v := 8) hx hb dL_areNested_38 (by decide) ?_
        refine lv_iload_n hx hb dL_areNested_40 rfl (lv_at hl 5 rfl) ?_
        refine lv_iload_n hx hb dL_areNested_41 rfl (lv_at hl 6 rfl) ?_
        refine lv_iconst (v := 1) hx hb dL_areNested_42 (by decide) ?_
        refine g_callN (ws := []) (wc := w3) (vx_runSW (As := [.ref h, .int 8, .int (nI k), .int (nI (p + 1)), .int 1]) (rest := []) ⟨hx, hb, hml, hown, hts⟩ (e_raw l hfl D y ad hS9 hw (nI k) (nI (p + 1)) 1 H.size) (vx_cwSW 5 hts gL_areNested_L_does rfl rfl rfl (by decide +kernel) ⟨Nat.le_of_ble_eq_true rfl, Nat.le_of_ble_eq_true rfl⟩) (gPN_SA hP hD hK hE hN hS hA) rfl rfl hl.1 rfl (lv_room (Nat.le_of_ble_eq_true rfl)) dL_areNested_43 ⟨Nat.le_of_ble_eq_true rfl, Nat.le_of_ble_eq_true rfl⟩) hP hD hS hA (fun v9 w4 H locs hf hP hD hS => ?_)
        obtain ⟨rfl, hw⟩ := hf
        refine g_topl (y := -2100000000) (dRaw_n hn hk hp hf0 _) ?_
        refine lv_lstore (lv' := [(11, .long (-2100000000)), (9, .long (-2100000000)), (7, .long (-2100000000)), (5, .long (-2100000000)), (3, .long (-2100000000)), (0, .ref h), (1, .int (nI k)), (2, .int (nI (p + 1)))]) hx hb dL_areNested_46 hl (by decide) rfl (fun ls hl => ?_)
        refine lv_iload_n hx hb dL_areNested_48 rfl (lv_at hl 7 rfl) ?_
        refine lv_if_ne (tgt := 56) hx hb dL_areNested_49 (by decide) (fun c_49 => ?_) (fun c_49 => absurd c_49 z9)
        refine lv_aload_n hx hb dL_areNested_56 rfl (lv_at hl 5 rfl) ?_
        refine lv_bipush (v := 9) hx hb dL_areNested_57 (by decide) ?_
        refine lv_iload_n hx hb dL_areNested_59 rfl (lv_at hl 6 rfl) ?_
        refine lv_iload_n hx hb dL_areNested_60 rfl (lv_at hl 7 rfl) ?_
        refine lv_iconst (v := 1) hx hb dL_areNested_61 (by decide) ?_
        refine lv_isub hx hb dL_areNested_62 ?_
        refine g_topi (y := nI p) (nI_pred p) ?_
        refine lv_iconst (v := 0) hx hb dL_areNested_63 (by decide) ?_
        refine g_callN (ws := []) (wc := w4) (vx_runSW (As := [.ref h, .int 9, .int (nI k), .int (nI p), .int 0]) (rest := []) ⟨hx, hb, hml, hown, hts⟩ (e_told l hfl D y ad hS9 hw (nI k) (nI p) 0 H.size) (vx_cwSW 5 hts gL_areNested_L_does rfl rfl rfl (by decide +kernel) ⟨Nat.le_of_ble_eq_true rfl, Nat.le_of_ble_eq_true rfl⟩) (gPN_SA hP hD hK hE hN hS hA) rfl rfl hl.1 rfl (lv_room (Nat.le_of_ble_eq_true rfl)) dL_areNested_64 ⟨Nat.le_of_ble_eq_true rfl, Nat.le_of_ble_eq_true rfl⟩) hP hD hS hA (fun v9 w5 H locs hf hP hD hS => ?_)
        obtain ⟨rfl, hw⟩ := hf
        refine g_topl (y := -2100000000) ((hS9.toldr hk (by omega) _).trans (dRaw_n hn hk (by omega) ha _)) ?_
        refine lv_lstore (lv' := [(13, .long (-2100000000)), (11, .long (-2100000000)), (9, .long (-2100000000)), (7, .long (-2100000000)), (5, .long (-2100000000)), (3, .long (-2100000000)), (0, .ref h), (1, .int (nI k)), (2, .int (nI (p + 1)))]) hx hb dL_areNested_67 hl (by decide) rfl (fun ls hl => ?_)
        refine lv_iload_n hx hb dL_areNested_69 rfl (lv_at hl 8 rfl) ?_
        refine lv_if_ne (tgt := 77) hx hb dL_areNested_70 (by decide) (fun c_70 => ?_) (fun c_70 => absurd c_70 z9)
        refine lv_aload_n hx hb dL_areNested_77 rfl (lv_at hl 6 rfl) ?_
        refine lv_bipush (v := 9) hx hb dL_areNested_78 (by decide) ?_
        refine lv_iload_n hx hb dL_areNested_80 rfl (lv_at hl 7 rfl) ?_
        refine lv_iload_n hx hb dL_areNested_81 rfl (lv_at hl 8 rfl) ?_
        refine lv_iconst (v := 1) hx hb dL_areNested_82 (by decide) ?_
        refine lv_isub hx hb dL_areNested_83 ?_
        refine g_topi (y := nI p) (nI_pred p) ?_
        refine lv_iconst (v := 1) hx hb dL_areNested_84 (by decide) ?_
        refine g_callN (ws := []) (wc := w5) (vx_runSW (As := [.ref h, .int 9, .int (nI k), .int (nI p), .int 1]) (rest := []) ⟨hx, hb, hml, hown, hts⟩ (e_told l hfl D y ad hS9 hw (nI k) (nI p) 1 H.size) (vx_cwSW 5 hts gL_areNested_L_does rfl rfl rfl (by decide +kernel) ⟨Nat.le_of_ble_eq_true rfl, Nat.le_of_ble_eq_true rfl⟩) (gPN_SA hP hD hK hE hN hS hA) rfl rfl hl.1 rfl (lv_room (Nat.le_of_ble_eq_true rfl)) dL_areNested_85 ⟨Nat.le_of_ble_eq_true rfl, Nat.le_of_ble_eq_true rfl⟩) hP hD hS hA (fun v9 w6 H locs hf hP hD hS => ?_)
        obtain ⟨rfl, hw⟩ := hf
        refine g_topl (y := -2100000000) ((hS9.toldr hk (by omega) _).trans (dRaw_n hn hk (by omega) ha _)) ?_
        refine lv_lstore (lv' := [(15, .long (-2100000000)), (13, .long (-2100000000)), (11, .long (-2100000000)), (9, .long (-2100000000)), (7, .long (-2100000000)), (5, .long (-2100000000)), (3, .long (-2100000000)), (0, .ref h), (1, .int (nI k)), (2, .int (nI (p + 1)))]) hx hb dL_areNested_88 hl (by decide) rfl (fun ls hl => ?_)
        refine lv_lload hx hb dL_areNested_90 (lv_at hl 5 rfl) ?_
        refine lv_lload_n hx hb dL_areNested_92 rfl (lv_at hl 6 rfl) ?_
        refine g_ne (tgt := 101) hx hb dL_areNested_93 dL_areNested_94 (by decide) (fun c_93 => absurd c_93 (by decide)) (fun c_93 => ?_)
        refine lv_iconst (v := 1) hx hb dL_areNested_97 (by decide) ?_
        refine lv_goto (tgt := 102) hx hb dL_areNested_98 (by decide) ?_
        refine lv_lload hx hb dL_areNested_102 (lv_at hl 4 rfl) ?_
        refine lv_lload_n hx hb dL_areNested_104 rfl (lv_at hl 6 rfl) ?_
        refine g_ne (tgt := 113) hx hb dL_areNested_105 dL_areNested_106 (by decide) (fun c_105 => absurd c_105 (by decide)) (fun c_105 => ?_)
        refine lv_iconst (v := 1) hx hb dL_areNested_109 (by decide) ?_
        refine lv_goto (tgt := 114) hx hb dL_areNested_110 (by decide) ?_
        refine lv_icmp_ne (tgt := 182) hx hb dL_areNested_114 (by decide) (fun c_114 => absurd c_114 (by decide)) (fun c_114 => ?_)
        refine lv_lload hx hb dL_areNested_117 (lv_at hl 3 rfl) ?_
        refine lv_lload_n hx hb dL_areNested_119 rfl (lv_at hl 6 rfl) ?_
        refine g_eq (tgt := 147) hx hb dL_areNested_120 dL_areNested_121 (by decide) (fun c_120 => ?_) (fun c_120 => absurd c_120 (by decide))
        refine lv_lload hx hb dL_areNested_147 (lv_at hl 1 rfl) ?_
        refine lv_lload_n hx hb dL_areNested_149 rfl (lv_at hl 6 rfl) ?_
        refine g_eq (tgt := 178) hx hb dL_areNested_150 dL_areNested_151 (by decide) (fun c_150 => ?_) (fun c_150 => absurd c_150 (by decide))
        refine lv_iconst (v := 1) hx hb dL_areNested_178 (by decide) ?_
        refine lv_goto (tgt := 183) hx hb dL_areNested_179 (by decide) ?_
        refine lv_istore (lv' := [(17, .int 1), (15, .long (-2100000000)), (13, .long (-2100000000)), (11, .long (-2100000000)), (9, .long (-2100000000)), (7, .long (-2100000000)), (5, .long (-2100000000)), (3, .long (-2100000000)), (0, .ref h), (1, .int (nI k)), (2, .int (nI (p + 1)))]) hx hb dL_areNested_183 hl (by decide) rfl (fun ls hl => ?_)
        refine lv_iload hx hb dL_areNested_185 (lv_at hl 0 rfl) ?_
        refine lv_if_eq (tgt := 240) hx hb dL_areNested_187 (by decide) (fun c_187 => absurd c_187 (by decide)) (fun c_187 => ?_)
        refine lv_lload hx hb dL_areNested_190 (lv_at hl 6 rfl) ?_
        refine lv_lload_n hx hb dL_areNested_192 rfl (lv_at hl 7 rfl) ?_
        refine g_eq (tgt := 215) hx hb dL_areNested_193 dL_areNested_194 (by decide) (fun c_193 => ?_) (fun c_193 => absurd c_193 (by decide))
        refine lv_lload hx hb dL_areNested_215 (lv_at hl 6 rfl) ?_
        refine lv_lload_n hx hb dL_areNested_217 rfl (lv_at hl 7 rfl) ?_
        refine g_ne (tgt := 236) hx hb dL_areNested_218 dL_areNested_219 (by decide) (fun c_218 => absurd c_218 (by decide)) (fun c_218 => ?_)
        refine lv_lload hx hb dL_areNested_222 (lv_at hl 4 rfl) ?_
        refine lv_lload_n hx hb dL_areNested_224 rfl (lv_at hl 7 rfl) ?_
        refine g_ne (tgt := 240) hx hb dL_areNested_225 dL_areNested_226 (by decide) (fun c_225 => absurd c_225 (by decide)) (fun c_225 => ?_)
        refine lv_lload hx hb dL_areNested_229 (lv_at hl 2 rfl) ?_
        refine lv_lload_n hx hb dL_areNested_231 rfl (lv_at hl 7 rfl) ?_
        refine g_ne (tgt := 240) hx hb dL_areNested_232 dL_areNested_233 (by decide) (fun c_232 => absurd c_232 (by decide)) (fun c_232 => ?_)
        refine lv_iconst (v := 1) hx hb dL_areNested_236 (by decide) ?_
        refine lv_goto (tgt := 241) hx hb dL_areNested_237 (by decide) ?_
        refine W.widen (k := 6) (n := 36) (Nat.le_of_ble_eq_true rfl) (Nat.le_of_ble_eq_true rfl) ?_
        exact W.zret (v := 1) hx hb hr (by decide) (fun t ht hW => ⟨⟨_, w6, rfl, ⟨rfl, hw⟩, by rw [← hAe]; exact hD, by rw [ht]; exact hP⟩, by rw [← hAe]; exact hS.F ht⟩) (by rw [← hAe]; exact hS.2.2) dL_areNested_241
set_option maxHeartbeats 4000000 in
set_option maxRecDepth 100000 in
theorem c_L_isKept (l : Launch) (hfl : l.stackTraces = false) (D : va_G) (y : Nat → ClassId) (ad : Nat → Nat) {S : St} (hS9 : SI S) {h : Nat} {w : va_W} (hw : OW y ad h S w) {k j p q : Nat} (hk : k < sN S) (hj : j < sN S) (hpq : p ≤ q) (hq : q < 25) (sz : Nat) : Met l yL_isKept wsL_isKept ({ frames := 12, cells := 10, slots := 60, locals := 440 } : Room) (gPN D y ad [.ref h, .int (nI k), .int (nI j), .int (nI p), .int (nI q)] w sz) (gQn D w (fun v w1 => v = some (.int 1) ∧ OW y ad h S w1)) 10 60 (va_A w sz) := by
  have hn := hS9.1
  have hp : p < 25 := by omega
  by_cases s0 : (vSd S k p).toInt64 < 0
  · skip
    refine Met.ofW (cc := cL_isKept) (maxL := 15) (ret := (some .boolean)) (by decide) rfl ?_
    intro pg e s m args below meth c s₁ B hml hv
    obtain ⟨rfl, ⟨hsz, hP, hK, hD0, hE0⟩, hN⟩ := hv
    have hx := B.exec
    have hb := B.bytes
    have hr := B.returns
    have hts := atoms_spec (ws := wsL_isKept) B.pre
    have hown : s.vm.findClass RL = some m.cls := findClass_of_methodNamed B.named
    have hlocks := B.notSynchronized
    subst hsz
    obtain ⟨A, hAe⟩ : ∃ A : Nat → Prop, A = va_A w s.heap.size := ⟨_, rfl⟩
    have hE : gE ad A s s.heap := by rw [hAe]; exact hE0
    have hD : va_D A w := by rw [hAe]; exact hD0.self (sz := s.heap.size)
    have hA : ∀ q : Nat, s.heap.size ≤ q → A q := fun q h => by rw [hAe]; exact Or.inr h
    have hS : va_S A s.heap s.heap [] := va_S.rf
    have hl := lv_entry ([.ref h, .int (nI k), .int (nI j), .int (nI p), .int (nI q)]) (n := 15) (Nat.le_of_ble_eq_true rfl)
    rw [lg_entry_eq]
    generalize (lg_sl ([.ref h, .int (nI k), .int (nI j), .int (nI p), .int (nI q)]) ++ List.replicate (15 - (lg_sl ([.ref h, .int (nI k), .int (nI j), .int (nI p), .int (nI q)])).length) Slot.unset).toArray = ls at hl ⊢
    have hl : lv_has ls 15 [(0, .ref h), (1, .int (nI k)), (2, .int (nI j)), (3, .int (nI p)), (4, .int (nI q))] := hl
    refine lv_aload_n hx hb dL_isKept_0 rfl (lv_at hl 0 rfl) ?_
    refine lv_bipush (v := 13) hx hb dL_isKept_1 (by decide) ?_
    refine lv_iload_n hx hb dL_isKept_3 rfl (lv_at hl 1 rfl) ?_
    refine lv_iload_n hx hb dL_isKept_4 rfl (lv_at hl 3 rfl) ?_
    refine lv_iconst (v := 0) hx hb dL_isKept_5 (by decide) ?_
    refine g_callN (ws := []) (wc := w) (vx_runSW (As := [.ref h, .int 13, .int (nI k), .int (nI p), .int 0]) (rest := []) ⟨hx, hb, hml, hown, hts⟩ (e_decimals l hfl D y ad hS9 hw (nI k) (nI p) 0 s.heap.size) (vx_cwSW 5 hts gL_isKept_L_does rfl rfl rfl (by decide +kernel) ⟨Nat.le_of_ble_eq_true rfl, Nat.le_of_ble_eq_true rfl⟩) (gPN_SA hP hD hK hE hN hS hA) rfl rfl hl.1 rfl (lv_room (Nat.le_of_ble_eq_true rfl)) dL_isKept_6 ⟨Nat.le_of_ble_eq_true rfl, Nat.le_of_ble_eq_true rfl⟩) hP hD hS hA (fun v9 w1 H locs hf hP hD hS => ?_)
    obtain ⟨rfl, hw⟩ := hf
    refine g_topl (y := (vSd S k p).toInt64) (hS9.decs hk hp) ?_
    refine lv_lstore (lv' := [(5, .long ((vSd S k p).toInt64)), (0, .ref h), (1, .int (nI k)), (2, .int (nI j)), (3, .int (nI p)), (4, .int (nI q))]) hx hb dL_isKept_9 hl (by decide) rfl (fun ls hl => ?_)
    refine lv_aload_n hx hb dL_isKept_11 rfl (lv_at hl 1 rfl) ?_
    refine lv_bipush (v := 13) hx hb dL_isKept_12 (by decide) ?_
    refine lv_iload_n hx hb dL_isKept_14 rfl (lv_at hl 2 rfl) ?_
    refine lv_iload hx hb dL_isKept_15 (lv_at hl 5 rfl) ?_
    refine lv_iconst (v := 0) hx hb dL_isKept_17 (by decide) ?_
    refine g_callN (ws := []) (wc := w1) (vx_runSW (As := [.ref h, .int 13, .int (nI k), .int (nI q), .int 0]) (rest := []) ⟨hx, hb, hml, hown, hts⟩ (e_decimals l hfl D y ad hS9 hw (nI k) (nI q) 0 H.size) (vx_cwSW 5 hts gL_isKept_L_does rfl rfl rfl (by decide +kernel) ⟨Nat.le_of_ble_eq_true rfl, Nat.le_of_ble_eq_true rfl⟩) (gPN_SA hP hD hK hE hN hS hA) rfl rfl hl.1 rfl (lv_room (Nat.le_of_ble_eq_true rfl)) dL_isKept_18 ⟨Nat.le_of_ble_eq_true rfl, Nat.le_of_ble_eq_true rfl⟩) hP hD hS hA (fun v9 w2 H locs hf hP hD hS => ?_)
    obtain ⟨rfl, hw⟩ := hf
    refine g_topl (y := (vSd S k q).toInt64) (hS9.decs hk hq) ?_
    refine lv_lstore (lv' := [(7, .long ((vSd S k q).toInt64)), (5, .long ((vSd S k p).toInt64)), (0, .ref h), (1, .int (nI k)), (2, .int (nI j)), (3, .int (nI p)), (4, .int (nI q))]) hx hb dL_isKept_21 hl (by decide) rfl (fun ls hl => ?_)
    refine lv_lload hx hb dL_isKept_23 (lv_at hl 1 rfl) ?_
    refine lv_lconst (v := 0) hx hb dL_isKept_25 (by decide) ?_
    refine g_ge (tgt := 34) hx hb dL_isKept_26 dL_isKept_27 (by decide) (fun c_26 => absurd c_26 (Int64.not_le.mpr s0)) (fun c_26 => ?_)
    refine lv_iconst (v := 0) hx hb dL_isKept_30 (by decide) ?_
    refine lv_goto (tgt := 37) hx hb dL_isKept_31 (by decide) ?_
    refine lv_istore (lv' := [(9, .int 0), (7, .long ((vSd S k q).toInt64)), (5, .long ((vSd S k p).toInt64)), (0, .ref h), (1, .int (nI k)), (2, .int (nI j)), (3, .int (nI p)), (4, .int (nI q))]) hx hb dL_isKept_37 hl (by decide) rfl (fun ls hl => ?_)
    refine lv_aload_n hx hb dL_isKept_39 rfl (lv_at hl 3 rfl) ?_
    refine lv_bipush (v := 15) hx hb dL_isKept_40 (by decide) ?_
    refine lv_iload_n hx hb dL_isKept_42 rfl (lv_at hl 4 rfl) ?_
    refine lv_iload_n hx hb dL_isKept_43 rfl (lv_at hl 6 rfl) ?_
    refine lv_iconst (v := 1) hx hb dL_isKept_44 (by decide) ?_
    refine g_callN (ws := []) (wc := w2) (vx_runSW (As := [.ref h, .int 15, .int (nI k), .int (nI p), .int 1]) (rest := []) ⟨hx, hb, hml, hown, hts⟩ (e_quotient l hfl D y ad hS9 hw (nI k) (nI p) 1 H.size) (vx_cwSW 5 hts gL_isKept_L_does rfl rfl rfl (by decide +kernel) ⟨Nat.le_of_ble_eq_true rfl, Nat.le_of_ble_eq_true rfl⟩) (gPN_SA hP hD hK hE hN hS hA) rfl rfl hl.1 rfl (lv_room (Nat.le_of_ble_eq_true rfl)) dL_isKept_45 ⟨Nat.le_of_ble_eq_true rfl, Nat.le_of_ble_eq_true rfl⟩) hP hD hS hA (fun v9 w3 H locs hf hP hD hS => ?_)
    obtain ⟨rfl, hw⟩ := hf
    refine lv_lstore (lv' := [(10, .long (dQuo S (nI k) (nI p) 1)), (9, .int 0), (7, .long ((vSd S k q).toInt64)), (5, .long ((vSd S k p).toInt64)), (0, .ref h), (1, .int (nI k)), (2, .int (nI j)), (3, .int (nI p)), (4, .int (nI q))]) hx hb dL_isKept_48 hl (by decide) rfl (fun ls hl => ?_)
    refine lv_aload_n hx hb dL_isKept_50 rfl (lv_at hl 4 rfl) ?_
    refine lv_bipush (v := 11) hx hb dL_isKept_51 (by decide) ?_
    refine lv_iload_n hx hb dL_isKept_53 rfl (lv_at hl 5 rfl) ?_
    refine lv_iload_n hx hb dL_isKept_54 rfl (lv_at hl 6 rfl) ?_
    refine lv_iload_n hx hb dL_isKept_55 rfl (lv_at hl 7 rfl) ?_
    refine g_callN (ws := []) (wc := w3) (vx_runSW (As := [.ref h, .int 11, .int (nI k), .int (nI j), .int (nI p)]) (rest := []) ⟨hx, hb, hml, hown, hts⟩ (e_compare l hfl D y ad hS9 hw (nI k) (nI j) (nI p) H.size) (vx_cwSW 5 hts gL_isKept_L_does rfl rfl rfl (by decide +kernel) ⟨Nat.le_of_ble_eq_true rfl, Nat.le_of_ble_eq_true rfl⟩) (gPN_SA hP hD hK hE hN hS hA) rfl rfl hl.1 rfl (lv_room (Nat.le_of_ble_eq_true rfl)) dL_isKept_56 ⟨Nat.le_of_ble_eq_true rfl, Nat.le_of_ble_eq_true rfl⟩) hP hD hS hA (fun v9 w4 H locs hf hP hD hS => ?_)
    obtain ⟨rfl, hw⟩ := hf
    refine lv_lstore (lv' := [(12, .long (dComp S (nI k) (nI j) (nI p))), (10, .long (dQuo S (nI k) (nI p) 1)), (9, .int 0), (7, .long ((vSd S k q).toInt64)), (5, .long ((vSd S k p).toInt64)), (0, .ref h), (1, .int (nI k)), (2, .int (nI j)), (3, .int (nI p)), (4, .int (nI q))]) hx hb dL_isKept_59 hl (by decide) rfl (fun ls hl => ?_)
    refine lv_lload hx hb dL_isKept_61 (lv_at hl 3 rfl) ?_
    refine lv_lload hx hb dL_isKept_63 (lv_at hl 4 rfl) ?_
    refine g_lt (tgt := 130) hx hb dL_isKept_65 dL_isKept_66 (by decide) (fun c_65 => absurd c_65 (hS9.sd_keep hk hpq hq)) (fun c_65 => ?_)
    refine lv_lload hx hb dL_isKept_69 (lv_at hl 4 rfl) ?_
    refine lv_lconst (v := 0) hx hb dL_isKept_71 (by decide) ?_
    refine g_lt (tgt := 101) hx hb dL_isKept_72 dL_isKept_73 (by decide) (fun c_72 => ?_) (fun c_72 => absurd s0 c_72)
    refine lv_lload hx hb dL_isKept_101 (lv_at hl 1 rfl) ?_
    refine lv_ldc2 (v := -2100000000) hx hb hown (hts (.constantLong RL 62 (-2100000000)) (List.mem_of_getElem? (i := 1) rfl)) dL_isKept_103 ?_
    refine g_eq (tgt := 126) hx hb dL_isKept_106 dL_isKept_107 (by decide) (fun c_106 => ?_) (fun c_106 => ?_)
    · skip
      refine lv_iconst (v := 1) hx hb dL_isKept_126 (by decide) ?_
      refine lv_goto (tgt := 131) hx hb dL_isKept_127 (by decide) ?_
      refine lv_istore (lv' := [(14, .int 1), (12, .long (dComp S (nI k) (nI j) (nI p))), (10, .long (dQuo S (nI k) (nI p) 1)), (9, .int 0), (7, .long ((vSd S k q).toInt64)), (5, .long ((vSd S k p).toInt64)), (0, .ref h), (1, .int (nI k)), (2, .int (nI j)), (3, .int (nI p)), (4, .int (nI q))]) hx hb dL_isKept_131 hl (by decide) rfl (fun ls hl => ?_)
      refine lv_iload hx hb dL_isKept_133 (lv_at hl 0 rfl) ?_
      refine lv_if_eq (tgt := 196) hx hb dL_isKept_135 (by decide) (fun c_135 => absurd c_135 (by decide)) (fun c_135 => ?_)
      refine lv_lload hx hb dL_isKept_138 (lv_at hl 1 rfl) ?_
      refine lv_lconst (v := 0) hx hb dL_isKept_140 (by decide) ?_
      refine g_eq (tgt := 178) hx hb dL_isKept_141 dL_isKept_142 (by decide) (fun c_141 => ?_) (fun c_141 => ?_)
      · skip
        refine lv_aload_n hx hb dL_isKept_178 rfl (lv_at hl 6 rfl) ?_
        refine lv_bipush (v := 11) hx hb dL_isKept_179 (by decide) ?_
        refine lv_iload_n hx hb dL_isKept_181 rfl (lv_at hl 7 rfl) ?_
        refine lv_iload_n hx hb dL_isKept_182 rfl (lv_at hl 7 rfl) ?_
        refine lv_iload_n hx hb dL_isKept_183 rfl (lv_at hl 9 rfl) ?_
        refine g_callN (ws := []) (wc := w4) (vx_runSW (As := [.ref h, .int 11, .int (nI k), .int (nI k), .int (nI p)]) (rest := []) ⟨hx, hb, hml, hown, hts⟩ (e_compare l hfl D y ad hS9 hw (nI k) (nI k) (nI p) H.size) (vx_cwSW 5 hts gL_isKept_L_does rfl rfl rfl (by decide +kernel) ⟨Nat.le_of_ble_eq_true rfl, Nat.le_of_ble_eq_true rfl⟩) (gPN_SA hP hD hK hE hN hS hA) rfl rfl hl.1 rfl (lv_room (Nat.le_of_ble_eq_true rfl)) dL_isKept_184 ⟨Nat.le_of_ble_eq_true rfl, Nat.le_of_ble_eq_true rfl⟩) hP hD hS hA (fun v9 w5 H locs hf hP hD hS => ?_)
        obtain ⟨rfl, hw⟩ := hf
        refine lv_lconst (v := 0) hx hb dL_isKept_187 (by decide) ?_
        refine g_ne (tgt := 196) hx hb dL_isKept_188 dL_isKept_189 (by decide) (fun c_188 => absurd (hS9.cmp_self hk hp) c_188) (fun c_188 => ?_)
        refine lv_iconst (v := 1) hx hb dL_isKept_192 (by decide) ?_
        refine lv_goto (tgt := 197) hx hb dL_isKept_193 (by decide) ?_
        refine W.widen (k := 10) (n := 60) (Nat.le_of_ble_eq_true rfl) (Nat.le_of_ble_eq_true rfl) ?_
        exact W.zret (v := 1) hx hb hr (by decide) (fun t ht hW => ⟨⟨_, w5, rfl, ⟨rfl, hw⟩, by rw [← hAe]; exact hD, by rw [ht]; exact hP⟩, by rw [← hAe]; exact hS.F ht⟩) (by rw [← hAe]; exact hS.2.2) dL_isKept_197
      · skip
        refine lv_aload_n hx hb dL_isKept_145 rfl (lv_at hl 6 rfl) ?_
        refine lv_bipush (v := 11) hx hb dL_isKept_146 (by decide) ?_
        refine lv_iload_n hx hb dL_isKept_148 rfl (lv_at hl 7 rfl) ?_
        refine lv_iload_n hx hb dL_isKept_149 rfl (lv_at hl 8 rfl) ?_
        refine lv_iload hx hb dL_isKept_150 (lv_at hl 10 rfl) ?_
        refine g_callN (ws := []) (wc := w4) (vx_runSW (As := [.ref h, .int 11, .int (nI k), .int (nI j), .int (nI q)]) (rest := []) ⟨hx, hb, hml, hown, hts⟩ (e_compare l hfl D y ad hS9 hw (nI k) (nI j) (nI q) H.size) (vx_cwSW 5 hts gL_isKept_L_does rfl rfl rfl (by decide +kernel) ⟨Nat.le_of_ble_eq_true rfl, Nat.le_of_ble_eq_true rfl⟩) (gPN_SA hP hD hK hE hN hS hA) rfl rfl hl.1 rfl (lv_room (Nat.le_of_ble_eq_true rfl)) dL_isKept_152 ⟨Nat.le_of_ble_eq_true rfl, Nat.le_of_ble_eq_true rfl⟩) hP hD hS hA (fun v9 w6 H locs hf hP hD hS => ?_)
        obtain ⟨rfl, hw⟩ := hf
        refine lv_lload hx hb dL_isKept_155 (lv_at hl 1 rfl) ?_
        refine g_ne (tgt := 196) hx hb dL_isKept_157 dL_isKept_158 (by decide) (fun c_157 => absurd (hS9.cmp_keep hk hj hpq hq c_141).1 c_157) (fun c_157 => ?_)
        refine lv_aload_n hx hb dL_isKept_161 rfl (lv_at hl 6 rfl) ?_
        refine lv_bipush (v := 11) hx hb dL_isKept_162 (by decide) ?_
        refine lv_iload_n hx hb dL_isKept_164 rfl (lv_at hl 8 rfl) ?_
        refine lv_iload_n hx hb dL_isKept_165 rfl (lv_at hl 7 rfl) ?_
        refine lv_iload hx hb dL_isKept_166 (lv_at hl 10 rfl) ?_
        refine g_callN (ws := []) (wc := w6) (vx_runSW (As := [.ref h, .int 11, .int (nI j), .int (nI k), .int (nI q)]) (rest := []) ⟨hx, hb, hml, hown, hts⟩ (e_compare l hfl D y ad hS9 hw (nI j) (nI k) (nI q) H.size) (vx_cwSW 5 hts gL_isKept_L_does rfl rfl rfl (by decide +kernel) ⟨Nat.le_of_ble_eq_true rfl, Nat.le_of_ble_eq_true rfl⟩) (gPN_SA hP hD hK hE hN hS hA) rfl rfl hl.1 rfl (lv_room (Nat.le_of_ble_eq_true rfl)) dL_isKept_168 ⟨Nat.le_of_ble_eq_true rfl, Nat.le_of_ble_eq_true rfl⟩) hP hD hS hA (fun v9 w7 H locs hf hP hD hS => ?_)
        obtain ⟨rfl, hw⟩ := hf
        refine lv_lload hx hb dL_isKept_171 (lv_at hl 1 rfl) ?_
        refine lv_lneg hx hb dL_isKept_173 ?_
        refine g_ne (tgt := 196) hx hb dL_isKept_174 dL_isKept_175 (by decide) (fun c_174 => absurd (hS9.cmp_keep hk hj hpq hq c_141).2 c_174) (fun c_174 => ?_)
        refine lv_aload_n hx hb dL_isKept_178 rfl (lv_at hl 6 rfl) ?_
        refine lv_bipush (v := 11) hx hb dL_isKept_179 (by decide) ?_
        refine lv_iload_n hx hb dL_isKept_181 rfl (lv_at hl 7 rfl) ?_
        refine lv_iload_n hx hb dL_isKept_182 rfl (lv_at hl 7 rfl) ?_
        refine lv_iload_n hx hb dL_isKept_183 rfl (lv_at hl 9 rfl) ?_
        refine g_callN (ws := []) (wc := w7) (vx_runSW (As := [.ref h, .int 11, .int (nI k), .int (nI k), .int (nI p)]) (rest := []) ⟨hx, hb, hml, hown, hts⟩ (e_compare l hfl D y ad hS9 hw (nI k) (nI k) (nI p) H.size) (vx_cwSW 5 hts gL_isKept_L_does rfl rfl rfl (by decide +kernel) ⟨Nat.le_of_ble_eq_true rfl, Nat.le_of_ble_eq_true rfl⟩) (gPN_SA hP hD hK hE hN hS hA) rfl rfl hl.1 rfl (lv_room (Nat.le_of_ble_eq_true rfl)) dL_isKept_184 ⟨Nat.le_of_ble_eq_true rfl, Nat.le_of_ble_eq_true rfl⟩) hP hD hS hA (fun v9 w8 H locs hf hP hD hS => ?_)
        obtain ⟨rfl, hw⟩ := hf
        refine lv_lconst (v := 0) hx hb dL_isKept_187 (by decide) ?_
        refine g_ne (tgt := 196) hx hb dL_isKept_188 dL_isKept_189 (by decide) (fun c_188 => absurd (hS9.cmp_self hk hp) c_188) (fun c_188 => ?_)
        refine lv_iconst (v := 1) hx hb dL_isKept_192 (by decide) ?_
        refine lv_goto (tgt := 197) hx hb dL_isKept_193 (by decide) ?_
        refine W.widen (k := 10) (n := 60) (Nat.le_of_ble_eq_true rfl) (Nat.le_of_ble_eq_true rfl) ?_
        exact W.zret (v := 1) hx hb hr (by decide) (fun t ht hW => ⟨⟨_, w8, rfl, ⟨rfl, hw⟩, by rw [← hAe]; exact hD, by rw [ht]; exact hP⟩, by rw [← hAe]; exact hS.F ht⟩) (by rw [← hAe]; exact hS.2.2) dL_isKept_197
    · skip
      refine lv_lload hx hb dL_isKept_110 (lv_at hl 1 rfl) ?_
      refine lv_aload_n hx hb dL_isKept_112 rfl (lv_at hl 5 rfl) ?_
      refine lv_bipush (v := 15) hx hb dL_isKept_113 (by decide) ?_
      refine lv_iload_n hx hb dL_isKept_115 rfl (lv_at hl 6 rfl) ?_
      refine lv_iload hx hb dL_isKept_116 (lv_at hl 9 rfl) ?_
      refine lv_iconst (v := 1) hx hb dL_isKept_118 (by decide) ?_
      refine g_callN (ws := []) (wc := w4) (vx_runSW (As := [.ref h, .int 15, .int (nI k), .int (nI q), .int 1]) (rest := [.long (dQuo S (nI k) (nI p) 1)]) ⟨hx, hb, hml, hown, hts⟩ (e_quotient l hfl D y ad hS9 hw (nI k) (nI q) 1 H.size) (vx_cwSW 5 hts gL_isKept_L_does rfl rfl rfl (by decide +kernel) ⟨Nat.le_of_ble_eq_true rfl, Nat.le_of_ble_eq_true rfl⟩) (gPN_SA hP hD hK hE hN hS hA) rfl rfl hl.1 rfl (lv_room (Nat.le_of_ble_eq_true rfl)) dL_isKept_119 ⟨Nat.le_of_ble_eq_true rfl, Nat.le_of_ble_eq_true rfl⟩) hP hD hS hA (fun v9 w9 H locs hf hP hD hS => ?_)
      obtain ⟨rfl, hw⟩ := hf
      refine g_ne (tgt := 130) hx hb dL_isKept_122 dL_isKept_123 (by decide) (fun c_122 => absurd (hS9.quo_keep hk hpq hq c_106) c_122) (fun c_122 => ?_)
      refine lv_iconst (v := 1) hx hb dL_isKept_126 (by decide) ?_
      refine lv_goto (tgt := 131) hx hb dL_isKept_127 (by decide) ?_
      refine lv_istore (lv' := [(14, .int 1), (12, .long (dComp S (nI k) (nI j) (nI p))), (10, .long (dQuo S (nI k) (nI p) 1)), (9, .int 0), (7, .long ((vSd S k q).toInt64)), (5, .long ((vSd S k p).toInt64)), (0, .ref h), (1, .int (nI k)), (2, .int (nI j)), (3, .int (nI p)), (4, .int (nI q))]) hx hb dL_isKept_131 hl (by decide) rfl (fun ls hl => ?_)
      refine lv_iload hx hb dL_isKept_133 (lv_at hl 0 rfl) ?_
      refine lv_if_eq (tgt := 196) hx hb dL_isKept_135 (by decide) (fun c_135 => absurd c_135 (by decide)) (fun c_135 => ?_)
      refine lv_lload hx hb dL_isKept_138 (lv_at hl 1 rfl) ?_
      refine lv_lconst (v := 0) hx hb dL_isKept_140 (by decide) ?_
      refine g_eq (tgt := 178) hx hb dL_isKept_141 dL_isKept_142 (by decide) (fun c_141 => ?_) (fun c_141 => ?_)
      · skip
        refine lv_aload_n hx hb dL_isKept_178 rfl (lv_at hl 6 rfl) ?_
        refine lv_bipush (v := 11) hx hb dL_isKept_179 (by decide) ?_
        refine lv_iload_n hx hb dL_isKept_181 rfl (lv_at hl 7 rfl) ?_
        refine lv_iload_n hx hb dL_isKept_182 rfl (lv_at hl 7 rfl) ?_
        refine lv_iload_n hx hb dL_isKept_183 rfl (lv_at hl 9 rfl) ?_
        refine g_callN (ws := []) (wc := w9) (vx_runSW (As := [.ref h, .int 11, .int (nI k), .int (nI k), .int (nI p)]) (rest := []) ⟨hx, hb, hml, hown, hts⟩ (e_compare l hfl D y ad hS9 hw (nI k) (nI k) (nI p) H.size) (vx_cwSW 5 hts gL_isKept_L_does rfl rfl rfl (by decide +kernel) ⟨Nat.le_of_ble_eq_true rfl, Nat.le_of_ble_eq_true rfl⟩) (gPN_SA hP hD hK hE hN hS hA) rfl rfl hl.1 rfl (lv_room (Nat.le_of_ble_eq_true rfl)) dL_isKept_184 ⟨Nat.le_of_ble_eq_true rfl, Nat.le_of_ble_eq_true rfl⟩) hP hD hS hA (fun v9 w10 H locs hf hP hD hS => ?_)
        obtain ⟨rfl, hw⟩ := hf
        refine lv_lconst (v := 0) hx hb dL_isKept_187 (by decide) ?_
        refine g_ne (tgt := 196) hx hb dL_isKept_188 dL_isKept_189 (by decide) (fun c_188 => absurd (hS9.cmp_self hk hp) c_188) (fun c_188 => ?_)
        refine lv_iconst (v := 1) hx hb dL_isKept_192 (by decide) ?_
        refine lv_goto (tgt := 197) hx hb dL_isKept_193 (by decide) ?_
        refine W.widen (k := 10) (n := 60) (Nat.le_of_ble_eq_true rfl) (Nat.le_of_ble_eq_true rfl) ?_
        exact W.zret (v := 1) hx hb hr (by decide) (fun t ht hW => ⟨⟨_, w10, rfl, ⟨rfl, hw⟩, by rw [← hAe]; exact hD, by rw [ht]; exact hP⟩, by rw [← hAe]; exact hS.F ht⟩) (by rw [← hAe]; exact hS.2.2) dL_isKept_197
      · skip
        refine lv_aload_n hx hb dL_isKept_145 rfl (lv_at hl 6 rfl) ?_
        refine lv_bipush (v := 11) hx hb dL_isKept_146 (by decide) ?_
        refine lv_iload_n hx hb dL_isKept_148 rfl (lv_at hl 7 rfl) ?_
        refine lv_iload_n hx hb dL_isKept_149 rfl (lv_at hl 8 rfl) ?_
        refine lv_iload hx hb dL_isKept_150 (lv_at hl 10 rfl) ?_
        refine g_callN (ws := []) (wc := w9) (vx_runSW (As := [.ref h, .int 11, .int (nI k), .int (nI j), .int (nI q)]) (rest := []) ⟨hx, hb, hml, hown, hts⟩ (e_compare l hfl D y ad hS9 hw (nI k) (nI j) (nI q) H.size) (vx_cwSW 5 hts gL_isKept_L_does rfl rfl rfl (by decide +kernel) ⟨Nat.le_of_ble_eq_true rfl, Nat.le_of_ble_eq_true rfl⟩) (gPN_SA hP hD hK hE hN hS hA) rfl rfl hl.1 rfl (lv_room (Nat.le_of_ble_eq_true rfl)) dL_isKept_152 ⟨Nat.le_of_ble_eq_true rfl, Nat.le_of_ble_eq_true rfl⟩) hP hD hS hA (fun v9 w11 H locs hf hP hD hS => ?_)
        obtain ⟨rfl, hw⟩ := hf
        refine lv_lload hx hb dL_isKept_155 (lv_at hl 1 rfl) ?_
        refine g_ne (tgt := 196) hx hb dL_isKept_157 dL_isKept_158 (by decide) (fun c_157 => absurd (hS9.cmp_keep hk hj hpq hq c_141).1 c_157) (fun c_157 => ?_)
        refine lv_aload_n hx hb dL_isKept_161 rfl (lv_at hl 6 rfl) ?_
        refine lv_bipush (v := 11) hx hb dL_isKept_162 (by decide) ?_
        refine lv_iload_n hx hb dL_isKept_164 rfl (lv_at hl 8 rfl) ?_
        refine lv_iload_n hx hb dL_isKept_165 rfl (lv_at hl 7 rfl) ?_
        refine lv_iload hx hb dL_isKept_166 (lv_at hl 10 rfl) ?_
        refine g_callN (ws := []) (wc := w11) (vx_runSW (As := [.ref h, .int 11, .int (nI j), .int (nI k), .int (nI q)]) (rest := []) ⟨hx, hb, hml, hown, hts⟩ (e_compare l hfl D y ad hS9 hw (nI j) (nI k) (nI q) H.size) (vx_cwSW 5 hts gL_isKept_L_does rfl rfl rfl (by decide +kernel) ⟨Nat.le_of_ble_eq_true rfl, Nat.le_of_ble_eq_true rfl⟩) (gPN_SA hP hD hK hE hN hS hA) rfl rfl hl.1 rfl (lv_room (Nat.le_of_ble_eq_true rfl)) dL_isKept_168 ⟨Nat.le_of_ble_eq_true rfl, Nat.le_of_ble_eq_true rfl⟩) hP hD hS hA (fun v9 w12 H locs hf hP hD hS => ?_)
        obtain ⟨rfl, hw⟩ := hf
        refine lv_lload hx hb dL_isKept_171 (lv_at hl 1 rfl) ?_
        refine lv_lneg hx hb dL_isKept_173 ?_
        refine g_ne (tgt := 196) hx hb dL_isKept_174 dL_isKept_175 (by decide) (fun c_174 => absurd (hS9.cmp_keep hk hj hpq hq c_141).2 c_174) (fun c_174 => ?_)
        refine lv_aload_n hx hb dL_isKept_178 rfl (lv_at hl 6 rfl) ?_
        refine lv_bipush (v := 11) hx hb dL_isKept_179 (by decide) ?_
        refine lv_iload_n hx hb dL_isKept_181 rfl (lv_at hl 7 rfl) ?_
        refine lv_iload_n hx hb dL_isKept_182 rfl (lv_at hl 7 rfl) ?_
        refine lv_iload_n hx hb dL_isKept_183 rfl (lv_at hl 9 rfl) ?_
        refine g_callN (ws := []) (wc := w12) (vx_runSW (As := [.ref h, .int 11, .int (nI k), .int (nI k), .int (nI p)]) (rest := []) ⟨hx, hb, hml, hown, hts⟩ (e_compare l hfl D y ad hS9 hw (nI k) (nI k) (nI p) H.size) (vx_cwSW 5 hts gL_isKept_L_does rfl rfl rfl (by decide +kernel) ⟨Nat.le_of_ble_eq_true rfl, Nat.le_of_ble_eq_true rfl⟩) (gPN_SA hP hD hK hE hN hS hA) rfl rfl hl.1 rfl (lv_room (Nat.le_of_ble_eq_true rfl)) dL_isKept_184 ⟨Nat.le_of_ble_eq_true rfl, Nat.le_of_ble_eq_true rfl⟩) hP hD hS hA (fun v9 w13 H locs hf hP hD hS => ?_)
        obtain ⟨rfl, hw⟩ := hf
        refine lv_lconst (v := 0) hx hb dL_isKept_187 (by decide) ?_
        refine g_ne (tgt := 196) hx hb dL_isKept_188 dL_isKept_189 (by decide) (fun c_188 => absurd (hS9.cmp_self hk hp) c_188) (fun c_188 => ?_)
        refine lv_iconst (v := 1) hx hb dL_isKept_192 (by decide) ?_
        refine lv_goto (tgt := 197) hx hb dL_isKept_193 (by decide) ?_
        refine W.widen (k := 10) (n := 60) (Nat.le_of_ble_eq_true rfl) (Nat.le_of_ble_eq_true rfl) ?_
        exact W.zret (v := 1) hx hb hr (by decide) (fun t ht hW => ⟨⟨_, w13, rfl, ⟨rfl, hw⟩, by rw [← hAe]; exact hD, by rw [ht]; exact hP⟩, by rw [← hAe]; exact hS.F ht⟩) (by rw [← hAe]; exact hS.2.2) dL_isKept_197
  · skip
    refine Met.ofW (cc := cL_isKept) (maxL := 15) (ret := (some .boolean)) (by decide) rfl ?_
    intro pg e s m args below meth c s₁ B hml hv
    obtain ⟨rfl, ⟨hsz, hP, hK, hD0, hE0⟩, hN⟩ := hv
    have hx := B.exec
    have hb := B.bytes
    have hr := B.returns
    have hts := atoms_spec (ws := wsL_isKept) B.pre
    have hown : s.vm.findClass RL = some m.cls := findClass_of_methodNamed B.named
    have hlocks := B.notSynchronized
    subst hsz
    obtain ⟨A, hAe⟩ : ∃ A : Nat → Prop, A = va_A w s.heap.size := ⟨_, rfl⟩
    have hE : gE ad A s s.heap := by rw [hAe]; exact hE0
    have hD : va_D A w := by rw [hAe]; exact hD0.self (sz := s.heap.size)
    have hA : ∀ q : Nat, s.heap.size ≤ q → A q := fun q h => by rw [hAe]; exact Or.inr h
    have hS : va_S A s.heap s.heap [] := va_S.rf
    have hl := lv_entry ([.ref h, .int (nI k), .int (nI j), .int (nI p), .int (nI q)]) (n := 15) (Nat.le_of_ble_eq_true rfl)
    rw [lg_entry_eq]
    generalize (lg_sl ([.ref h, .int (nI k), .int (nI j), .int (nI p), .int (nI q)]) ++ List.replicate (15 - (lg_sl ([.ref h, .int (nI k), .int (nI j), .int (nI p), .int (nI q)])).length) Slot.unset).toArray = ls at hl ⊢
    have hl : lv_has ls 15 [(0, .ref h), (1, .int (nI k)), (2, .int (nI j)), (3, .int (nI p)), (4, .int (nI q))] := hl
    refine lv_aload_n hx hb dL_isKept_0 rfl (lv_at hl 0 rfl) ?_
    refine lv_bipush (v := 13) hx hb dL_isKept_1 (by decide) ?_
    refine lv_iload_n hx hb dL_isKept_3 rfl (lv_at hl 1 rfl) ?_
    refine lv_iload_n hx hb dL_isKept_4 rfl (lv_at hl 3 rfl) ?_
    refine lv_iconst (v := 0) hx hb dL_isKept_5 (by decide) ?_
    refine g_callN (ws := []) (wc := w) (vx_runSW (As := [.ref h, .int 13, .int (nI k), .int (nI p), .int 0]) (rest := []) ⟨hx, hb, hml, hown, hts⟩ (e_decimals l hfl D y ad hS9 hw (nI k) (nI p) 0 s.heap.size) (vx_cwSW 5 hts gL_isKept_L_does rfl rfl rfl (by decide +kernel) ⟨Nat.le_of_ble_eq_true rfl, Nat.le_of_ble_eq_true rfl⟩) (gPN_SA hP hD hK hE hN hS hA) rfl rfl hl.1 rfl (lv_room (Nat.le_of_ble_eq_true rfl)) dL_isKept_6 ⟨Nat.le_of_ble_eq_true rfl, Nat.le_of_ble_eq_true rfl⟩) hP hD hS hA (fun v9 w1 H locs hf hP hD hS => ?_)
    obtain ⟨rfl, hw⟩ := hf
    refine g_topl (y := (vSd S k p).toInt64) (hS9.decs hk hp) ?_
    refine lv_lstore (lv' := [(5, .long ((vSd S k p).toInt64)), (0, .ref h), (1, .int (nI k)), (2, .int (nI j)), (3, .int (nI p)), (4, .int (nI q))]) hx hb dL_isKept_9 hl (by decide) rfl (fun ls hl => ?_)
    refine lv_aload_n hx hb dL_isKept_11 rfl (lv_at hl 1 rfl) ?_
    refine lv_bipush (v := 13) hx hb dL_isKept_12 (by decide) ?_
    refine lv_iload_n hx hb dL_isKept_14 rfl (lv_at hl 2 rfl) ?_
    refine lv_iload hx hb dL_isKept_15 (lv_at hl 5 rfl) ?_
    refine lv_iconst (v := 0) hx hb dL_isKept_17 (by decide) ?_
    refine g_callN (ws := []) (wc := w1) (vx_runSW (As := [.ref h, .int 13, .int (nI k), .int (nI q), .int 0]) (rest := []) ⟨hx, hb, hml, hown, hts⟩ (e_decimals l hfl D y ad hS9 hw (nI k) (nI q) 0 H.size) (vx_cwSW 5 hts gL_isKept_L_does rfl rfl rfl (by decide +kernel) ⟨Nat.le_of_ble_eq_true rfl, Nat.le_of_ble_eq_true rfl⟩) (gPN_SA hP hD hK hE hN hS hA) rfl rfl hl.1 rfl (lv_room (Nat.le_of_ble_eq_true rfl)) dL_isKept_18 ⟨Nat.le_of_ble_eq_true rfl, Nat.le_of_ble_eq_true rfl⟩) hP hD hS hA (fun v9 w2 H locs hf hP hD hS => ?_)
    obtain ⟨rfl, hw⟩ := hf
    refine g_topl (y := (vSd S k q).toInt64) (hS9.decs hk hq) ?_
    refine lv_lstore (lv' := [(7, .long ((vSd S k q).toInt64)), (5, .long ((vSd S k p).toInt64)), (0, .ref h), (1, .int (nI k)), (2, .int (nI j)), (3, .int (nI p)), (4, .int (nI q))]) hx hb dL_isKept_21 hl (by decide) rfl (fun ls hl => ?_)
    refine lv_lload hx hb dL_isKept_23 (lv_at hl 1 rfl) ?_
    refine lv_lconst (v := 0) hx hb dL_isKept_25 (by decide) ?_
    refine g_ge (tgt := 34) hx hb dL_isKept_26 dL_isKept_27 (by decide) (fun c_26 => ?_) (fun c_26 => absurd (Int64.not_lt.mp s0) c_26)
    refine lv_lload hx hb dL_isKept_34 (lv_at hl 1 rfl) ?_
    refine lv_l2i (v := ((vSd S k p).toInt64).toInt32) hx hb dL_isKept_36 rfl ?_
    refine g_topi (y := vSd S k p) (t64 _) ?_
    refine lv_istore (lv' := [(9, .int (vSd S k p)), (7, .long ((vSd S k q).toInt64)), (5, .long ((vSd S k p).toInt64)), (0, .ref h), (1, .int (nI k)), (2, .int (nI j)), (3, .int (nI p)), (4, .int (nI q))]) hx hb dL_isKept_37 hl (by decide) rfl (fun ls hl => ?_)
    refine lv_aload_n hx hb dL_isKept_39 rfl (lv_at hl 3 rfl) ?_
    refine lv_bipush (v := 15) hx hb dL_isKept_40 (by decide) ?_
    refine lv_iload_n hx hb dL_isKept_42 rfl (lv_at hl 4 rfl) ?_
    refine lv_iload_n hx hb dL_isKept_43 rfl (lv_at hl 6 rfl) ?_
    refine lv_iconst (v := 1) hx hb dL_isKept_44 (by decide) ?_
    refine g_callN (ws := []) (wc := w2) (vx_runSW (As := [.ref h, .int 15, .int (nI k), .int (nI p), .int 1]) (rest := []) ⟨hx, hb, hml, hown, hts⟩ (e_quotient l hfl D y ad hS9 hw (nI k) (nI p) 1 H.size) (vx_cwSW 5 hts gL_isKept_L_does rfl rfl rfl (by decide +kernel) ⟨Nat.le_of_ble_eq_true rfl, Nat.le_of_ble_eq_true rfl⟩) (gPN_SA hP hD hK hE hN hS hA) rfl rfl hl.1 rfl (lv_room (Nat.le_of_ble_eq_true rfl)) dL_isKept_45 ⟨Nat.le_of_ble_eq_true rfl, Nat.le_of_ble_eq_true rfl⟩) hP hD hS hA (fun v9 w3 H locs hf hP hD hS => ?_)
    obtain ⟨rfl, hw⟩ := hf
    refine lv_lstore (lv' := [(10, .long (dQuo S (nI k) (nI p) 1)), (9, .int (vSd S k p)), (7, .long ((vSd S k q).toInt64)), (5, .long ((vSd S k p).toInt64)), (0, .ref h), (1, .int (nI k)), (2, .int (nI j)), (3, .int (nI p)), (4, .int (nI q))]) hx hb dL_isKept_48 hl (by decide) rfl (fun ls hl => ?_)
    refine lv_aload_n hx hb dL_isKept_50 rfl (lv_at hl 4 rfl) ?_
    refine lv_bipush (v := 11) hx hb dL_isKept_51 (by decide) ?_
    refine lv_iload_n hx hb dL_isKept_53 rfl (lv_at hl 5 rfl) ?_
    refine lv_iload_n hx hb dL_isKept_54 rfl (lv_at hl 6 rfl) ?_
    refine lv_iload_n hx hb dL_isKept_55 rfl (lv_at hl 7 rfl) ?_
    refine g_callN (ws := []) (wc := w3) (vx_runSW (As := [.ref h, .int 11, .int (nI k), .int (nI j), .int (nI p)]) (rest := []) ⟨hx, hb, hml, hown, hts⟩ (e_compare l hfl D y ad hS9 hw (nI k) (nI j) (nI p) H.size) (vx_cwSW 5 hts gL_isKept_L_does rfl rfl rfl (by decide +kernel) ⟨Nat.le_of_ble_eq_true rfl, Nat.le_of_ble_eq_true rfl⟩) (gPN_SA hP hD hK hE hN hS hA) rfl rfl hl.1 rfl (lv_room (Nat.le_of_ble_eq_true rfl)) dL_isKept_56 ⟨Nat.le_of_ble_eq_true rfl, Nat.le_of_ble_eq_true rfl⟩) hP hD hS hA (fun v9 w4 H locs hf hP hD hS => ?_)
    obtain ⟨rfl, hw⟩ := hf
    refine lv_lstore (lv' := [(12, .long (dComp S (nI k) (nI j) (nI p))), (10, .long (dQuo S (nI k) (nI p) 1)), (9, .int (vSd S k p)), (7, .long ((vSd S k q).toInt64)), (5, .long ((vSd S k p).toInt64)), (0, .ref h), (1, .int (nI k)), (2, .int (nI j)), (3, .int (nI p)), (4, .int (nI q))]) hx hb dL_isKept_59 hl (by decide) rfl (fun ls hl => ?_)
    refine lv_lload hx hb dL_isKept_61 (lv_at hl 3 rfl) ?_
    refine lv_lload hx hb dL_isKept_63 (lv_at hl 4 rfl) ?_
    refine g_lt (tgt := 130) hx hb dL_isKept_65 dL_isKept_66 (by decide) (fun c_65 => absurd c_65 (hS9.sd_keep hk hpq hq)) (fun c_65 => ?_)
    refine lv_lload hx hb dL_isKept_69 (lv_at hl 4 rfl) ?_
    refine lv_lconst (v := 0) hx hb dL_isKept_71 (by decide) ?_
    refine g_lt (tgt := 101) hx hb dL_isKept_72 dL_isKept_73 (by decide) (fun c_72 => absurd c_72 s0) (fun c_72 => ?_)
    refine lv_aload_n hx hb dL_isKept_76 rfl (lv_at hl 5 rfl) ?_
    refine lv_bipush (v := 14) hx hb dL_isKept_77 (by decide) ?_
    refine lv_iload_n hx hb dL_isKept_79 rfl (lv_at hl 6 rfl) ?_
    refine lv_iload_n hx hb dL_isKept_80 rfl (lv_at hl 8 rfl) ?_
    refine lv_iload hx hb dL_isKept_81 (lv_at hl 2 rfl) ?_
    refine g_callN (ws := []) (wc := w4) (vx_runSW (As := [.ref h, .int 14, .int (nI k), .int (nI p), .int (vSd S k p)]) (rest := []) ⟨hx, hb, hml, hown, hts⟩ (e_decimal l hfl D y ad hS9 hw (nI k) (nI p) (vSd S k p) H.size) (vx_cwSW 5 hts gL_isKept_L_does rfl rfl rfl (by decide +kernel) ⟨Nat.le_of_ble_eq_true rfl, Nat.le_of_ble_eq_true rfl⟩) (gPN_SA hP hD hK hE hN hS hA) rfl rfl hl.1 rfl (lv_room (Nat.le_of_ble_eq_true rfl)) dL_isKept_83 ⟨Nat.le_of_ble_eq_true rfl, Nat.le_of_ble_eq_true rfl⟩) hP hD hS hA (fun v9 w5 H locs hf hP hD hS => ?_)
    obtain ⟨rfl, hw⟩ := hf
    refine lv_aload_n hx hb dL_isKept_86 rfl (lv_at hl 5 rfl) ?_
    refine lv_bipush (v := 14) hx hb dL_isKept_87 (by decide) ?_
    refine lv_iload_n hx hb dL_isKept_89 rfl (lv_at hl 6 rfl) ?_
    refine lv_iload hx hb dL_isKept_90 (lv_at hl 9 rfl) ?_
    refine lv_iload hx hb dL_isKept_92 (lv_at hl 2 rfl) ?_
    refine g_callN (ws := []) (wc := w5) (vx_runSW (As := [.ref h, .int 14, .int (nI k), .int (nI q), .int (vSd S k p)]) (rest := [.long (dDec S (nI k) (nI p) (vSd S k p))]) ⟨hx, hb, hml, hown, hts⟩ (e_decimal l hfl D y ad hS9 hw (nI k) (nI q) (vSd S k p) H.size) (vx_cwSW 5 hts gL_isKept_L_does rfl rfl rfl (by decide +kernel) ⟨Nat.le_of_ble_eq_true rfl, Nat.le_of_ble_eq_true rfl⟩) (gPN_SA hP hD hK hE hN hS hA) rfl rfl hl.1 rfl (lv_room (Nat.le_of_ble_eq_true rfl)) dL_isKept_94 ⟨Nat.le_of_ble_eq_true rfl, Nat.le_of_ble_eq_true rfl⟩) hP hD hS hA (fun v9 w6 H locs hf hP hD hS => ?_)
    obtain ⟨rfl, hw⟩ := hf
    refine g_ne (tgt := 130) hx hb dL_isKept_97 dL_isKept_98 (by decide) (fun c_97 => absurd (hS9.dec_keep hk hpq hq s0) c_97) (fun c_97 => ?_)
    refine lv_lload hx hb dL_isKept_101 (lv_at hl 1 rfl) ?_
    refine lv_ldc2 (v := -2100000000) hx hb hown (hts (.constantLong RL 62 (-2100000000)) (List.mem_of_getElem? (i := 1) rfl)) dL_isKept_103 ?_
    refine g_eq (tgt := 126) hx hb dL_isKept_106 dL_isKept_107 (by decide) (fun c_106 => ?_) (fun c_106 => ?_)
    · skip
      refine lv_iconst (v := 1) hx hb dL_isKept_126 (by decide) ?_
      refine lv_goto (tgt := 131) hx hb dL_isKept_127 (by decide) ?_
      refine lv_istore (lv' := [(14, .int 1), (12, .long (dComp S (nI k) (nI j) (nI p))), (10, .long (dQuo S (nI k) (nI p) 1)), (9, .int (vSd S k p)), (7, .long ((vSd S k q).toInt64)), (5, .long ((vSd S k p).toInt64)), (0, .ref h), (1, .int (nI k)), (2, .int (nI j)), (3, .int (nI p)), (4, .int (nI q))]) hx hb dL_isKept_131 hl (by decide) rfl (fun ls hl => ?_)
      refine lv_iload hx hb dL_isKept_133 (lv_at hl 0 rfl) ?_
      refine lv_if_eq (tgt := 196) hx hb dL_isKept_135 (by decide) (fun c_135 => absurd c_135 (by decide)) (fun c_135 => ?_)
      refine lv_lload hx hb dL_isKept_138 (lv_at hl 1 rfl) ?_
      refine lv_lconst (v := 0) hx hb dL_isKept_140 (by decide) ?_
      refine g_eq (tgt := 178) hx hb dL_isKept_141 dL_isKept_142 (by decide) (fun c_141 => ?_) (fun c_141 => ?_)
      · skip
        refine lv_aload_n hx hb dL_isKept_178 rfl (lv_at hl 6 rfl) ?_
        refine lv_bipush (v := 11) hx hb dL_isKept_179 (by decide) ?_
        refine lv_iload_n hx hb dL_isKept_181 rfl (lv_at hl 7 rfl) ?_
        refine lv_iload_n hx hb dL_isKept_182 rfl (lv_at hl 7 rfl) ?_
        refine lv_iload_n hx hb dL_isKept_183 rfl (lv_at hl 9 rfl) ?_
        refine g_callN (ws := []) (wc := w6) (vx_runSW (As := [.ref h, .int 11, .int (nI k), .int (nI k), .int (nI p)]) (rest := []) ⟨hx, hb, hml, hown, hts⟩ (e_compare l hfl D y ad hS9 hw (nI k) (nI k) (nI p) H.size) (vx_cwSW 5 hts gL_isKept_L_does rfl rfl rfl (by decide +kernel) ⟨Nat.le_of_ble_eq_true rfl, Nat.le_of_ble_eq_true rfl⟩) (gPN_SA hP hD hK hE hN hS hA) rfl rfl hl.1 rfl (lv_room (Nat.le_of_ble_eq_true rfl)) dL_isKept_184 ⟨Nat.le_of_ble_eq_true rfl, Nat.le_of_ble_eq_true rfl⟩) hP hD hS hA (fun v9 w7 H locs hf hP hD hS => ?_)
        obtain ⟨rfl, hw⟩ := hf
        refine lv_lconst (v := 0) hx hb dL_isKept_187 (by decide) ?_
        refine g_ne (tgt := 196) hx hb dL_isKept_188 dL_isKept_189 (by decide) (fun c_188 => absurd (hS9.cmp_self hk hp) c_188) (fun c_188 => ?_)
        refine lv_iconst (v := 1) hx hb dL_isKept_192 (by decide) ?_
        refine lv_goto (tgt := 197) hx hb dL_isKept_193 (by decide) ?_
        refine W.widen (k := 10) (n := 60) (Nat.le_of_ble_eq_true rfl) (Nat.le_of_ble_eq_true rfl) ?_
        exact W.zret (v := 1) hx hb hr (by decide) (fun t ht hW => ⟨⟨_, w7, rfl, ⟨rfl, hw⟩, by rw [← hAe]; exact hD, by rw [ht]; exact hP⟩, by rw [← hAe]; exact hS.F ht⟩) (by rw [← hAe]; exact hS.2.2) dL_isKept_197
      · skip
        refine lv_aload_n hx hb dL_isKept_145 rfl (lv_at hl 6 rfl) ?_
        refine lv_bipush (v := 11) hx hb dL_isKept_146 (by decide) ?_
        refine lv_iload_n hx hb dL_isKept_148 rfl (lv_at hl 7 rfl) ?_
        refine lv_iload_n hx hb dL_isKept_149 rfl (lv_at hl 8 rfl) ?_
        refine lv_iload hx hb dL_isKept_150 (lv_at hl 10 rfl) ?_
        refine g_callN (ws := []) (wc := w6) (vx_runSW (As := [.ref h, .int 11, .int (nI k), .int (nI j), .int (nI q)]) (rest := []) ⟨hx, hb, hml, hown, hts⟩ (e_compare l hfl D y ad hS9 hw (nI k) (nI j) (nI q) H.size) (vx_cwSW 5 hts gL_isKept_L_does rfl rfl rfl (by decide +kernel) ⟨Nat.le_of_ble_eq_true rfl, Nat.le_of_ble_eq_true rfl⟩) (gPN_SA hP hD hK hE hN hS hA) rfl rfl hl.1 rfl (lv_room (Nat.le_of_ble_eq_true rfl)) dL_isKept_152 ⟨Nat.le_of_ble_eq_true rfl, Nat.le_of_ble_eq_true rfl⟩) hP hD hS hA (fun v9 w8 H locs hf hP hD hS => ?_)
        obtain ⟨rfl, hw⟩ := hf
        refine lv_lload hx hb dL_isKept_155 (lv_at hl 1 rfl) ?_
        refine g_ne (tgt := 196) hx hb dL_isKept_157 dL_isKept_158 (by decide) (fun c_157 => absurd (hS9.cmp_keep hk hj hpq hq c_141).1 c_157) (fun c_157 => ?_)
        refine lv_aload_n hx hb dL_isKept_161 rfl (lv_at hl 6 rfl) ?_
        refine lv_bipush (v := 11) hx hb dL_isKept_162 (by decide) ?_
        refine lv_iload_n hx hb dL_isKept_164 rfl (lv_at hl 8 rfl) ?_
        refine lv_iload_n hx hb dL_isKept_165 rfl (lv_at hl 7 rfl) ?_
        refine lv_iload hx hb dL_isKept_166 (lv_at hl 10 rfl) ?_
        refine g_callN (ws := []) (wc := w8) (vx_runSW (As := [.ref h, .int 11, .int (nI j), .int (nI k), .int (nI q)]) (rest := []) ⟨hx, hb, hml, hown, hts⟩ (e_compare l hfl D y ad hS9 hw (nI j) (nI k) (nI q) H.size) (vx_cwSW 5 hts gL_isKept_L_does rfl rfl rfl (by decide +kernel) ⟨Nat.le_of_ble_eq_true rfl, Nat.le_of_ble_eq_true rfl⟩) (gPN_SA hP hD hK hE hN hS hA) rfl rfl hl.1 rfl (lv_room (Nat.le_of_ble_eq_true rfl)) dL_isKept_168 ⟨Nat.le_of_ble_eq_true rfl, Nat.le_of_ble_eq_true rfl⟩) hP hD hS hA (fun v9 w9 H locs hf hP hD hS => ?_)
        obtain ⟨rfl, hw⟩ := hf
        refine lv_lload hx hb dL_isKept_171 (lv_at hl 1 rfl) ?_
        refine lv_lneg hx hb dL_isKept_173 ?_
        refine g_ne (tgt := 196) hx hb dL_isKept_174 dL_isKept_175 (by decide) (fun c_174 => absurd (hS9.cmp_keep hk hj hpq hq c_141).2 c_174) (fun c_174 => ?_)
        refine lv_aload_n hx hb dL_isKept_178 rfl (lv_at hl 6 rfl) ?_
        refine lv_bipush (v := 11) hx hb dL_isKept_179 (by decide) ?_
        refine lv_iload_n hx hb dL_isKept_181 rfl (lv_at hl 7 rfl) ?_
        refine lv_iload_n hx hb dL_isKept_182 rfl (lv_at hl 7 rfl) ?_
        refine lv_iload_n hx hb dL_isKept_183 rfl (lv_at hl 9 rfl) ?_
        refine g_callN (ws := []) (wc := w9) (vx_runSW (As := [.ref h, .int 11, .int (nI k), .int (nI k), .int (nI p)]) (rest := []) ⟨hx, hb, hml, hown, hts⟩ (e_compare l hfl D y ad hS9 hw (nI k) (nI k) (nI p) H.size) (vx_cwSW 5 hts gL_isKept_L_does rfl rfl rfl (by decide +kernel) ⟨Nat.le_of_ble_eq_true rfl, Nat.le_of_ble_eq_true rfl⟩) (gPN_SA hP hD hK hE hN hS hA) rfl rfl hl.1 rfl (lv_room (Nat.le_of_ble_eq_true rfl)) dL_isKept_184 ⟨Nat.le_of_ble_eq_true rfl, Nat.le_of_ble_eq_true rfl⟩) hP hD hS hA (fun v9 w10 H locs hf hP hD hS => ?_)
        obtain ⟨rfl, hw⟩ := hf
        refine lv_lconst (v := 0) hx hb dL_isKept_187 (by decide) ?_
        refine g_ne (tgt := 196) hx hb dL_isKept_188 dL_isKept_189 (by decide) (fun c_188 => absurd (hS9.cmp_self hk hp) c_188) (fun c_188 => ?_)
        refine lv_iconst (v := 1) hx hb dL_isKept_192 (by decide) ?_
        refine lv_goto (tgt := 197) hx hb dL_isKept_193 (by decide) ?_
        refine W.widen (k := 10) (n := 60) (Nat.le_of_ble_eq_true rfl) (Nat.le_of_ble_eq_true rfl) ?_
        exact W.zret (v := 1) hx hb hr (by decide) (fun t ht hW => ⟨⟨_, w10, rfl, ⟨rfl, hw⟩, by rw [← hAe]; exact hD, by rw [ht]; exact hP⟩, by rw [← hAe]; exact hS.F ht⟩) (by rw [← hAe]; exact hS.2.2) dL_isKept_197
    · skip
      refine lv_lload hx hb dL_isKept_110 (lv_at hl 1 rfl) ?_
      refine lv_aload_n hx hb dL_isKept_112 rfl (lv_at hl 5 rfl) ?_
      refine lv_bipush (v := 15) hx hb dL_isKept_113 (by decide) ?_
      refine lv_iload_n hx hb dL_isKept_115 rfl (lv_at hl 6 rfl) ?_
      refine lv_iload hx hb dL_isKept_116 (lv_at hl 9 rfl) ?_
      refine lv_iconst (v := 1) hx hb dL_isKept_118 (by decide) ?_
      refine g_callN (ws := []) (wc := w6) (vx_runSW (As := [.ref h, .int 15, .int (nI k), .int (nI q), .int 1]) (rest := [.long (dQuo S (nI k) (nI p) 1)]) ⟨hx, hb, hml, hown, hts⟩ (e_quotient l hfl D y ad hS9 hw (nI k) (nI q) 1 H.size) (vx_cwSW 5 hts gL_isKept_L_does rfl rfl rfl (by decide +kernel) ⟨Nat.le_of_ble_eq_true rfl, Nat.le_of_ble_eq_true rfl⟩) (gPN_SA hP hD hK hE hN hS hA) rfl rfl hl.1 rfl (lv_room (Nat.le_of_ble_eq_true rfl)) dL_isKept_119 ⟨Nat.le_of_ble_eq_true rfl, Nat.le_of_ble_eq_true rfl⟩) hP hD hS hA (fun v9 w11 H locs hf hP hD hS => ?_)
      obtain ⟨rfl, hw⟩ := hf
      refine g_ne (tgt := 130) hx hb dL_isKept_122 dL_isKept_123 (by decide) (fun c_122 => absurd (hS9.quo_keep hk hpq hq c_106) c_122) (fun c_122 => ?_)
      refine lv_iconst (v := 1) hx hb dL_isKept_126 (by decide) ?_
      refine lv_goto (tgt := 131) hx hb dL_isKept_127 (by decide) ?_
      refine lv_istore (lv' := [(14, .int 1), (12, .long (dComp S (nI k) (nI j) (nI p))), (10, .long (dQuo S (nI k) (nI p) 1)), (9, .int (vSd S k p)), (7, .long ((vSd S k q).toInt64)), (5, .long ((vSd S k p).toInt64)), (0, .ref h), (1, .int (nI k)), (2, .int (nI j)), (3, .int (nI p)), (4, .int (nI q))]) hx hb dL_isKept_131 hl (by decide) rfl (fun ls hl => ?_)
      refine lv_iload hx hb dL_isKept_133 (lv_at hl 0 rfl) ?_
      refine lv_if_eq (tgt := 196) hx hb dL_isKept_135 (by decide) (fun c_135 => absurd c_135 (by decide)) (fun c_135 => ?_)
      refine lv_lload hx hb dL_isKept_138 (lv_at hl 1 rfl) ?_
      refine lv_lconst (v := 0) hx hb dL_isKept_140 (by decide) ?_
      refine g_eq (tgt := 178) hx hb dL_isKept_141 dL_isKept_142 (by decide) (fun c_141 => ?_) (fun c_141 => ?_)
      · skip
        refine lv_aload_n hx hb dL_isKept_178 rfl (lv_at hl 6 rfl) ?_
        refine lv_bipush (v := 11) hx hb dL_isKept_179 (by decide) ?_
        refine lv_iload_n hx hb dL_isKept_181 rfl (lv_at hl 7 rfl) ?_
        refine lv_iload_n hx hb dL_isKept_182 rfl (lv_at hl 7 rfl) ?_
        refine lv_iload_n hx hb dL_isKept_183 rfl (lv_at hl 9 rfl) ?_
        refine g_callN (ws := []) (wc := w11) (vx_runSW (As := [.ref h, .int 11, .int (nI k), .int (nI k), .int (nI p)]) (rest := []) ⟨hx, hb, hml, hown, hts⟩ (e_compare l hfl D y ad hS9 hw (nI k) (nI k) (nI p) H.size) (vx_cwSW 5 hts gL_isKept_L_does rfl rfl rfl (by decide +kernel) ⟨Nat.le_of_ble_eq_true rfl, Nat.le_of_ble_eq_true rfl⟩) (gPN_SA hP hD hK hE hN hS hA) rfl rfl hl.1 rfl (lv_room (Nat.le_of_ble_eq_true rfl)) dL_isKept_184 ⟨Nat.le_of_ble_eq_true rfl, Nat.le_of_ble_eq_true rfl⟩) hP hD hS hA (fun v9 w12 H locs hf hP hD hS => ?_)
        obtain ⟨rfl, hw⟩ := hf
        refine lv_lconst (v := 0) hx hb dL_isKept_187 (by decide) ?_
        refine g_ne (tgt := 196) hx hb dL_isKept_188 dL_isKept_189 (by decide) (fun c_188 => absurd (hS9.cmp_self hk hp) c_188) (fun c_188 => ?_)
        refine lv_iconst (v := 1) hx hb dL_isKept_192 (by decide) ?_
        refine lv_goto (tgt := 197) hx hb dL_isKept_193 (by decide) ?_
        refine W.widen (k := 10) (n := 60) (Nat.le_of_ble_eq_true rfl) (Nat.le_of_ble_eq_true rfl) ?_
        exact W.zret (v := 1) hx hb hr (by decide) (fun t ht hW => ⟨⟨_, w12, rfl, ⟨rfl, hw⟩, by rw [← hAe]; exact hD, by rw [ht]; exact hP⟩, by rw [← hAe]; exact hS.F ht⟩) (by rw [← hAe]; exact hS.2.2) dL_isKept_197
      · skip
        refine lv_aload_n hx hb dL_isKept_145 rfl (lv_at hl 6 rfl) ?_
        refine lv_bipush (v := 11) hx hb dL_isKept_146 (by decide) ?_
        refine lv_iload_n hx hb dL_isKept_148 rfl (lv_at hl 7 rfl) ?_
        refine lv_iload_n hx hb dL_isKept_149 rfl (lv_at hl 8 rfl) ?_
        refine lv_iload hx hb dL_isKept_150 (lv_at hl 10 rfl) ?_
        refine g_callN (ws := []) (wc := w11) (vx_runSW (As := [.ref h, .int 11, .int (nI k), .int (nI j), .int (nI q)]) (rest := []) ⟨hx, hb, hml, hown, hts⟩ (e_compare l hfl D y ad hS9 hw (nI k) (nI j) (nI q) H.size) (vx_cwSW 5 hts gL_isKept_L_does rfl rfl rfl (by decide +kernel) ⟨Nat.le_of_ble_eq_true rfl, Nat.le_of_ble_eq_true rfl⟩) (gPN_SA hP hD hK hE hN hS hA) rfl rfl hl.1 rfl (lv_room (Nat.le_of_ble_eq_true rfl)) dL_isKept_152 ⟨Nat.le_of_ble_eq_true rfl, Nat.le_of_ble_eq_true rfl⟩) hP hD hS hA (fun v9 w13 H locs hf hP hD hS => ?_)
        obtain ⟨rfl, hw⟩ := hf
        refine lv_lload hx hb dL_isKept_155 (lv_at hl 1 rfl) ?_
        refine g_ne (tgt := 196) hx hb dL_isKept_157 dL_isKept_158 (by decide) (fun c_157 => absurd (hS9.cmp_keep hk hj hpq hq c_141).1 c_157) (fun c_157 => ?_)
        refine lv_aload_n hx hb dL_isKept_161 rfl (lv_at hl 6 rfl) ?_
        refine lv_bipush (v := 11) hx hb dL_isKept_162 (by decide) ?_
        refine lv_iload_n hx hb dL_isKept_164 rfl (lv_at hl 8 rfl) ?_
        refine lv_iload_n hx hb dL_isKept_165 rfl (lv_at hl 7 rfl) ?_
        refine lv_iload hx hb dL_isKept_166 (lv_at hl 10 rfl) ?_
        refine g_callN (ws := []) (wc := w13) (vx_runSW (As := [.ref h, .int 11, .int (nI j), .int (nI k), .int (nI q)]) (rest := []) ⟨hx, hb, hml, hown, hts⟩ (e_compare l hfl D y ad hS9 hw (nI j) (nI k) (nI q) H.size) (vx_cwSW 5 hts gL_isKept_L_does rfl rfl rfl (by decide +kernel) ⟨Nat.le_of_ble_eq_true rfl, Nat.le_of_ble_eq_true rfl⟩) (gPN_SA hP hD hK hE hN hS hA) rfl rfl hl.1 rfl (lv_room (Nat.le_of_ble_eq_true rfl)) dL_isKept_168 ⟨Nat.le_of_ble_eq_true rfl, Nat.le_of_ble_eq_true rfl⟩) hP hD hS hA (fun v9 w14 H locs hf hP hD hS => ?_)
        obtain ⟨rfl, hw⟩ := hf
        refine lv_lload hx hb dL_isKept_171 (lv_at hl 1 rfl) ?_
        refine lv_lneg hx hb dL_isKept_173 ?_
        refine g_ne (tgt := 196) hx hb dL_isKept_174 dL_isKept_175 (by decide) (fun c_174 => absurd (hS9.cmp_keep hk hj hpq hq c_141).2 c_174) (fun c_174 => ?_)
        refine lv_aload_n hx hb dL_isKept_178 rfl (lv_at hl 6 rfl) ?_
        refine lv_bipush (v := 11) hx hb dL_isKept_179 (by decide) ?_
        refine lv_iload_n hx hb dL_isKept_181 rfl (lv_at hl 7 rfl) ?_
        refine lv_iload_n hx hb dL_isKept_182 rfl (lv_at hl 7 rfl) ?_
        refine lv_iload_n hx hb dL_isKept_183 rfl (lv_at hl 9 rfl) ?_
        refine g_callN (ws := []) (wc := w14) (vx_runSW (As := [.ref h, .int 11, .int (nI k), .int (nI k), .int (nI p)]) (rest := []) ⟨hx, hb, hml, hown, hts⟩ (e_compare l hfl D y ad hS9 hw (nI k) (nI k) (nI p) H.size) (vx_cwSW 5 hts gL_isKept_L_does rfl rfl rfl (by decide +kernel) ⟨Nat.le_of_ble_eq_true rfl, Nat.le_of_ble_eq_true rfl⟩) (gPN_SA hP hD hK hE hN hS hA) rfl rfl hl.1 rfl (lv_room (Nat.le_of_ble_eq_true rfl)) dL_isKept_184 ⟨Nat.le_of_ble_eq_true rfl, Nat.le_of_ble_eq_true rfl⟩) hP hD hS hA (fun v9 w15 H locs hf hP hD hS => ?_)
        obtain ⟨rfl, hw⟩ := hf
        refine lv_lconst (v := 0) hx hb dL_isKept_187 (by decide) ?_
        refine g_ne (tgt := 196) hx hb dL_isKept_188 dL_isKept_189 (by decide) (fun c_188 => absurd (hS9.cmp_self hk hp) c_188) (fun c_188 => ?_)
        refine lv_iconst (v := 1) hx hb dL_isKept_192 (by decide) ?_
        refine lv_goto (tgt := 197) hx hb dL_isKept_193 (by decide) ?_
        refine W.widen (k := 10) (n := 60) (Nat.le_of_ble_eq_true rfl) (Nat.le_of_ble_eq_true rfl) ?_
        exact W.zret (v := 1) hx hb hr (by decide) (fun t ht hW => ⟨⟨_, w15, rfl, ⟨rfl, hw⟩, by rw [← hAe]; exact hD, by rw [ht]; exact hP⟩, by rw [← hAe]; exact hS.F ht⟩) (by rw [← hAe]; exact hS.2.2) dL_isKept_197
set_option maxHeartbeats 4000000 in
set_option maxRecDepth 100000 in
theorem c_L_areDigits (l : Launch) (hfl : l.stackTraces = false) (D : va_G) (y : Nat → ClassId) (ad : Nat → Nat) {S : St} (hS9 : SI S) {h : Nat} {w : va_W} (hw : OW y ad h S w) {k j p : Nat} (hk : k < sN S) (hj : j < sN S) (hp : p < 25) (sz : Nat) : Met l yL_areDigits wsL_areDigits ({ frames := 12, cells := 10, slots := 60, locals := 440 } : Room) (gPN D y ad [.ref h, .int (nI k), .int (nI j), .int (nI p)] w sz) (gQn D w (fun v w1 => v = some (.int 1) ∧ OW y ad h S w1)) 10 60 (va_A w sz) := by
  have hn := hS9.1
  obtain ⟨c9, hc1, hc2, hc3⟩ := hS9.need hk
  obtain ⟨d, hd, e1, z0, zp⟩ := hS9.digs hk
  rcases d with _ | d
  · skip
    refine Met.ofW (cc := cL_areDigits) (maxL := 14) (ret := (some .boolean)) (by decide) rfl ?_
    intro pg e s m args below meth c s₁ B hml hv
    obtain ⟨rfl, ⟨hsz, hP, hK, hD0, hE0⟩, hN⟩ := hv
    have hx := B.exec
    have hb := B.bytes
    have hr := B.returns
    have hts := atoms_spec (ws := wsL_areDigits) B.pre
    have hown : s.vm.findClass RL = some m.cls := findClass_of_methodNamed B.named
    have hlocks := B.notSynchronized
    subst hsz
    obtain ⟨A, hAe⟩ : ∃ A : Nat → Prop, A = va_A w s.heap.size := ⟨_, rfl⟩
    have hE : gE ad A s s.heap := by rw [hAe]; exact hE0
    have hD : va_D A w := by rw [hAe]; exact hD0.self (sz := s.heap.size)
    have hA : ∀ q : Nat, s.heap.size ≤ q → A q := fun q h => by rw [hAe]; exact Or.inr h
    have hS : va_S A s.heap s.heap [] := va_S.rf
    have hl := lv_entry ([.ref h, .int (nI k), .int (nI j), .int (nI p)]) (n := 14) (Nat.le_of_ble_eq_true rfl)
    rw [lg_entry_eq]
    generalize (lg_sl ([.ref h, .int (nI k), .int (nI j), .int (nI p)]) ++ List.replicate (14 - (lg_sl ([.ref h, .int (nI k), .int (nI j), .int (nI p)])).length) Slot.unset).toArray = ls at hl ⊢
    have hl : lv_has ls 14 [(0, .ref h), (1, .int (nI k)), (2, .int (nI j)), (3, .int (nI p))] := hl
    refine lv_aload_n hx hb dL_areDigits_0 rfl (lv_at hl 0 rfl) ?_
    refine lv_iload_n hx hb dL_areDigits_1 rfl (lv_at hl 1 rfl) ?_
    obtain ⟨fs9, he⟩ := hw.head
    refine g_callR (v0 := .int (sDg S k)) (va_runV (As := [.int (nI k)]) (rest := []) ⟨hx, hb, hml, hown, hts⟩ (e_emi0 l hfl D y ad hn hw hk s.heap.size) (cwV 1 hts gL_areDigits_X7_emitted rfl rfl rfl (by decide +kernel) ⟨Nat.le_of_ble_eq_true rfl, Nat.le_of_ble_eq_true rfl⟩) (gPX_VA hP hD hK hE hS hA 0 he rfl) rfl rfl hl.1 rfl (lv_room (Nat.le_of_ble_eq_true rfl)) dL_areDigits_2 ⟨Nat.le_of_ble_eq_true rfl, Nat.le_of_ble_eq_true rfl⟩) ?_
    refine g_topi (y := nI 0) (e1) ?_
    refine lv_istore (lv' := [(4, .int (nI 0)), (0, .ref h), (1, .int (nI k)), (2, .int (nI j)), (3, .int (nI p))]) hx hb dL_areDigits_5 hl (by decide) rfl (fun ls hl => ?_)
    refine lv_aload_n hx hb dL_areDigits_7 rfl (lv_at hl 1 rfl) ?_
    refine lv_iload_n hx hb dL_areDigits_8 rfl (lv_at hl 2 rfl) ?_
    obtain ⟨fs9, he⟩ := hw.head
    refine g_callR (v0 := .long (sDs S k)) (va_runV (As := [.int (nI k)]) (rest := []) ⟨hx, hb, hml, hown, hts⟩ (e_par0 l hfl D y ad hn hw hk s.heap.size) (cwV 1 hts gL_areDigits_X7_partial rfl rfl rfl (by decide +kernel) ⟨Nat.le_of_ble_eq_true rfl, Nat.le_of_ble_eq_true rfl⟩) (gPX_VA hP hD hK hE hS hA 0 he rfl) rfl rfl hl.1 rfl (lv_room (Nat.le_of_ble_eq_true rfl)) dL_areDigits_9 ⟨Nat.le_of_ble_eq_true rfl, Nat.le_of_ble_eq_true rfl⟩) ?_
    refine lv_lstore (lv' := [(5, .long (sDs S k)), (4, .int (nI 0)), (0, .ref h), (1, .int (nI k)), (2, .int (nI j)), (3, .int (nI p))]) hx hb dL_areDigits_12 hl (by decide) rfl (fun ls hl => ?_)
    refine lv_aload_n hx hb dL_areDigits_14 rfl (lv_at hl 2 rfl) ?_
    refine lv_bipush (v := 9) hx hb dL_areDigits_15 (by decide) ?_
    refine lv_iload_n hx hb dL_areDigits_17 rfl (lv_at hl 3 rfl) ?_
    refine lv_bipush (v := 24) hx hb dL_areDigits_18 (by decide) ?_
    refine g_topi (y := nI 24) (by decide) ?_
    refine lv_iconst (v := 0) hx hb dL_areDigits_20 (by decide) ?_
    refine g_callN (ws := []) (wc := w) (vx_runSW (As := [.ref h, .int 9, .int (nI k), .int (nI 24), .int 0]) (rest := []) ⟨hx, hb, hml, hown, hts⟩ (e_told l hfl D y ad hS9 hw (nI k) (nI 24) 0 s.heap.size) (vx_cwSW 5 hts gL_areDigits_L_does rfl rfl rfl (by decide +kernel) ⟨Nat.le_of_ble_eq_true rfl, Nat.le_of_ble_eq_true rfl⟩) (gPN_SA hP hD hK hE hN hS hA) rfl rfl hl.1 rfl (lv_room (Nat.le_of_ble_eq_true rfl)) dL_areDigits_21 ⟨Nat.le_of_ble_eq_true rfl, Nat.le_of_ble_eq_true rfl⟩) hP hD hS hA (fun v9 w1 H locs hf hP hD hS => ?_)
    obtain ⟨rfl, hw⟩ := hf
    refine lv_lstore (lv' := [(7, .long (dTold S (nI k) (nI 24) (decide (0 = 1)))), (5, .long (sDs S k)), (4, .int (nI 0)), (0, .ref h), (1, .int (nI k)), (2, .int (nI j)), (3, .int (nI p))]) hx hb dL_areDigits_24 hl (by decide) rfl (fun ls hl => ?_)
    refine lv_aload_n hx hb dL_areDigits_26 rfl (lv_at hl 3 rfl) ?_
    refine lv_bipush (v := 9) hx hb dL_areDigits_27 (by decide) ?_
    refine lv_iload_n hx hb dL_areDigits_29 rfl (lv_at hl 4 rfl) ?_
    refine lv_bipush (v := 24) hx hb dL_areDigits_30 (by decide) ?_
    refine g_topi (y := nI 24) (by decide) ?_
    refine lv_iconst (v := 1) hx hb dL_areDigits_32 (by decide) ?_
    refine g_callN (ws := []) (wc := w1) (vx_runSW (As := [.ref h, .int 9, .int (nI k), .int (nI 24), .int 1]) (rest := []) ⟨hx, hb, hml, hown, hts⟩ (e_told l hfl D y ad hS9 hw (nI k) (nI 24) 1 H.size) (vx_cwSW 5 hts gL_areDigits_L_does rfl rfl rfl (by decide +kernel) ⟨Nat.le_of_ble_eq_true rfl, Nat.le_of_ble_eq_true rfl⟩) (gPN_SA hP hD hK hE hN hS hA) rfl rfl hl.1 rfl (lv_room (Nat.le_of_ble_eq_true rfl)) dL_areDigits_33 ⟨Nat.le_of_ble_eq_true rfl, Nat.le_of_ble_eq_true rfl⟩) hP hD hS hA (fun v9 w2 H locs hf hP hD hS => ?_)
    obtain ⟨rfl, hw⟩ := hf
    refine lv_lstore (lv' := [(9, .long (dTold S (nI k) (nI 24) (decide (1 = 1)))), (7, .long (dTold S (nI k) (nI 24) (decide (0 = 1)))), (5, .long (sDs S k)), (4, .int (nI 0)), (0, .ref h), (1, .int (nI k)), (2, .int (nI j)), (3, .int (nI p))]) hx hb dL_areDigits_36 hl (by decide) rfl (fun ls hl => ?_)
    refine lv_lconst (v := 1) hx hb dL_areDigits_38 (by decide) ?_
    refine lv_bipush (v := 24) hx hb dL_areDigits_39 (by decide) ?_
    refine lv_iload hx hb dL_areDigits_41 (lv_at hl 3 rfl) ?_
    refine lv_isub hx hb dL_areDigits_43 ?_
    refine g_topi (y := nI (24 - 0)) (q_sub (p := 24) (by decide) hd) ?_
    refine lv_lshl (v := jshl 1 (nI (24 - 0))) hx hb dL_areDigits_44 rfl ?_
    refine lv_lstore (lv' := [(11, .long (jshl 1 (nI (24 - 0)))), (9, .long (dTold S (nI k) (nI 24) (decide (1 = 1)))), (7, .long (dTold S (nI k) (nI 24) (decide (0 = 1)))), (5, .long (sDs S k)), (4, .int (nI 0)), (0, .ref h), (1, .int (nI k)), (2, .int (nI j)), (3, .int (nI p))]) hx hb dL_areDigits_45 hl (by decide) rfl (fun ls hl => ?_)
    refine lv_iload hx hb dL_areDigits_47 (lv_at hl 4 rfl) ?_
    refine lv_if_ne (tgt := 59) hx hb dL_areDigits_49 (by decide) (fun c_49 => absurd nI_0 c_49) (fun c_49 => ?_)
    refine lv_lload hx hb dL_areDigits_52 (lv_at hl 3 rfl) ?_
    refine lv_lconst (v := 0) hx hb dL_areDigits_54 (by decide) ?_
    refine g_eq (tgt := 106) hx hb dL_areDigits_55 dL_areDigits_56 (by decide) (fun c_55 => ?_) (fun c_55 => absurd (z0 rfl) c_55)
    refine lv_iconst (v := 1) hx hb dL_areDigits_106 (by decide) ?_
    refine lv_goto (tgt := 111) hx hb dL_areDigits_107 (by decide) ?_
    refine lv_istore (lv' := [(13, .int 1), (11, .long (jshl 1 (nI (24 - 0)))), (9, .long (dTold S (nI k) (nI 24) (decide (1 = 1)))), (7, .long (dTold S (nI k) (nI 24) (decide (0 = 1)))), (5, .long (sDs S k)), (4, .int (nI 0)), (0, .ref h), (1, .int (nI k)), (2, .int (nI j)), (3, .int (nI p))]) hx hb dL_areDigits_111 hl (by decide) rfl (fun ls hl => ?_)
    refine lv_iload hx hb dL_areDigits_113 (lv_at hl 0 rfl) ?_
    refine lv_if_eq (tgt := 185) hx hb dL_areDigits_115 (by decide) (fun c_115 => absurd c_115 (by decide)) (fun c_115 => ?_)
    refine lv_aload_n hx hb dL_areDigits_118 rfl (lv_at hl 6 rfl) ?_
    refine lv_iload_n hx hb dL_areDigits_119 rfl (lv_at hl 7 rfl) ?_
    refine lv_iload_n hx hb dL_areDigits_120 rfl (lv_at hl 7 rfl) ?_
    refine lv_iload_n hx hb dL_areDigits_121 rfl (lv_at hl 8 rfl) ?_
    refine lv_iload_n hx hb dL_areDigits_122 rfl (lv_at hl 9 rfl) ?_
    refine lv_iconst (v := 1) hx hb dL_areDigits_123 (by decide) ?_
    refine g_callN (ws := []) (wc := w2) (vx_runSW (As := [.ref h, .int (nI k), .int (nI k), .int (nI j), .int (nI p), .int (gB true)]) (rest := []) ⟨hx, hb, hml, hown, hts⟩ (e_instead l hfl D y ad hS9 hw (nI k) (nI k) (nI j) (nI p) true H.size) (vx_cwSW 6 hts gL_areDigits_L_instead rfl rfl rfl (by decide +kernel) ⟨Nat.le_of_ble_eq_true rfl, Nat.le_of_ble_eq_true rfl⟩) (gPN_SA hP hD hK hE hN hS hA) rfl rfl hl.1 rfl (lv_room (Nat.le_of_ble_eq_true rfl)) dL_areDigits_124 ⟨Nat.le_of_ble_eq_true rfl, Nat.le_of_ble_eq_true rfl⟩) hP hD hS hA (fun v9 w3 H locs hf hP hD hS => ?_)
    obtain ⟨rfl, hw⟩ := hf
    refine lv_aload_n hx hb dL_areDigits_127 rfl (lv_at hl 6 rfl) ?_
    refine lv_bipush (v := 8) hx hb dL_areDigits_128 (by decide) ?_
    refine lv_iload_n hx hb dL_areDigits_130 rfl (lv_at hl 8 rfl) ?_
    refine lv_iload_n hx hb dL_areDigits_131 rfl (lv_at hl 9 rfl) ?_
    refine lv_iconst (v := 1) hx hb dL_areDigits_132 (by decide) ?_
    refine g_callN (ws := []) (wc := w3) (vx_runSW (As := [.ref h, .int 8, .int (nI j), .int (nI p), .int 1]) (rest := [.long (dIns S (nI k) (nI k) (nI j) (nI p) true)]) ⟨hx, hb, hml, hown, hts⟩ (e_raw l hfl D y ad hS9 hw (nI j) (nI p) 1 H.size) (vx_cwSW 5 hts gL_areDigits_L_does rfl rfl rfl (by decide +kernel) ⟨Nat.le_of_ble_eq_true rfl, Nat.le_of_ble_eq_true rfl⟩) (gPN_SA hP hD hK hE hN hS hA) rfl rfl hl.1 rfl (lv_room (Nat.le_of_ble_eq_true rfl)) dL_areDigits_133 ⟨Nat.le_of_ble_eq_true rfl, Nat.le_of_ble_eq_true rfl⟩) hP hD hS hA (fun v9 w4 H locs hf hP hD hS => ?_)
    obtain ⟨rfl, hw⟩ := hf
    refine g_ne (tgt := 185) hx hb dL_areDigits_136 dL_areDigits_137 (by decide) (fun c_136 => absurd (hS9.ins1 hk hj hp true) c_136) (fun c_136 => ?_)
    refine lv_aload_n hx hb dL_areDigits_140 rfl (lv_at hl 6 rfl) ?_
    refine lv_iload_n hx hb dL_areDigits_141 rfl (lv_at hl 7 rfl) ?_
    refine lv_iload_n hx hb dL_areDigits_142 rfl (lv_at hl 8 rfl) ?_
    refine lv_iload_n hx hb dL_areDigits_143 rfl (lv_at hl 8 rfl) ?_
    refine lv_iload_n hx hb dL_areDigits_144 rfl (lv_at hl 9 rfl) ?_
    refine lv_iconst (v := 0) hx hb dL_areDigits_145 (by decide) ?_
    refine g_callN (ws := []) (wc := w4) (vx_runSW (As := [.ref h, .int (nI k), .int (nI j), .int (nI j), .int (nI p), .int (gB false)]) (rest := []) ⟨hx, hb, hml, hown, hts⟩ (e_instead l hfl D y ad hS9 hw (nI k) (nI j) (nI j) (nI p) false H.size) (vx_cwSW 6 hts gL_areDigits_L_instead rfl rfl rfl (by decide +kernel) ⟨Nat.le_of_ble_eq_true rfl, Nat.le_of_ble_eq_true rfl⟩) (gPN_SA hP hD hK hE hN hS hA) rfl rfl hl.1 rfl (lv_room (Nat.le_of_ble_eq_true rfl)) dL_areDigits_146 ⟨Nat.le_of_ble_eq_true rfl, Nat.le_of_ble_eq_true rfl⟩) hP hD hS hA (fun v9 w5 H locs hf hP hD hS => ?_)
    obtain ⟨rfl, hw⟩ := hf
    refine lv_aload_n hx hb dL_areDigits_149 rfl (lv_at hl 6 rfl) ?_
    refine lv_bipush (v := 8) hx hb dL_areDigits_150 (by decide) ?_
    refine lv_iload_n hx hb dL_areDigits_152 rfl (lv_at hl 7 rfl) ?_
    refine lv_iload_n hx hb dL_areDigits_153 rfl (lv_at hl 9 rfl) ?_
    refine lv_iconst (v := 0) hx hb dL_areDigits_154 (by decide) ?_
    refine g_callN (ws := []) (wc := w5) (vx_runSW (As := [.ref h, .int 8, .int (nI k), .int (nI p), .int 0]) (rest := [.long (dIns S (nI k) (nI j) (nI j) (nI p) false)]) ⟨hx, hb, hml, hown, hts⟩ (e_raw l hfl D y ad hS9 hw (nI k) (nI p) 0 H.size) (vx_cwSW 5 hts gL_areDigits_L_does rfl rfl rfl (by decide +kernel) ⟨Nat.le_of_ble_eq_true rfl, Nat.le_of_ble_eq_true rfl⟩) (gPN_SA hP hD hK hE hN hS hA) rfl rfl hl.1 rfl (lv_room (Nat.le_of_ble_eq_true rfl)) dL_areDigits_155 ⟨Nat.le_of_ble_eq_true rfl, Nat.le_of_ble_eq_true rfl⟩) hP hD hS hA (fun v9 w6 H locs hf hP hD hS => ?_)
    obtain ⟨rfl, hw⟩ := hf
    refine g_ne (tgt := 185) hx hb dL_areDigits_158 dL_areDigits_159 (by decide) (fun c_158 => absurd (hS9.ins2 hk hj hp false) c_158) (fun c_158 => ?_)
    refine lv_aload_n hx hb dL_areDigits_162 rfl (lv_at hl 6 rfl) ?_
    refine lv_iload_n hx hb dL_areDigits_163 rfl (lv_at hl 7 rfl) ?_
    obtain ⟨fs9, he⟩ := hw.head
    refine g_callR (v0 := .int (sp_J13_bitCount_95d88 (sPt S k))) (va_runV (As := [.int (nI k)]) (rest := []) ⟨hx, hb, hml, hown, hts⟩ (e_need0 l hfl D y ad hn hw hk H.size) (cwV 1 hts gL_areDigits_X7_needs rfl rfl rfl (by decide +kernel) ⟨Nat.le_of_ble_eq_true rfl, Nat.le_of_ble_eq_true rfl⟩) (gPX_VA hP hD hK hE hS hA 0 he rfl) rfl rfl hl.1 rfl (lv_room (Nat.le_of_ble_eq_true rfl)) dL_areDigits_164 ⟨Nat.le_of_ble_eq_true rfl, Nat.le_of_ble_eq_true rfl⟩) ?_
    refine g_topi (y := nI c9) (hc3) ?_
    refine lv_if_le (tgt := 185) hx hb dL_areDigits_167 (by decide) (fun c_167 => absurd c_167 (nI_nle (by omega) (by omega))) (fun c_167 => ?_)
    refine lv_aload_n hx hb dL_areDigits_170 rfl (lv_at hl 6 rfl) ?_
    refine lv_iload_n hx hb dL_areDigits_171 rfl (lv_at hl 7 rfl) ?_
    obtain ⟨fs9, he⟩ := hw.head
    refine g_callR (v0 := .int (sp_J13_bitCount_95d88 (sPt S k))) (va_runV (As := [.int (nI k)]) (rest := []) ⟨hx, hb, hml, hown, hts⟩ (e_need0 l hfl D y ad hn hw hk H.size) (cwV 1 hts gL_areDigits_X7_needs rfl rfl rfl (by decide +kernel) ⟨Nat.le_of_ble_eq_true rfl, Nat.le_of_ble_eq_true rfl⟩) (gPX_VA hP hD hK hE hS hA 0 he rfl) rfl rfl hl.1 rfl (lv_room (Nat.le_of_ble_eq_true rfl)) dL_areDigits_172 ⟨Nat.le_of_ble_eq_true rfl, Nat.le_of_ble_eq_true rfl⟩) ?_
    refine g_topi (y := nI c9) (hc3) ?_
    refine lv_iload_n hx hb dL_areDigits_175 rfl (lv_at hl 7 rfl) ?_
    refine lv_iconst (v := 1) hx hb dL_areDigits_176 (by decide) ?_
    refine lv_iadd hx hb dL_areDigits_177 ?_
    refine g_topi (nI_add k 1) ?_
    refine lv_icmp_gt (tgt := 185) hx hb dL_areDigits_178 (by decide) (fun c_178 => absurd c_178 (nI_nlt (by omega) (by omega))) (fun c_178 => ?_)
    refine lv_iconst (v := 1) hx hb dL_areDigits_181 (by decide) ?_
    refine lv_goto (tgt := 186) hx hb dL_areDigits_182 (by decide) ?_
    refine W.widen (k := 10) (n := 60) (Nat.le_of_ble_eq_true rfl) (Nat.le_of_ble_eq_true rfl) ?_
    exact W.zret (v := 1) hx hb hr (by decide) (fun t ht hW => ⟨⟨_, w6, rfl, ⟨rfl, hw⟩, by rw [← hAe]; exact hD, by rw [ht]; exact hP⟩, by rw [← hAe]; exact hS.F ht⟩) (by rw [← hAe]; exact hS.2.2) dL_areDigits_186
  · obtain ⟨z1, z2, z3, z4, z5, z6⟩ := zp (by omega)
    have z9 : ¬ nI (d + 1) = 0 := nI_ne0 (by omega) (by omega)
    refine Met.ofW (cc := cL_areDigits) (maxL := 14) (ret := (some .boolean)) (by decide) rfl ?_
    intro pg e s m args below meth c s₁ B hml hv
    obtain ⟨rfl, ⟨hsz, hP, hK, hD0, hE0⟩, hN⟩ := hv
    have hx := B.exec
    have hb := B.bytes
    have hr := B.returns
    have hts := atoms_spec (ws := wsL_areDigits) B.pre
    have hown : s.vm.findClass RL = some m.cls := findClass_of_methodNamed B.named
    have hlocks := B.notSynchronized
    subst hsz
    obtain ⟨A, hAe⟩ : ∃ A : Nat → Prop, A = va_A w s.heap.size := ⟨_, rfl⟩
    have hE : gE ad A s s.heap := by rw [hAe]; exact hE0
    have hD : va_D A w := by rw [hAe]; exact hD0.self (sz := s.heap.size)
    have hA : ∀ q : Nat, s.heap.size ≤ q → A q := fun q h => by rw [hAe]; exact Or.inr h
    have hS : va_S A s.heap s.heap [] := va_S.rf
    have hl := lv_entry ([.ref h, .int (nI k), .int (nI j), .int (nI p)]) (n := 14) (Nat.le_of_ble_eq_true rfl)
    rw [lg_entry_eq]
    generalize (lg_sl ([.ref h, .int (nI k), .int (nI j), .int (nI p)]) ++ List.replicate (14 - (lg_sl ([.ref h, .int (nI k), .int (nI j), .int (nI p)])).length) Slot.unset).toArray = ls at hl ⊢
    have hl : lv_has ls 14 [(0, .ref h), (1, .int (nI k)), (2, .int (nI j)), (3, .int (nI p))] := hl
    refine lv_aload_n hx hb dL_areDigits_0 rfl (lv_at hl 0 rfl) ?_
    refine lv_iload_n hx hb dL_areDigits_1 rfl (lv_at hl 1 rfl) ?_
    obtain ⟨fs9, he⟩ := hw.head
    refine g_callR (v0 := .int (sDg S k)) (va_runV (As := [.int (nI k)]) (rest := []) ⟨hx, hb, hml, hown, hts⟩ (e_emi0 l hfl D y ad hn hw hk s.heap.size) (cwV 1 hts gL_areDigits_X7_emitted rfl rfl rfl (by decide +kernel) ⟨Nat.le_of_ble_eq_true rfl, Nat.le_of_ble_eq_true rfl⟩) (gPX_VA hP hD hK hE hS hA 0 he rfl) rfl rfl hl.1 rfl (lv_room (Nat.le_of_ble_eq_true rfl)) dL_areDigits_2 ⟨Nat.le_of_ble_eq_true rfl, Nat.le_of_ble_eq_true rfl⟩) ?_
    refine g_topi (y := nI (d + 1)) (e1) ?_
    refine lv_istore (lv' := [(4, .int (nI (d + 1))), (0, .ref h), (1, .int (nI k)), (2, .int (nI j)), (3, .int (nI p))]) hx hb dL_areDigits_5 hl (by decide) rfl (fun ls hl => ?_)
    refine lv_aload_n hx hb dL_areDigits_7 rfl (lv_at hl 1 rfl) ?_
    refine lv_iload_n hx hb dL_areDigits_8 rfl (lv_at hl 2 rfl) ?_
    obtain ⟨fs9, he⟩ := hw.head
    refine g_callR (v0 := .long (sDs S k)) (va_runV (As := [.int (nI k)]) (rest := []) ⟨hx, hb, hml, hown, hts⟩ (e_par0 l hfl D y ad hn hw hk s.heap.size) (cwV 1 hts gL_areDigits_X7_partial rfl rfl rfl (by decide +kernel) ⟨Nat.le_of_ble_eq_true rfl, Nat.le_of_ble_eq_true rfl⟩) (gPX_VA hP hD hK hE hS hA 0 he rfl) rfl rfl hl.1 rfl (lv_room (Nat.le_of_ble_eq_true rfl)) dL_areDigits_9 ⟨Nat.le_of_ble_eq_true rfl, Nat.le_of_ble_eq_true rfl⟩) ?_
    refine lv_lstore (lv' := [(5, .long (sDs S k)), (4, .int (nI (d + 1))), (0, .ref h), (1, .int (nI k)), (2, .int (nI j)), (3, .int (nI p))]) hx hb dL_areDigits_12 hl (by decide) rfl (fun ls hl => ?_)
    refine lv_aload_n hx hb dL_areDigits_14 rfl (lv_at hl 2 rfl) ?_
    refine lv_bipush (v := 9) hx hb dL_areDigits_15 (by decide) ?_
    refine lv_iload_n hx hb dL_areDigits_17 rfl (lv_at hl 3 rfl) ?_
    refine lv_bipush (v := 24) hx hb dL_areDigits_18 (by decide) ?_
    refine g_topi (y := nI 24) (by decide) ?_
    refine lv_iconst (v := 0) hx hb dL_areDigits_20 (by decide) ?_
    refine g_callN (ws := []) (wc := w) (vx_runSW (As := [.ref h, .int 9, .int (nI k), .int (nI 24), .int 0]) (rest := []) ⟨hx, hb, hml, hown, hts⟩ (e_told l hfl D y ad hS9 hw (nI k) (nI 24) 0 s.heap.size) (vx_cwSW 5 hts gL_areDigits_L_does rfl rfl rfl (by decide +kernel) ⟨Nat.le_of_ble_eq_true rfl, Nat.le_of_ble_eq_true rfl⟩) (gPN_SA hP hD hK hE hN hS hA) rfl rfl hl.1 rfl (lv_room (Nat.le_of_ble_eq_true rfl)) dL_areDigits_21 ⟨Nat.le_of_ble_eq_true rfl, Nat.le_of_ble_eq_true rfl⟩) hP hD hS hA (fun v9 w1 H locs hf hP hD hS => ?_)
    obtain ⟨rfl, hw⟩ := hf
    refine g_topl (y := sFl S k 24) ((hS9.toldr hk (by decide) _).trans z1) ?_
    refine lv_lstore (lv' := [(7, .long (sFl S k 24)), (5, .long (sDs S k)), (4, .int (nI (d + 1))), (0, .ref h), (1, .int (nI k)), (2, .int (nI j)), (3, .int (nI p))]) hx hb dL_areDigits_24 hl (by decide) rfl (fun ls hl => ?_)
    refine lv_aload_n hx hb dL_areDigits_26 rfl (lv_at hl 3 rfl) ?_
    refine lv_bipush (v := 9) hx hb dL_areDigits_27 (by decide) ?_
    refine lv_iload_n hx hb dL_areDigits_29 rfl (lv_at hl 4 rfl) ?_
    refine lv_bipush (v := 24) hx hb dL_areDigits_30 (by decide) ?_
    refine g_topi (y := nI 24) (by decide) ?_
    refine lv_iconst (v := 1) hx hb dL_areDigits_32 (by decide) ?_
    refine g_callN (ws := []) (wc := w1) (vx_runSW (As := [.ref h, .int 9, .int (nI k), .int (nI 24), .int 1]) (rest := []) ⟨hx, hb, hml, hown, hts⟩ (e_told l hfl D y ad hS9 hw (nI k) (nI 24) 1 H.size) (vx_cwSW 5 hts gL_areDigits_L_does rfl rfl rfl (by decide +kernel) ⟨Nat.le_of_ble_eq_true rfl, Nat.le_of_ble_eq_true rfl⟩) (gPN_SA hP hD hK hE hN hS hA) rfl rfl hl.1 rfl (lv_room (Nat.le_of_ble_eq_true rfl)) dL_areDigits_33 ⟨Nat.le_of_ble_eq_true rfl, Nat.le_of_ble_eq_true rfl⟩) hP hD hS hA (fun v9 w2 H locs hf hP hD hS => ?_)
    obtain ⟨rfl, hw⟩ := hf
    refine g_topl (y := sFh S k 24) ((hS9.toldr hk (by decide) _).trans z2) ?_
    refine lv_lstore (lv' := [(9, .long (sFh S k 24)), (7, .long (sFl S k 24)), (5, .long (sDs S k)), (4, .int (nI (d + 1))), (0, .ref h), (1, .int (nI k)), (2, .int (nI j)), (3, .int (nI p))]) hx hb dL_areDigits_36 hl (by decide) rfl (fun ls hl => ?_)
    refine lv_lconst (v := 1) hx hb dL_areDigits_38 (by decide) ?_
    refine lv_bipush (v := 24) hx hb dL_areDigits_39 (by decide) ?_
    refine lv_iload hx hb dL_areDigits_41 (lv_at hl 3 rfl) ?_
    refine lv_isub hx hb dL_areDigits_43 ?_
    refine g_topi (y := nI (24 - (d + 1))) (q_sub (p := 24) (by decide) hd) ?_
    refine lv_lshl (v := jshl 1 (nI (24 - (d + 1)))) hx hb dL_areDigits_44 rfl ?_
    refine lv_lstore (lv' := [(11, .long (jshl 1 (nI (24 - (d + 1))))), (9, .long (sFh S k 24)), (7, .long (sFl S k 24)), (5, .long (sDs S k)), (4, .int (nI (d + 1))), (0, .ref h), (1, .int (nI k)), (2, .int (nI j)), (3, .int (nI p))]) hx hb dL_areDigits_45 hl (by decide) rfl (fun ls hl => ?_)
    refine lv_iload hx hb dL_areDigits_47 (lv_at hl 4 rfl) ?_
    refine lv_if_ne (tgt := 59) hx hb dL_areDigits_49 (by decide) (fun c_49 => ?_) (fun c_49 => absurd c_49 z9)
    refine lv_lload hx hb dL_areDigits_59 (lv_at hl 1 rfl) ?_
    refine lv_lload hx hb dL_areDigits_61 (lv_at hl 3 rfl) ?_
    refine lv_lconst (v := 1) hx hb dL_areDigits_63 (by decide) ?_
    refine lv_lsub hx hb dL_areDigits_64 ?_
    refine lv_lload hx hb dL_areDigits_65 (lv_at hl 0 rfl) ?_
    refine lv_lmul hx hb dL_areDigits_67 ?_
    refine g_lt (tgt := 110) hx hb dL_areDigits_68 dL_areDigits_69 (by decide) (fun c_68 => absurd c_68 z3) (fun c_68 => ?_)
    refine lv_lload hx hb dL_areDigits_72 (lv_at hl 2 rfl) ?_
    refine lv_lload hx hb dL_areDigits_74 (lv_at hl 3 rfl) ?_
    refine lv_lconst (v := 1) hx hb dL_areDigits_76 (by decide) ?_
    refine lv_ladd hx hb dL_areDigits_77 ?_
    refine lv_lload hx hb dL_areDigits_78 (lv_at hl 0 rfl) ?_
    refine lv_lmul hx hb dL_areDigits_80 ?_
    refine g_gt (tgt := 110) hx hb dL_areDigits_81 dL_areDigits_82 (by decide) (fun c_81 => absurd c_81 z4) (fun c_81 => ?_)
    refine lv_lload hx hb dL_areDigits_85 (lv_at hl 3 rfl) ?_
    refine lv_lconst (v := 1) hx hb dL_areDigits_87 (by decide) ?_
    refine lv_iload hx hb dL_areDigits_88 (lv_at hl 4 rfl) ?_
    refine lv_lshl (v := jshl 1 (nI (d + 1))) hx hb dL_areDigits_90 rfl ?_
    refine g_ge (tgt := 110) hx hb dL_areDigits_91 dL_areDigits_92 (by decide) (fun c_91 => absurd c_91 z5) (fun c_91 => ?_)
    refine lv_lload hx hb dL_areDigits_95 (lv_at hl 3 rfl) ?_
    refine lv_lconst (v := 1) hx hb dL_areDigits_97 (by decide) ?_
    refine lv_iload hx hb dL_areDigits_98 (lv_at hl 4 rfl) ?_
    refine lv_lshl (v := jshl 1 (nI (d + 1))) hx hb dL_areDigits_100 rfl ?_
    refine lv_lneg hx hb dL_areDigits_101 ?_
    refine g_le (tgt := 110) hx hb dL_areDigits_102 dL_areDigits_103 (by decide) (fun c_102 => absurd c_102 z6) (fun c_102 => ?_)
    refine lv_iconst (v := 1) hx hb dL_areDigits_106 (by decide) ?_
    refine lv_goto (tgt := 111) hx hb dL_areDigits_107 (by decide) ?_
    refine lv_istore (lv' := [(13, .int 1), (11, .long (jshl 1 (nI (24 - (d + 1))))), (9, .long (sFh S k 24)), (7, .long (sFl S k 24)), (5, .long (sDs S k)), (4, .int (nI (d + 1))), (0, .ref h), (1, .int (nI k)), (2, .int (nI j)), (3, .int (nI p))]) hx hb dL_areDigits_111 hl (by decide) rfl (fun ls hl => ?_)
    refine lv_iload hx hb dL_areDigits_113 (lv_at hl 0 rfl) ?_
    refine lv_if_eq (tgt := 185) hx hb dL_areDigits_115 (by decide) (fun c_115 => absurd c_115 (by decide)) (fun c_115 => ?_)
    refine lv_aload_n hx hb dL_areDigits_118 rfl (lv_at hl 6 rfl) ?_
    refine lv_iload_n hx hb dL_areDigits_119 rfl (lv_at hl 7 rfl) ?_
    refine lv_iload_n hx hb dL_areDigits_120 rfl (lv_at hl 7 rfl) ?_
    refine lv_iload_n hx hb dL_areDigits_121 rfl (lv_at hl 8 rfl) ?_
    refine lv_iload_n hx hb dL_areDigits_122 rfl (lv_at hl 9 rfl) ?_
    refine lv_iconst (v := 1) hx hb dL_areDigits_123 (by decide) ?_
    refine g_callN (ws := []) (wc := w2) (vx_runSW (As := [.ref h, .int (nI k), .int (nI k), .int (nI j), .int (nI p), .int (gB true)]) (rest := []) ⟨hx, hb, hml, hown, hts⟩ (e_instead l hfl D y ad hS9 hw (nI k) (nI k) (nI j) (nI p) true H.size) (vx_cwSW 6 hts gL_areDigits_L_instead rfl rfl rfl (by decide +kernel) ⟨Nat.le_of_ble_eq_true rfl, Nat.le_of_ble_eq_true rfl⟩) (gPN_SA hP hD hK hE hN hS hA) rfl rfl hl.1 rfl (lv_room (Nat.le_of_ble_eq_true rfl)) dL_areDigits_124 ⟨Nat.le_of_ble_eq_true rfl, Nat.le_of_ble_eq_true rfl⟩) hP hD hS hA (fun v9 w3 H locs hf hP hD hS => ?_)
    obtain ⟨rfl, hw⟩ := hf
    refine lv_aload_n hx hb dL_areDigits_127 rfl (lv_at hl 6 rfl) ?_
    refine lv_bipush (v := 8) hx hb dL_areDigits_128 (by decide) ?_
    refine lv_iload_n hx hb dL_areDigits_130 rfl (lv_at hl 8 rfl) ?_
    refine lv_iload_n hx hb dL_areDigits_131 rfl (lv_at hl 9 rfl) ?_
    refine lv_iconst (v := 1) hx hb dL_areDigits_132 (by decide) ?_
    refine g_callN (ws := []) (wc := w3) (vx_runSW (As := [.ref h, .int 8, .int (nI j), .int (nI p), .int 1]) (rest := [.long (dIns S (nI k) (nI k) (nI j) (nI p) true)]) ⟨hx, hb, hml, hown, hts⟩ (e_raw l hfl D y ad hS9 hw (nI j) (nI p) 1 H.size) (vx_cwSW 5 hts gL_areDigits_L_does rfl rfl rfl (by decide +kernel) ⟨Nat.le_of_ble_eq_true rfl, Nat.le_of_ble_eq_true rfl⟩) (gPN_SA hP hD hK hE hN hS hA) rfl rfl hl.1 rfl (lv_room (Nat.le_of_ble_eq_true rfl)) dL_areDigits_133 ⟨Nat.le_of_ble_eq_true rfl, Nat.le_of_ble_eq_true rfl⟩) hP hD hS hA (fun v9 w4 H locs hf hP hD hS => ?_)
    obtain ⟨rfl, hw⟩ := hf
    refine g_ne (tgt := 185) hx hb dL_areDigits_136 dL_areDigits_137 (by decide) (fun c_136 => absurd (hS9.ins1 hk hj hp true) c_136) (fun c_136 => ?_)
    refine lv_aload_n hx hb dL_areDigits_140 rfl (lv_at hl 6 rfl) ?_
    refine lv_iload_n hx hb dL_areDigits_141 rfl (lv_at hl 7 rfl) ?_
    refine lv_iload_n hx hb dL_areDigits_142 rfl (lv_at hl 8 rfl) ?_
    refine lv_iload_n hx hb dL_areDigits_143 rfl (lv_at hl 8 rfl) ?_
    refine lv_iload_n hx hb dL_areDigits_144 rfl (lv_at hl 9 rfl) ?_
    refine lv_iconst (v := 0) hx hb dL_areDigits_145 (by decide) ?_
    refine g_callN (ws := []) (wc := w4) (vx_runSW (As := [.ref h, .int (nI k), .int (nI j), .int (nI j), .int (nI p), .int (gB false)]) (rest := []) ⟨hx, hb, hml, hown, hts⟩ (e_instead l hfl D y ad hS9 hw (nI k) (nI j) (nI j) (nI p) false H.size) (vx_cwSW 6 hts gL_areDigits_L_instead rfl rfl rfl (by decide +kernel) ⟨Nat.le_of_ble_eq_true rfl, Nat.le_of_ble_eq_true rfl⟩) (gPN_SA hP hD hK hE hN hS hA) rfl rfl hl.1 rfl (lv_room (Nat.le_of_ble_eq_true rfl)) dL_areDigits_146 ⟨Nat.le_of_ble_eq_true rfl, Nat.le_of_ble_eq_true rfl⟩) hP hD hS hA (fun v9 w5 H locs hf hP hD hS => ?_)
    obtain ⟨rfl, hw⟩ := hf
    refine lv_aload_n hx hb dL_areDigits_149 rfl (lv_at hl 6 rfl) ?_
    refine lv_bipush (v := 8) hx hb dL_areDigits_150 (by decide) ?_
    refine lv_iload_n hx hb dL_areDigits_152 rfl (lv_at hl 7 rfl) ?_
    refine lv_iload_n hx hb dL_areDigits_153 rfl (lv_at hl 9 rfl) ?_
    refine lv_iconst (v := 0) hx hb dL_areDigits_154 (by decide) ?_
    refine g_callN (ws := []) (wc := w5) (vx_runSW (As := [.ref h, .int 8, .int (nI k), .int (nI p), .int 0]) (rest := [.long (dIns S (nI k) (nI j) (nI j) (nI p) false)]) ⟨hx, hb, hml, hown, hts⟩ (e_raw l hfl D y ad hS9 hw (nI k) (nI p) 0 H.size) (vx_cwSW 5 hts gL_areDigits_L_does rfl rfl rfl (by decide +kernel) ⟨Nat.le_of_ble_eq_true rfl, Nat.le_of_ble_eq_true rfl⟩) (gPN_SA hP hD hK hE hN hS hA) rfl rfl hl.1 rfl (lv_room (Nat.le_of_ble_eq_true rfl)) dL_areDigits_155 ⟨Nat.le_of_ble_eq_true rfl, Nat.le_of_ble_eq_true rfl⟩) hP hD hS hA (fun v9 w6 H locs hf hP hD hS => ?_)
    obtain ⟨rfl, hw⟩ := hf
    refine g_ne (tgt := 185) hx hb dL_areDigits_158 dL_areDigits_159 (by decide) (fun c_158 => absurd (hS9.ins2 hk hj hp false) c_158) (fun c_158 => ?_)
    refine lv_aload_n hx hb dL_areDigits_162 rfl (lv_at hl 6 rfl) ?_
    refine lv_iload_n hx hb dL_areDigits_163 rfl (lv_at hl 7 rfl) ?_
    obtain ⟨fs9, he⟩ := hw.head
    refine g_callR (v0 := .int (sp_J13_bitCount_95d88 (sPt S k))) (va_runV (As := [.int (nI k)]) (rest := []) ⟨hx, hb, hml, hown, hts⟩ (e_need0 l hfl D y ad hn hw hk H.size) (cwV 1 hts gL_areDigits_X7_needs rfl rfl rfl (by decide +kernel) ⟨Nat.le_of_ble_eq_true rfl, Nat.le_of_ble_eq_true rfl⟩) (gPX_VA hP hD hK hE hS hA 0 he rfl) rfl rfl hl.1 rfl (lv_room (Nat.le_of_ble_eq_true rfl)) dL_areDigits_164 ⟨Nat.le_of_ble_eq_true rfl, Nat.le_of_ble_eq_true rfl⟩) ?_
    refine g_topi (y := nI c9) (hc3) ?_
    refine lv_if_le (tgt := 185) hx hb dL_areDigits_167 (by decide) (fun c_167 => absurd c_167 (nI_nle (by omega) (by omega))) (fun c_167 => ?_)
    refine lv_aload_n hx hb dL_areDigits_170 rfl (lv_at hl 6 rfl) ?_
    refine lv_iload_n hx hb dL_areDigits_171 rfl (lv_at hl 7 rfl) ?_
    obtain ⟨fs9, he⟩ := hw.head
    refine g_callR (v0 := .int (sp_J13_bitCount_95d88 (sPt S k))) (va_runV (As := [.int (nI k)]) (rest := []) ⟨hx, hb, hml, hown, hts⟩ (e_need0 l hfl D y ad hn hw hk H.size) (cwV 1 hts gL_areDigits_X7_needs rfl rfl rfl (by decide +kernel) ⟨Nat.le_of_ble_eq_true rfl, Nat.le_of_ble_eq_true rfl⟩) (gPX_VA hP hD hK hE hS hA 0 he rfl) rfl rfl hl.1 rfl (lv_room (Nat.le_of_ble_eq_true rfl)) dL_areDigits_172 ⟨Nat.le_of_ble_eq_true rfl, Nat.le_of_ble_eq_true rfl⟩) ?_
    refine g_topi (y := nI c9) (hc3) ?_
    refine lv_iload_n hx hb dL_areDigits_175 rfl (lv_at hl 7 rfl) ?_
    refine lv_iconst (v := 1) hx hb dL_areDigits_176 (by decide) ?_
    refine lv_iadd hx hb dL_areDigits_177 ?_
    refine g_topi (nI_add k 1) ?_
    refine lv_icmp_gt (tgt := 185) hx hb dL_areDigits_178 (by decide) (fun c_178 => absurd c_178 (nI_nlt (by omega) (by omega))) (fun c_178 => ?_)
    refine lv_iconst (v := 1) hx hb dL_areDigits_181 (by decide) ?_
    refine lv_goto (tgt := 186) hx hb dL_areDigits_182 (by decide) ?_
    refine W.widen (k := 10) (n := 60) (Nat.le_of_ble_eq_true rfl) (Nat.le_of_ble_eq_true rfl) ?_
    exact W.zret (v := 1) hx hb hr (by decide) (fun t ht hW => ⟨⟨_, w6, rfl, ⟨rfl, hw⟩, by rw [← hAe]; exact hD, by rw [ht]; exact hP⟩, by rw [← hAe]; exact hS.F ht⟩) (by rw [← hAe]; exact hS.2.2) dL_areDigits_186
