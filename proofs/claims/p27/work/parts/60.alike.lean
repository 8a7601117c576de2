set_option maxHeartbeats 4000000 in
set_option maxRecDepth 100000 in
theorem c_L_areAlike (l : Launch) (hfl : l.stackTraces = false) (D : va_G) (y : Nat → ClassId) (ad : Nat → Nat) {S : St} (hS9 : SI S) (h0n : 0 < sN S) {h1 h2 : Nat} {w1 w2 : va_W} (hwa : OW y ad h1 S w1) (hwb : OW y ad h2 S w2) (v0 : Int32) (sz : Nat) : Met l yL_areAlike wsL_areAlike ({ frames := 12, cells := 322, slots := 1932, locals := 440 } : Room) (gPN D y ad [.ref h1, .ref h2, .int v0] (w1 ++ w2) sz) (gQn D (w1 ++ w2) (fun v w => v = some (.int 1) ∧ ∃ wa wb : va_W, w = wa ++ wb ∧ OW y ad h1 S wa ∧ OW y ad h2 S wb)) 322 1932 (va_A (w1 ++ w2) sz) := by
  have hn : sN S ≤ 40 := hS9.1
  refine Met.ofW (cc := cL_areAlike) (maxL := 6) (ret := (some .boolean)) (by decide) rfl ?_
  intro pg e s m args below meth c s₁ B hml hv
  obtain ⟨rfl, ⟨hsz, hP, hK, hD0, hE0⟩, hN⟩ := hv
  have hx := B.exec
  have hb := B.bytes
  have hr := B.returns
  have hts := atoms_spec (ws := wsL_areAlike) B.pre
  have hown : s.vm.findClass RL = some m.cls := findClass_of_methodNamed B.named
  have hlocks := B.notSynchronized
  subst hsz
  obtain ⟨A, hAe⟩ : ∃ A : Nat → Prop, A = va_A (w1 ++ w2) s.heap.size := ⟨_, rfl⟩
  have hE : gE ad A s s.heap := by rw [hAe]; exact hE0
  have hD : va_D A (w1 ++ w2) := by rw [hAe]; exact hD0.self (sz := s.heap.size)
  have hA : ∀ q : Nat, s.heap.size ≤ q → A q := fun q h => by rw [hAe]; exact Or.inr h
  have hS : va_S A s.heap s.heap [] := va_S.rf
  have hl := lv_entry ([.ref h1, .ref h2, .int v0]) (n := 6) (Nat.le_of_ble_eq_true rfl)
  rw [lg_entry_eq]
  generalize (lg_sl ([.ref h1, .ref h2, .int v0]) ++ List.replicate (6 - (lg_sl ([.ref h1, .ref h2, .int v0])).length) Slot.unset).toArray = ls at hl ⊢
  have hl : lv_has ls 6 [(0, .ref h1), (1, .ref h2), (2, .int v0)] := hl
  have LOOP23 : ∀ (r k : Nat), k + r = sN S → ∀ (wa wb : va_W), OW y ad h1 S wa → OW y ad h2 S wb → ∀ (H : Heap) (locs : List Loc), va_P D vwCl (wa ++ wb) H → va_D A (wa ++ wb) → va_S A s.heap H locs → ∀ (ls : Array Slot), lv_has ls 6 [(0, .ref h1), (1, .ref h2), (2, .int v0), (3, .int (nI (sN S))), (4, .int 1), (5, .int (nI k))] → W pg l e (headSpec wsL_areAlike ({ frames := 12, cells := 322, slots := 1932, locals := 440 } : Room)).room s m (([.ref h1, .ref h2, .int v0] : List Value).toArray) below meth c H locs (8 * k) (48 * k) (MQ below (gQn D (w1 ++ w2) (fun v w => v = some (.int 1) ∧ ∃ wa wb : va_W, w = wa ++ wb ∧ OW y ad h1 S wa ∧ OW y ad h2 S wb)) (([.ref h1, .ref h2, .int v0] : List Value).toArray) s 322 1932 (va_A (w1 ++ w2) s.heap.size)) (F0 m 23 ls []) := by
    intro r
    induction r with
    | zero =>
      intro k hk9 wa wb hwa hwb H locs hP hD hS ls hl
      refine lv_iload hx hb dL_areAlike_23 (lv_at hl 5 rfl) ?_
      refine lv_iload_n hx hb dL_areAlike_25 rfl (lv_at hl 3 rfl) ?_
      refine lv_icmp_ge (tgt := 153) hx hb dL_areAlike_26 (by decide) (fun c_26 => ?_) (fun c_26 => absurd ((nI_leI (by omega) (by omega)).mpr (by omega)) c_26)
      refine lv_iload_n hx hb dL_areAlike_153 rfl (lv_at hl 2 rfl) ?_
      refine lv_iload_n hx hb dL_areAlike_154 rfl (lv_at hl 3 rfl) ?_
      refine g_callR (v0 := .int (lowV v0 (nI (sN S)))) (va_runS (As := [.int v0, .int (nI (sN S))]) (rest := []) ⟨hx, hb, hml, hown, hts⟩ (c_L_low l D y H.size v0 (nI (sN S)) (nI_ne0 (by omega) (by omega))) (va_cwS 2 hts gL_areAlike_L_low rfl rfl rfl (by decide +kernel) ⟨Nat.le_of_ble_eq_true rfl, Nat.le_of_ble_eq_true rfl⟩) (gP_S hP hD hK [] (by decide) rfl) rfl rfl hl.1 rfl (lv_room (Nat.le_of_ble_eq_true rfl)) dL_areAlike_155 ⟨by show 8 * k ≤ 322; omega, by show 48 * k ≤ 1932; omega⟩) ?_
      refine lv_istore (lv' := [(5, .int (lowV v0 (nI (sN S)))), (0, .ref h1), (1, .ref h2), (2, .int v0), (3, .int (nI (sN S))), (4, .int 1)]) hx hb dL_areAlike_158 hl (by decide) rfl (fun ls hl => ?_)
      refine lv_iload hx hb dL_areAlike_160 (lv_at hl 5 rfl) ?_
      refine lv_if_eq (tgt := 207) hx hb dL_areAlike_162 (by decide) (fun c_162 => absurd c_162 (by decide)) (fun c_162 => ?_)
      refine lv_aload_n hx hb dL_areAlike_165 rfl (lv_at hl 1 rfl) ?_
      refine lv_bipush (v := 9) hx hb dL_areAlike_166 (by decide) ?_
      refine lv_iload hx hb dL_areAlike_168 (lv_at hl 0 rfl) ?_
      refine lv_iload_n hx hb dL_areAlike_170 rfl (lv_at hl 3 rfl) ?_
      refine lv_iconst (v := 3) hx hb dL_areAlike_171 (by decide) ?_
      refine lv_ishr hx hb dL_areAlike_172 ?_
      refine lv_bipush (v := 13) hx hb dL_areAlike_173 (by decide) ?_
      refine g_callR (v0 := .int (lowV (sh v0 3) 13)) (va_runS (As := [.int (sh v0 3), .int 13]) (rest := [.int (lowV v0 (nI (sN S))), .int 9, .ref h1]) ⟨hx, hb, hml, hown, hts⟩ (c_L_low l D y H.size (sh v0 3) 13 (by decide)) (va_cwS 2 hts gL_areAlike_L_low rfl rfl rfl (by decide +kernel) ⟨Nat.le_of_ble_eq_true rfl, Nat.le_of_ble_eq_true rfl⟩) (gP_S hP hD hK [] (by decide) rfl) rfl rfl hl.1 rfl (lv_room (Nat.le_of_ble_eq_true rfl)) dL_areAlike_175 ⟨by show 8 * k ≤ 322; omega, by show 48 * k ≤ 1932; omega⟩) ?_
      refine lv_iconst (v := 0) hx hb dL_areAlike_178 (by decide) ?_
      have hP := va_P_sw hP
      have hD := va_D_sw hD
      refine g_callN (ws := wb) (wc := wa) (vx_runSW (As := [.ref h1, .int 9, .int (lowV v0 (nI (sN S))), .int (lowV (sh v0 3) 13), .int 0]) (rest := []) ⟨hx, hb, hml, hown, hts⟩ (e_told l hfl D y ad hS9 hwa (lowV v0 (nI (sN S))) (lowV (sh v0 3) 13) 0 H.size) (vx_cwSW 5 hts gL_areAlike_L_does rfl rfl rfl (by decide +kernel) ⟨Nat.le_of_ble_eq_true rfl, Nat.le_of_ble_eq_true rfl⟩) (gPN_SA (va_P_r hP) (va_D_r hD) hK hE hN hS hA) rfl rfl hl.1 rfl (lv_room (Nat.le_of_ble_eq_true rfl)) dL_areAlike_179 ⟨by show 8 * k + 1 ≤ 322; omega, by show 48 * k + 6 ≤ 1932; omega⟩) hP hD hS hA (fun v9 w7 H locs hf hP hD hS => ?_)
      obtain ⟨rfl, hwa⟩ := hf
      refine lv_aload_n hx hb dL_areAlike_182 rfl (lv_at hl 2 rfl) ?_
      refine lv_bipush (v := 9) hx hb dL_areAlike_183 (by decide) ?_
      refine lv_iload hx hb dL_areAlike_185 (lv_at hl 0 rfl) ?_
      refine lv_iload_n hx hb dL_areAlike_187 rfl (lv_at hl 3 rfl) ?_
      refine lv_iconst (v := 3) hx hb dL_areAlike_188 (by decide) ?_
      refine lv_ishr hx hb dL_areAlike_189 ?_
      refine lv_bipush (v := 13) hx hb dL_areAlike_190 (by decide) ?_
      refine g_callR (v0 := .int (lowV (sh v0 3) 13)) (va_runS (As := [.int (sh v0 3), .int 13]) (rest := [.int (lowV v0 (nI (sN S))), .int 9, .ref h2, .long (dTold S (lowV v0 (nI (sN S))) (lowV (sh v0 3) 13) (decide (0 = 1)))]) ⟨hx, hb, hml, hown, hts⟩ (c_L_low l D y H.size (sh v0 3) 13 (by decide)) (va_cwS 2 hts gL_areAlike_L_low rfl rfl rfl (by decide +kernel) ⟨Nat.le_of_ble_eq_true rfl, Nat.le_of_ble_eq_true rfl⟩) (gP_S hP hD hK [] (by decide) rfl) rfl rfl hl.1 rfl (lv_room (Nat.le_of_ble_eq_true rfl)) dL_areAlike_192 ⟨by show 8 * k + 1 ≤ 322; omega, by show 48 * k + 6 ≤ 1932; omega⟩) ?_
      refine lv_iconst (v := 0) hx hb dL_areAlike_195 (by decide) ?_
      have hP := va_P_sw hP
      have hD := va_D_sw hD
      refine g_callN (ws := w7) (wc := wb) (vx_runSW (As := [.ref h2, .int 9, .int (lowV v0 (nI (sN S))), .int (lowV (sh v0 3) 13), .int 0]) (rest := [.long (dTold S (lowV v0 (nI (sN S))) (lowV (sh v0 3) 13) (decide (0 = 1)))]) ⟨hx, hb, hml, hown, hts⟩ (e_told l hfl D y ad hS9 hwb (lowV v0 (nI (sN S))) (lowV (sh v0 3) 13) 0 H.size) (vx_cwSW 5 hts gL_areAlike_L_does rfl rfl rfl (by decide +kernel) ⟨Nat.le_of_ble_eq_true rfl, Nat.le_of_ble_eq_true rfl⟩) (gPN_SA (va_P_r hP) (va_D_r hD) hK hE hN hS hA) rfl rfl hl.1 rfl (lv_room (Nat.le_of_ble_eq_true rfl)) dL_areAlike_196 ⟨by show 8 * k + 1 + 1 ≤ 322; omega, by show 48 * k + 6 + 6 ≤ 1932; omega⟩) hP hD hS hA (fun v9 w8 H locs hf hP hD hS => ?_)
      obtain ⟨rfl, hwb⟩ := hf
      refine g_ne (tgt := 207) hx hb dL_areAlike_199 dL_areAlike_200 (by decide) (fun c_199 => absurd rfl c_199) (fun c_199 => ?_)
      refine lv_iconst (v := 1) hx hb dL_areAlike_203 (by decide) ?_
      refine lv_goto (tgt := 208) hx hb dL_areAlike_204 (by decide) ?_
      refine W.widen (k := 322) (n := 1932) (by omega) (by omega) ?_
      exact W.zret (v := 1) hx hb hr (by decide) (fun t ht hW => ⟨⟨_, w7 ++ w8, rfl, ⟨rfl, w7, w8, rfl, hwa, hwb⟩, by rw [← hAe]; exact hD, by rw [ht]; exact hP⟩, by rw [← hAe]; exact hS.F ht⟩) (by rw [← hAe]; exact hS.2.2) dL_areAlike_208
    | succ r ih =>
      intro k hk9 wa wb hwa hwb H locs hP hD hS ls hl
      refine lv_iload hx hb dL_areAlike_23 (lv_at hl 5 rfl) ?_
      refine lv_iload_n hx hb dL_areAlike_25 rfl (lv_at hl 3 rfl) ?_
      refine lv_icmp_ge (tgt := 153) hx hb dL_areAlike_26 (by decide) (fun c_26 => absurd c_26 ((fun z => absurd ((nI_leI (by omega) (by omega)).mp z) (by omega)))) (fun c_26 => ?_)
      refine lv_iload hx hb dL_areAlike_29 (lv_at hl 4 rfl) ?_
      refine lv_if_eq (tgt := 153) hx hb dL_areAlike_31 (by decide) (fun c_31 => absurd c_31 (by decide)) (fun c_31 => ?_)
      refine lv_aload_n hx hb dL_areAlike_34 rfl (lv_at hl 0 rfl) ?_
      refine lv_bipush (v := 17) hx hb dL_areAlike_35 (by decide) ?_
      refine lv_iload hx hb dL_areAlike_37 (lv_at hl 5 rfl) ?_
      refine lv_iconst (v := 0) hx hb dL_areAlike_39 (by decide) ?_
      refine lv_iconst (v := 0) hx hb dL_areAlike_40 (by decide) ?_
      have hP := va_P_sw hP
      have hD := va_D_sw hD
      refine g_callN (ws := wb) (wc := wa) (vx_runSW (As := [.ref h1, .int 17, .int (nI k), .int 0, .int 0]) (rest := []) ⟨hx, hb, hml, hown, hts⟩ (e_emitted l hfl D y ad hS9 hwa (nI k) 0 0 H.size) (vx_cwSW 5 hts gL_areAlike_L_does rfl rfl rfl (by decide +kernel) ⟨Nat.le_of_ble_eq_true rfl, Nat.le_of_ble_eq_true rfl⟩) (gPN_SA (va_P_r hP) (va_D_r hD) hK hE hN hS hA) rfl rfl hl.1 rfl (lv_room (Nat.le_of_ble_eq_true rfl)) dL_areAlike_41 ⟨by show 8 * k + 1 ≤ 322; omega, by show 48 * k + 6 ≤ 1932; omega⟩) hP hD hS hA (fun v9 w9 H locs hf hP hD hS => ?_)
      obtain ⟨rfl, hwa⟩ := hf
      refine lv_aload_n hx hb dL_areAlike_44 rfl (lv_at hl 1 rfl) ?_
      refine lv_bipush (v := 17) hx hb dL_areAlike_45 (by decide) ?_
      refine lv_iload hx hb dL_areAlike_47 (lv_at hl 5 rfl) ?_
      refine lv_iconst (v := 0) hx hb dL_areAlike_49 (by decide) ?_
      refine lv_iconst (v := 0) hx hb dL_areAlike_50 (by decide) ?_
      have hP := va_P_sw hP
      have hD := va_D_sw hD
      refine g_callN (ws := w9) (wc := wb) (vx_runSW (As := [.ref h2, .int 17, .int (nI k), .int 0, .int 0]) (rest := [.long (dEmi S (nI k))]) ⟨hx, hb, hml, hown, hts⟩ (e_emitted l hfl D y ad hS9 hwb (nI k) 0 0 H.size) (vx_cwSW 5 hts gL_areAlike_L_does rfl rfl rfl (by decide +kernel) ⟨Nat.le_of_ble_eq_true rfl, Nat.le_of_ble_eq_true rfl⟩) (gPN_SA (va_P_r hP) (va_D_r hD) hK hE hN hS hA) rfl rfl hl.1 rfl (lv_room (Nat.le_of_ble_eq_true rfl)) dL_areAlike_51 ⟨by show 8 * k + 1 + 1 ≤ 322; omega, by show 48 * k + 6 + 6 ≤ 1932; omega⟩) hP hD hS hA (fun v9 w10 H locs hf hP hD hS => ?_)
      obtain ⟨rfl, hwb⟩ := hf
      refine g_ne (tgt := 144) hx hb dL_areAlike_54 dL_areAlike_55 (by decide) (fun c_54 => absurd rfl c_54) (fun c_54 => ?_)
      refine lv_aload_n hx hb dL_areAlike_58 rfl (lv_at hl 0 rfl) ?_
      refine lv_bipush (v := 18) hx hb dL_areAlike_59 (by decide) ?_
      refine lv_iload hx hb dL_areAlike_61 (lv_at hl 5 rfl) ?_
      refine lv_iconst (v := 0) hx hb dL_areAlike_63 (by decide) ?_
      refine lv_iconst (v := 0) hx hb dL_areAlike_64 (by decide) ?_
      have hP := va_P_sw hP
      have hD := va_D_sw hD
      refine g_callN (ws := w10) (wc := w9) (vx_runSW (As := [.ref h1, .int 18, .int (nI k), .int 0, .int 0]) (rest := []) ⟨hx, hb, hml, hown, hts⟩ (e_partial l hfl D y ad hS9 hwa (nI k) 0 0 H.size) (vx_cwSW 5 hts gL_areAlike_L_does rfl rfl rfl (by decide +kernel) ⟨Nat.le_of_ble_eq_true rfl, Nat.le_of_ble_eq_true rfl⟩) (gPN_SA (va_P_r hP) (va_D_r hD) hK hE hN hS hA) rfl rfl hl.1 rfl (lv_room (Nat.le_of_ble_eq_true rfl)) dL_areAlike_65 ⟨by show 8 * k + 1 + 1 + 1 ≤ 322; omega, by show 48 * k + 6 + 6 + 6 ≤ 1932; omega⟩) hP hD hS hA (fun v9 w11 H locs hf hP hD hS => ?_)
      obtain ⟨rfl, hwa⟩ := hf
      refine lv_aload_n hx hb dL_areAlike_68 rfl (lv_at hl 1 rfl) ?_
      refine lv_bipush (v := 18) hx hb dL_areAlike_69 (by decide) ?_
      refine lv_iload hx hb dL_areAlike_71 (lv_at hl 5 rfl) ?_
      refine lv_iconst (v := 0) hx hb dL_areAlike_73 (by decide) ?_
      refine lv_iconst (v := 0) hx hb dL_areAlike_74 (by decide) ?_
      have hP := va_P_sw hP
      have hD := va_D_sw hD
      refine g_callN (ws := w11) (wc := w10) (vx_runSW (As := [.ref h2, .int 18, .int (nI k), .int 0, .int 0]) (rest := [.long (dPar S (nI k))]) ⟨hx, hb, hml, hown, hts⟩ (e_partial l hfl D y ad hS9 hwb (nI k) 0 0 H.size) (vx_cwSW 5 hts gL_areAlike_L_does rfl rfl rfl (by decide +kernel) ⟨Nat.le_of_ble_eq_true rfl, Nat.le_of_ble_eq_true rfl⟩) (gPN_SA (va_P_r hP) (va_D_r hD) hK hE hN hS hA) rfl rfl hl.1 rfl (lv_room (Nat.le_of_ble_eq_true rfl)) dL_areAlike_75 ⟨by show 8 * k + 1 + 1 + 1 + 1 ≤ 322; omega, by show 48 * k + 6 + 6 + 6 + 6 ≤ 1932; omega⟩) hP hD hS hA (fun v9 w12 H locs hf hP hD hS => ?_)
      obtain ⟨rfl, hwb⟩ := hf
      refine g_ne (tgt := 144) hx hb dL_areAlike_78 dL_areAlike_79 (by decide) (fun c_78 => absurd rfl c_78) (fun c_78 => ?_)
      refine lv_aload_n hx hb dL_areAlike_82 rfl (lv_at hl 0 rfl) ?_
      refine lv_bipush (v := 20) hx hb dL_areAlike_83 (by decide) ?_
      refine lv_iload hx hb dL_areAlike_85 (lv_at hl 5 rfl) ?_
      refine lv_iconst (v := 0) hx hb dL_areAlike_87 (by decide) ?_
      refine lv_iconst (v := 0) hx hb dL_areAlike_88 (by decide) ?_
      have hP := va_P_sw hP
      have hD := va_D_sw hD
      refine g_callN (ws := w12) (wc := w11) (vx_runSW (As := [.ref h1, .int 20, .int (nI k), .int 0, .int 0]) (rest := []) ⟨hx, hb, hml, hown, hts⟩ (e_needs l hfl D y ad hS9 hwa (nI k) 0 0 H.size) (vx_cwSW 5 hts gL_areAlike_L_does rfl rfl rfl (by decide +kernel) ⟨Nat.le_of_ble_eq_true rfl, Nat.le_of_ble_eq_true rfl⟩) (gPN_SA (va_P_r hP) (va_D_r hD) hK hE hN hS hA) rfl rfl hl.1 rfl (lv_room (Nat.le_of_ble_eq_true rfl)) dL_areAlike_89 ⟨by show 8 * k + 1 + 1 + 1 + 1 + 1 ≤ 322; omega, by show 48 * k + 6 + 6 + 6 + 6 + 6 ≤ 1932; omega⟩) hP hD hS hA (fun v9 w13 H locs hf hP hD hS => ?_)
      obtain ⟨rfl, hwa⟩ := hf
      refine lv_aload_n hx hb dL_areAlike_92 rfl (lv_at hl 1 rfl) ?_
      refine lv_bipush (v := 20) hx hb dL_areAlike_93 (by decide) ?_
      refine lv_iload hx hb dL_areAlike_95 (lv_at hl 5 rfl) ?_
      refine lv_iconst (v := 0) hx hb dL_areAlike_97 (by decide) ?_
      refine lv_iconst (v := 0) hx hb dL_areAlike_98 (by decide) ?_
      have hP := va_P_sw hP
      have hD := va_D_sw hD
      refine g_callN (ws := w13) (wc := w12) (vx_runSW (As := [.ref h2, .int 20, .int (nI k), .int 0, .int 0]) (rest := [.long (dNeed S (nI k))]) ⟨hx, hb, hml, hown, hts⟩ (e_needs l hfl D y ad hS9 hwb (nI k) 0 0 H.size) (vx_cwSW 5 hts gL_areAlike_L_does rfl rfl rfl (by decide +kernel) ⟨Nat.le_of_ble_eq_true rfl, Nat.le_of_ble_eq_true rfl⟩) (gPN_SA (va_P_r hP) (va_D_r hD) hK hE hN hS hA) rfl rfl hl.1 rfl (lv_room (Nat.le_of_ble_eq_true rfl)) dL_areAlike_99 ⟨by show 8 * k + 1 + 1 + 1 + 1 + 1 + 1 ≤ 322; omega, by show 48 * k + 6 + 6 + 6 + 6 + 6 + 6 ≤ 1932; omega⟩) hP hD hS hA (fun v9 w14 H locs hf hP hD hS => ?_)
      obtain ⟨rfl, hwb⟩ := hf
      refine g_ne (tgt := 144) hx hb dL_areAlike_102 dL_areAlike_103 (by decide) (fun c_102 => absurd rfl c_102) (fun c_102 => ?_)
      refine lv_aload_n hx hb dL_areAlike_106 rfl (lv_at hl 0 rfl) ?_
      refine lv_bipush (v := 8) hx hb dL_areAlike_107 (by decide) ?_
      refine lv_iload hx hb dL_areAlike_109 (lv_at hl 5 rfl) ?_
      refine lv_iload_n hx hb dL_areAlike_111 rfl (lv_at hl 2 rfl) ?_
      refine lv_bipush (v := 13) hx hb dL_areAlike_112 (by decide) ?_
      refine g_callR (v0 := .int (lowV v0 13)) (va_runS (As := [.int v0, .int 13]) (rest := [.int (nI k), .int 8, .ref h1]) ⟨hx, hb, hml, hown, hts⟩ (c_L_low l D y H.size v0 13 (by decide)) (va_cwS 2 hts gL_areAlike_L_low rfl rfl rfl (by decide +kernel) ⟨Nat.le_of_ble_eq_true rfl, Nat.le_of_ble_eq_true rfl⟩) (gP_S hP hD hK [] (by decide) rfl) rfl rfl hl.1 rfl (lv_room (Nat.le_of_ble_eq_true rfl)) dL_areAlike_114 ⟨by show 8 * k + 1 + 1 + 1 + 1 + 1 + 1 ≤ 322; omega, by show 48 * k + 6 + 6 + 6 + 6 + 6 + 6 ≤ 1932; omega⟩) ?_
      refine lv_iconst (v := 1) hx hb dL_areAlike_117 (by decide) ?_
      have hP := va_P_sw hP
      have hD := va_D_sw hD
      refine g_callN (ws := w14) (wc := w13) (vx_runSW (As := [.ref h1, .int 8, .int (nI k), .int (lowV v0 13), .int 1]) (rest := []) ⟨hx, hb, hml, hown, hts⟩ (e_raw l hfl D y ad hS9 hwa (nI k) (lowV v0 13) 1 H.size) (vx_cwSW 5 hts gL_areAlike_L_does rfl rfl rfl (by decide +kernel) ⟨Nat.le_of_ble_eq_true rfl, Nat.le_of_ble_eq_true rfl⟩) (gPN_SA (va_P_r hP) (va_D_r hD) hK hE hN hS hA) rfl rfl hl.1 rfl (lv_room (Nat.le_of_ble_eq_true rfl)) dL_areAlike_118 ⟨by show 8 * k + 1 + 1 + 1 + 1 + 1 + 1 + 1 ≤ 322; omega, by show 48 * k + 6 + 6 + 6 + 6 + 6 + 6 + 6 ≤ 1932; omega⟩) hP hD hS hA (fun v9 w15 H locs hf hP hD hS => ?_)
      obtain ⟨rfl, hwa⟩ := hf
      refine lv_aload_n hx hb dL_areAlike_121 rfl (lv_at hl 1 rfl) ?_
      refine lv_bipush (v := 8) hx hb dL_areAlike_122 (by decide) ?_
      refine lv_iload hx hb dL_areAlike_124 (lv_at hl 5 rfl) ?_
      refine lv_iload_n hx hb dL_areAlike_126 rfl (lv_at hl 2 rfl) ?_
      refine lv_bipush (v := 13) hx hb dL_areAlike_127 (by decide) ?_
      refine g_callR (v0 := .int (lowV v0 13)) (va_runS (As := [.int v0, .int 13]) (rest := [.int (nI k), .int 8, .ref h2, .long (dRaw S (nI k) (lowV v0 13) (decide (1 = 1)))]) ⟨hx, hb, hml, hown, hts⟩ (c_L_low l D y H.size v0 13 (by decide)) (va_cwS 2 hts gL_areAlike_L_low rfl rfl rfl (by decide +kernel) ⟨Nat.le_of_ble_eq_true rfl, Nat.le_of_ble_eq_true rfl⟩) (gP_S hP hD hK [] (by decide) rfl) rfl rfl hl.1 rfl (lv_room (Nat.le_of_ble_eq_true rfl)) dL_areAlike_129 ⟨by show 8 * k + 1 + 1 + 1 + 1 + 1 + 1 + 1 ≤ 322; omega, by show 48 * k + 6 + 6 + 6 + 6 + 6 + 6 + 6 ≤ 1932; omega⟩) ?_
      refine lv_iconst (v := 1) hx hb dL_areAlike_132 (by decide) ?_
      have hP := va_P_sw hP
      have hD := va_D_sw hD
      refine g_callN (ws := w15) (wc := w14) (vx_runSW (As := [.ref h2, .int 8, .int (nI k), .int (lowV v0 13), .int 1]) (rest := [.long (dRaw S (nI k) (lowV v0 13) (decide (1 = 1)))]) ⟨hx, hb, hml, hown, hts⟩ (e_raw l hfl D y ad hS9 hwb (nI k) (lowV v0 13) 1 H.size) (vx_cwSW 5 hts gL_areAlike_L_does rfl rfl rfl (by decide +kernel) ⟨Nat.le_of_ble_eq_true rfl, Nat.le_of_ble_eq_true rfl⟩) (gPN_SA (va_P_r hP) (va_D_r hD) hK hE hN hS hA) rfl rfl hl.1 rfl (lv_room (Nat.le_of_ble_eq_true rfl)) dL_areAlike_133 ⟨by show 8 * k + 1 + 1 + 1 + 1 + 1 + 1 + 1 + 1 ≤ 322; omega, by show 48 * k + 6 + 6 + 6 + 6 + 6 + 6 + 6 + 6 ≤ 1932; omega⟩) hP hD hS hA (fun v9 w16 H locs hf hP hD hS => ?_)
      obtain ⟨rfl, hwb⟩ := hf
      refine g_ne (tgt := 144) hx hb dL_areAlike_136 dL_areAlike_137 (by decide) (fun c_136 => absurd rfl c_136) (fun c_136 => ?_)
      refine lv_iconst (v := 1) hx hb dL_areAlike_140 (by decide) ?_
      refine lv_goto (tgt := 145) hx hb dL_areAlike_141 (by decide) ?_
      refine lv_istore (lv' := [(4, .int 1), (0, .ref h1), (1, .ref h2), (2, .int v0), (3, .int (nI (sN S))), (5, .int (nI k))]) hx hb dL_areAlike_145 hl (by decide) rfl (fun ls hl => ?_)
      refine lv_iinc (v := nI (k + 1)) (lv' := [(5, .int (nI (k + 1))), (4, .int 1), (0, .ref h1), (1, .ref h2), (2, .int v0), (3, .int (nI (sN S)))]) hx hb dL_areAlike_147 hl (k := 5) rfl (nI_add k 1) (by decide) rfl (fun ls hl => ?_)
      refine lv_goto (tgt := 23) hx hb dL_areAlike_150 (by decide) ?_
      refine W.widen (k := 8 * (k + 1)) (n := 48 * (k + 1)) (by omega) (by omega) ?_
      exact ih (k + 1) (by omega) w15 w16 hwa hwb H locs hP hD hS ls (lv_sub hl [2, 3, 4, 5, 1, 0] rfl)
  refine lv_aload_n hx hb dL_areAlike_0 rfl (lv_at hl 0 rfl) ?_
  obtain ⟨fs1, he1⟩ := hwa.head
  refine g_callR (v0 := .int (nI (sN S))) (va_runV (As := []) (rest := []) ⟨hx, hb, hml, hown, hts⟩ (e_count l hfl D y ad hwa s.heap.size) (cwV 0 hts gL_areAlike_X7_count rfl rfl rfl (by decide +kernel) ⟨Nat.le_of_ble_eq_true rfl, Nat.le_of_ble_eq_true rfl⟩) (gPX_VA (va_P_r (va_P_sw hP)) (va_D_r (va_D_sw hD)) hK hE hS hA 0 he1 rfl) rfl rfl hl.1 rfl (lv_room (Nat.le_of_ble_eq_true rfl)) dL_areAlike_1 ⟨Nat.le_of_ble_eq_true rfl, Nat.le_of_ble_eq_true rfl⟩) ?_
  refine lv_istore_n (lv' := [(3, .int (nI (sN S))), (0, .ref h1), (1, .ref h2), (2, .int v0)]) hx hb dL_areAlike_4 rfl hl (by decide) rfl (fun ls hl => ?_)
  refine lv_iload_n hx hb dL_areAlike_5 rfl (lv_at hl 0 rfl) ?_
  refine lv_aload_n hx hb dL_areAlike_6 rfl (lv_at hl 2 rfl) ?_
  obtain ⟨fs2, he2⟩ := hwb.head
  refine g_callR (v0 := .int (nI (sN S))) (va_runV (As := []) (rest := [.int (nI (sN S))]) ⟨hx, hb, hml, hown, hts⟩ (e_count l hfl D y ad hwb s.heap.size) (cwV 0 hts gL_areAlike_X7_count rfl rfl rfl (by decide +kernel) ⟨Nat.le_of_ble_eq_true rfl, Nat.le_of_ble_eq_true rfl⟩) (gPX_VA (va_P_r hP) (va_D_r hD) hK hE hS hA 0 he2 rfl) rfl rfl hl.1 rfl (lv_room (Nat.le_of_ble_eq_true rfl)) dL_areAlike_7 ⟨Nat.le_of_ble_eq_true rfl, Nat.le_of_ble_eq_true rfl⟩) ?_
  refine lv_icmp_ne (tgt := 17) hx hb dL_areAlike_10 (by decide) (fun c_10 => absurd rfl c_10) (fun c_10 => ?_)
  refine lv_iconst (v := 1) hx hb dL_areAlike_13 (by decide) ?_
  refine lv_goto (tgt := 18) hx hb dL_areAlike_14 (by decide) ?_
  refine lv_istore (lv' := [(4, .int 1), (3, .int (nI (sN S))), (0, .ref h1), (1, .ref h2), (2, .int v0)]) hx hb dL_areAlike_18 hl (by decide) rfl (fun ls hl => ?_)
  refine lv_iconst (v := 0) hx hb dL_areAlike_20 (by decide) ?_
  refine lv_istore (lv' := [(5, .int 0), (4, .int 1), (3, .int (nI (sN S))), (0, .ref h1), (1, .ref h2), (2, .int v0)]) hx hb dL_areAlike_21 hl (by decide) rfl (fun ls hl => ?_)
  exact LOOP23 (sN S) 0 (by omega) w1 w2 hwa hwb _ _ hP hD hS ls (lv_sub hl [3, 4, 5, 2, 1, 0] rfl)
