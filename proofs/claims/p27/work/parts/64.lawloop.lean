set_option maxHeartbeats 4000000 in
set_option maxRecDepth 100000 in
theorem law_a {p : Program} {l : Launch} {e : Env} {s : State} {m : MethodId} {below : List Frame} {meth : Method} {c : Code} {Q : State → Prop} {D : va_G} {y : Nat → ClassId} {ad : Nat → Nat} {b L : Nat} {xs : Nat → Int32} (C : lwC p l s m meth c b L xs D y ad) {h1 h2 k cells slots cE zE : Nat} (hk : k < 130) (hc : cells + 360 ≤ cE) (hz : slots + 2400 ≤ zE) (hcE : cE ≤ 600074) (hzE : zE ≤ 7301550) (KE : lwK p l e s m below meth c Q b D y ad h1 h2 381 k cE zE) (KK : lwK p l e s m below meth c Q b D y ad h1 h2 27 (k + 1) (cells + 360) (slots + 2400)) : lwK p l e s m below meth c Q b D y ad h1 h2 27 k cells slots := by
  intro S wa wb H locs ls E As hS9 hwa hwb hP hD hS hl
  obtain ⟨⟨hx, hb, hml, hown, hts⟩, ⟨hX, hbl, hL⟩, hK, hE, hN, hfl⟩ := id C
  have hA : ∀ q : Nat, s.heap.size ≤ q → lA s q := fun _ h => h
  have hbA : ¬ lA s b := Nat.not_le.mpr hbl
  have hn : sN S ≤ 40 := hS9.1
  refine lv_iload hx hb dL_law_27 (lv_at hl 6 rfl) ?_
  refine lv_sipush (v := 130) hx hb dL_law_29 (by decide) ?_
  refine lv_icmp_ge (tgt := 381) hx hb dL_law_32 (by decide) (fun c_32 => absurd c_32 (q_130 hk)) (fun c_32 => ?_)
  refine lv_iload_n hx hb dL_law_35 rfl (lv_at hl 3 rfl) ?_
  refine lv_if_eq (tgt := 381) hx hb dL_law_36 (by decide) (fun c_36 => absurd c_36 (by decide)) (fun c_36 => ?_)
  refine lv_iload hx hb dL_law_39 (lv_at hl 5 rfl) ?_
  refine lv_ldc (v := 40000) hx hb hown (hts (.constant RL 122 (40000)) (List.mem_of_getElem? (i := 3) rfl)) dL_law_41 ?_
  refine lv_icmp_ge (tgt := 381) hx hb dL_law_43 (by decide) (fun c_43 => ?_) (fun c_43 => ?_)
  · skip
    exact W.widen (k := cE) (n := zE) (by omega) (by omega) (KE S wa wb H locs ls E As hS9 hwa hwb hP hD hS hl)
  · skip
    refine lv_aload_n hx hb dL_law_46 rfl (lv_at hl 0 rfl) ?_
    refine lv_iload hx hb dL_law_47 (lv_at hl 6 rfl) ?_
    refine lv_bipush (v := 61) hx hb dL_law_49 (by decide) ?_
    refine lv_irem hx hb dL_law_51 (by decide) ?_
    refine g_topi (y := nI (k % 61)) (g_rem61 hk) ?_
    refine g_callRp (va_runS (As := [.ref b, .int (nI (k % 61))]) (rest := []) ⟨hx, hb, hml, hown, hts⟩ (c_L_cell l b L xs (k % 61) (by omega) (by omega)) (va_cwS 2 hts gL_law_L_cell rfl rfl rfl (by decide +kernel) ⟨Nat.le_of_ble_eq_true rfl, Nat.le_of_ble_eq_true rfl⟩) (gPc_SA hX hbl hbA hS) rfl rfl hl.1 rfl (lv_room (Nat.le_of_ble_eq_true rfl)) dL_law_52 ⟨by show cells ≤ 600074; omega, by show slots ≤ 7301550; omega⟩) (fun v9 hv9 => ?_)
    obtain ⟨x9, rfl⟩ := hv9
    refine lv_sipush (v := 2137) hx hb dL_law_55 (by decide) ?_
    refine lv_iload hx hb dL_law_58 (lv_at hl 6 rfl) ?_
    refine lv_bipush (v := 61) hx hb dL_law_60 (by decide) ?_
    refine lv_idiv hx hb dL_law_62 (by decide) ?_
    refine lv_imul hx hb dL_law_63 ?_
    refine lv_iadd hx hb dL_law_64 ?_
    refine lv_topi (fun v0 _ => ?_)
    refine lv_istore (lv' := [(7, .int v0), (0, .ref b), (1, .ref h1), (2, .ref h2), (3, .int 1), (4, .int E), (5, .int As), (6, .int (nI k))]) hx hb dL_law_65 hl (by decide) rfl (fun ls hl => ?_)
    refine lv_aload_n hx hb dL_law_67 rfl (lv_at hl 2 rfl) ?_
    obtain ⟨fs1, he1⟩ := hwa.head
    refine g_callR (v0 := .int (nI (sN S))) (va_runV (As := []) (rest := []) ⟨hx, hb, hml, hown, hts⟩ (e_count l hfl D y ad hwa H.size) (cwV 0 hts gL_law_X7_count rfl rfl rfl (by decide +kernel) ⟨Nat.le_of_ble_eq_true rfl, Nat.le_of_ble_eq_true rfl⟩) (gPX_VA (va_P_r (va_P_sw hP)) (va_D_r (va_D_sw hD)) hK hE hS hA 0 he1 rfl) rfl rfl hl.1 rfl (lv_room (Nat.le_of_ble_eq_true rfl)) dL_law_68 ⟨by show cells ≤ 600074; omega, by show slots ≤ 7301550; omega⟩) ?_
    refine lv_istore (lv' := [(8, .int (nI (sN S))), (7, .int v0), (0, .ref b), (1, .ref h1), (2, .ref h2), (3, .int 1), (4, .int E), (5, .int As), (6, .int (nI k))]) hx hb dL_law_71 hl (by decide) rfl (fun ls hl => ?_)
    refine lv_aload_n hx hb dL_law_73 rfl (lv_at hl 3 rfl) ?_
    refine lv_iload hx hb dL_law_74 (lv_at hl 1 rfl) ?_
    refine lv_iload hx hb dL_law_76 (lv_at hl 6 rfl) ?_
    have hP := va_P_sw hP
    have hD := va_D_sw hD
    refine g_callN (ws := wb) (wc := wa) (va_runS (As := [.ref h1, .int v0, .int E]) (rest := []) ⟨hx, hb, hml, hown, hts⟩ (c_L_act l hfl D y ad hS9 hwa v0 E H.size) (va_cwS 3 hts gL_law_L_act rfl rfl rfl (by decide +kernel) ⟨Nat.le_of_ble_eq_true rfl, Nat.le_of_ble_eq_true rfl⟩) (gPN_SA (va_P_r hP) (va_D_r hD) hK hE hN hS hA) rfl rfl hl.1 rfl (lv_room (Nat.le_of_ble_eq_true rfl)) dL_law_78 ⟨by show cells + 10 ≤ 600074; omega, by show slots + 168 ≤ 7301550; omega⟩) hP hD hS hA (fun v9 w1 H locs hf hP hD hS => ?_)
    obtain ⟨rfl, hwa⟩ := hf
    refine lv_lstore (lv' := [(9, .long ((aAct S v0 E).1)), (8, .int (nI (sN S))), (7, .int v0), (0, .ref b), (1, .ref h1), (2, .ref h2), (3, .int 1), (4, .int E), (5, .int As), (6, .int (nI k))]) hx hb dL_law_81 hl (by decide) rfl (fun ls hl => ?_)
    refine lv_lload hx hb dL_law_83 (lv_at hl 0 rfl) ?_
    refine lv_ldc2 (v := -2100000000) hx hb hown (hts (.constantLong RL 62 (-2100000000)) (List.mem_of_getElem? (i := 4) rfl)) dL_law_85 ?_
    refine g_eq (tgt := 106) hx hb dL_law_88 dL_law_89 (by decide) (fun c_88 => ?_) (fun c_88 => ?_)
    · skip
      refine lv_iconst (v := 1) hx hb dL_law_106 (by decide) ?_
      refine lv_goto (tgt := 111) hx hb dL_law_107 (by decide) ?_
      refine lv_istore_n (lv' := [(3, .int 1), (9, .long ((aAct S v0 E).1)), (8, .int (nI (sN S))), (7, .int v0), (0, .ref b), (1, .ref h1), (2, .ref h2), (4, .int E), (5, .int As), (6, .int (nI k))]) hx hb dL_law_111 rfl hl (by decide) rfl (fun ls hl => ?_)
      have hS8 := hS9.act v0 E
      have hwb : OW y ad h2 (aAct S v0 E).2 wb := by rw [hS8.2 c_88]; exact hwb
      have hP := va_P_sw hP
      have hD := va_D_sw hD
      exact law_b C hS8.1 hwa hwb hP hD hS (lv_sub hl [4, 5, 6, 0, 7, 8, 9, 3, 2] rfl) (by omega) (by omega) (by omega) (by omega) KK
    · skip
      refine lv_aload_n hx hb dL_law_92 rfl (lv_at hl 5 rfl) ?_
      refine lv_iload hx hb dL_law_93 (lv_at hl 2 rfl) ?_
      refine lv_iload hx hb dL_law_95 (lv_at hl 7 rfl) ?_
      have hP := va_P_sw hP
      have hD := va_D_sw hD
      refine g_callN (ws := w1) (wc := wb) (va_runS (As := [.ref h2, .int v0, .int E]) (rest := []) ⟨hx, hb, hml, hown, hts⟩ (c_L_act l hfl D y ad hS9 hwb v0 E H.size) (va_cwS 3 hts gL_law_L_act rfl rfl rfl (by decide +kernel) ⟨Nat.le_of_ble_eq_true rfl, Nat.le_of_ble_eq_true rfl⟩) (gPN_SA (va_P_r hP) (va_D_r hD) hK hE hN hS hA) rfl rfl hl.1 rfl (lv_room (Nat.le_of_ble_eq_true rfl)) dL_law_97 ⟨by show cells + 10 + 10 ≤ 600074; omega, by show slots + 168 + 168 ≤ 7301550; omega⟩) hP hD hS hA (fun v9 w2 H locs hf hP hD hS => ?_)
      obtain ⟨rfl, hwb⟩ := hf
      refine lv_lload hx hb dL_law_100 (lv_at hl 0 rfl) ?_
      refine g_ne (tgt := 110) hx hb dL_law_102 dL_law_103 (by decide) (fun c_102 => absurd rfl c_102) (fun c_102 => ?_)
      refine lv_iconst (v := 1) hx hb dL_law_106 (by decide) ?_
      refine lv_goto (tgt := 111) hx hb dL_law_107 (by decide) ?_
      refine lv_istore_n (lv' := [(3, .int 1), (9, .long ((aAct S v0 E).1)), (8, .int (nI (sN S))), (7, .int v0), (0, .ref b), (1, .ref h1), (2, .ref h2), (4, .int E), (5, .int As), (6, .int (nI k))]) hx hb dL_law_111 rfl hl (by decide) rfl (fun ls hl => ?_)
      have hS8 := hS9.act v0 E
      exact law_b C hS8.1 hwa hwb hP hD hS (lv_sub hl [4, 5, 6, 0, 7, 8, 9, 3, 2] rfl) (by omega) (by omega) (by omega) (by omega) KK
set_option maxHeartbeats 4000000 in
set_option maxRecDepth 100000 in
theorem law_loop {p : Program} {l : Launch} {e : Env} {s : State} {m : MethodId} {below : List Frame} {meth : Method} {c : Code} {Q : State → Prop} {D : va_G} {y : Nat → ClassId} {ad : Nat → Nat} {b L : Nat} {xs : Nat → Int32} (C : lwC p l s m meth c b L xs D y ad) {h1 h2 : Nat} (KE : ∀ k, lwK p l e s m below meth c Q b D y ad h1 h2 381 k 60000 400000) : ∀ r k cells slots : Nat, k + r = 130 → cells + 360 * r + 360 ≤ 60000 → slots + 2400 * r + 2400 ≤ 400000 → lwK p l e s m below meth c Q b D y ad h1 h2 27 k cells slots := by
  intro r
  induction r with
  | zero =>
    intro k cells slots hk hc hz S wa wb H locs ls E As hS9 hwa hwb hP hD hS hl
    obtain ⟨⟨hx, hb, hml, hown, hts⟩, -⟩ := id C
    have e9 : (130 : Int32) ≤ nI k := by
      have h : k = 130 := by omega
      rw [h]
      decide
    refine lv_iload hx hb dL_law_27 (lv_at hl 6 rfl) ?_
    refine lv_sipush (v := 130) hx hb dL_law_29 (by decide) ?_
    refine lv_icmp_ge (tgt := 381) hx hb dL_law_32 (by decide) (fun _ => ?_) (fun h => absurd e9 h)
    exact W.widen (k := 60000) (n := 400000) (by omega) (by omega) (KE k S wa wb H locs ls E As hS9 hwa hwb hP hD hS hl)
  | succ r ih =>
    intro k cells slots hk hc hz
    exact law_a C (by omega) (by omega) (by omega) (by decide) (by decide) (KE k) (ih (k + 1) (cells + 360) (slots + 2400) (by omega) (by omega) (by omega))
