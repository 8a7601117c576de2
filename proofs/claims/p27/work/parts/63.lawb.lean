set_option maxHeartbeats 4000000 in
set_option maxRecDepth 100000 in
theorem law_b {p : Program} {l : Launch} {e : Env} {s : State} {m : MethodId} {below : List Frame} {meth : Method} {c : Code} {H : Heap} {locs : List Loc} {cells slots : Nat} {Q : State → Prop} {ls : Array Slot} {D : va_G} {y : Nat → ClassId} {ad : Nat → Nat} {b L : Nat} {xs : Nat → Int32} (C : lwC p l s m meth c b L xs D y ad) {h1 h2 : Nat} {S : St} (hS9 : SI S) {wa wb : va_W} (hwa : OW y ad h1 S wa) (hwb : OW y ad h2 S wb) (hP : va_P D vwCl (wa ++ wb) H) (hD : va_D (lA s) (wa ++ wb)) (hS : va_S (lA s) s.heap H locs) {k cK zK : Nat} {E As v0 n8 : Int32} (hl : lv_has ls 15 [(0, .ref b), (1, .ref h1), (2, .ref h2), (3, .int 1), (4, .int E), (5, .int As), (6, .int (nI k)), (7, .int v0), (8, .int n8)]) (hc : cells + 332 ≤ cK) (hz : slots + 1992 ≤ zK) (hcK : cK ≤ 600074) (hzK : zK ≤ 7301550) (KK : lwK p l e s m below meth c Q b D y ad h1 h2 27 (k + 1) cK zK) : W p l e room_1 s m #[Value.ref b] below meth c H locs cells slots Q (F0 m 112 ls []) := by
  obtain ⟨⟨hx, hb, hml, hown, hts⟩, ⟨hX, hbl, hL⟩, hK, hE, hN, hfl⟩ := id C
  have hA : ∀ q : Nat, s.heap.size ≤ q → lA s q := fun _ h => h
  have hbA : ¬ lA s b := Nat.not_le.mpr hbl
  have hn : sN S ≤ 40 := hS9.1
  refine lv_aload_n hx hb dL_law_112 rfl (lv_at hl 1 rfl) ?_
  obtain ⟨fs1, he1⟩ := hwa.head
  refine g_callR (v0 := .int (nI (sN S))) (va_runV (As := []) (rest := []) ⟨hx, hb, hml, hown, hts⟩ (e_count l hfl D y ad hwa H.size) (cwV 0 hts gL_law_X7_count rfl rfl rfl (by decide +kernel) ⟨Nat.le_of_ble_eq_true rfl, Nat.le_of_ble_eq_true rfl⟩) (gPX_VA (va_P_r (va_P_sw hP)) (va_D_r (va_D_sw hD)) hK hE hS hA 0 he1 rfl) rfl rfl hl.1 rfl (lv_room (Nat.le_of_ble_eq_true rfl)) dL_law_113 ⟨by show cells ≤ 600074; omega, by show slots ≤ 7301550; omega⟩) ?_
  refine lv_istore (lv' := [(11, .int (nI (sN S))), (0, .ref b), (1, .ref h1), (2, .ref h2), (3, .int 1), (4, .int E), (5, .int As), (6, .int (nI k)), (7, .int v0), (8, .int n8)]) hx hb dL_law_116 hl (by decide) rfl (fun ls hl => ?_)
  have K150 : ∀ z : Int32, W p l e room_1 s m #[Value.ref b] below meth c H locs cells slots Q (F0 m 150 ls [.int z, .int E]) := by
    intro z
    refine lv_iadd hx hb dL_law_150 ?_
    refine lv_topi (fun E2 _ => ?_)
    refine lv_istore (lv' := [(4, .int E2), (11, .int (nI (sN S))), (0, .ref b), (1, .ref h1), (2, .ref h2), (3, .int 1), (5, .int As), (6, .int (nI k)), (7, .int v0), (8, .int n8)]) hx hb dL_law_151 hl (by decide) rfl (fun ls hl => ?_)
    refine lv_iload hx hb dL_law_153 (lv_at hl 6 rfl) ?_
    refine lv_bipush (v := 14) hx hb dL_law_155 (by decide) ?_
    refine lv_iload hx hb dL_law_157 (lv_at hl 1 rfl) ?_
    refine lv_bipush (v := 40) hx hb dL_law_159 (by decide) ?_
    refine lv_iload hx hb dL_law_161 (lv_at hl 0 rfl) ?_
    refine lv_imul hx hb dL_law_163 ?_
    refine lv_iadd hx hb dL_law_164 ?_
    refine lv_imul hx hb dL_law_165 ?_
    refine lv_iadd hx hb dL_law_166 ?_
    refine lv_topi (fun As2 _ => ?_)
    refine lv_istore (lv' := [(5, .int As2), (4, .int E2), (11, .int (nI (sN S))), (0, .ref b), (1, .ref h1), (2, .ref h2), (3, .int 1), (6, .int (nI k)), (7, .int v0), (8, .int n8)]) hx hb dL_law_167 hl (by decide) rfl (fun ls hl => ?_)
    refine lv_iload hx hb dL_law_169 (lv_at hl 8 rfl) ?_
    refine lv_iconst (v := 5) hx hb dL_law_171 (by decide) ?_
    refine lv_ishr hx hb dL_law_172 ?_
    refine lv_ldc (v := 65535) hx hb hown (hts (.constant RL 131 (65535)) (List.mem_of_getElem? (i := 5) rfl)) dL_law_173 ?_
    refine lv_iand hx hb dL_law_175 ?_
    refine lv_topi (fun X _ => ?_)
    refine lv_istore (lv' := [(12, .int X), (5, .int As2), (4, .int E2), (11, .int (nI (sN S))), (0, .ref b), (1, .ref h1), (2, .ref h2), (3, .int 1), (6, .int (nI k)), (7, .int v0), (8, .int n8)]) hx hb dL_law_176 hl (by decide) rfl (fun ls hl => ?_)
    obtain ⟨p14, hp14, ep14⟩ := low_lit (sh X 5) (n := 14) (N := 14) (by decide) (by decide) (by decide)
    obtain ⟨p9, hp9, ep9⟩ := low_lit (sh X 5) (n := 9) (N := 9) (by decide) (by decide) (by decide)
    obtain ⟨p6, hp6, ep6⟩ := low_lit (sh X 2) (n := 6) (N := 6) (by decide) (by decide) (by decide)
    rcases Nat.eq_zero_or_pos (sN S) with h0 | h0
    · skip
      refine lv_iload hx hb dL_law_178 (lv_at hl 0 rfl) ?_
      refine lv_iload hx hb dL_law_180 (lv_at hl 3 rfl) ?_
      refine lv_iconst (v := 1) hx hb dL_law_182 (by decide) ?_
      refine lv_icmp_ge (tgt := 190) hx hb dL_law_183 (by decide) (fun c_183 => absurd c_183 (by rw [h0]; decide)) (fun c_183 => ?_)
      refine lv_iconst (v := 1) hx hb dL_law_186 (by decide) ?_
      refine lv_goto (tgt := 192) hx hb dL_law_187 (by decide) ?_
      refine g_callR (v0 := .int (lowV X 1)) (va_runS (As := [.int X, .int 1]) (rest := []) ⟨hx, hb, hml, hown, hts⟩ (c_L_low l D y H.size X 1 (by decide)) (va_cwS 2 hts gL_law_L_low rfl rfl rfl (by decide +kernel) ⟨Nat.le_of_ble_eq_true rfl, Nat.le_of_ble_eq_true rfl⟩) (gP_S hP hD hK [] (by decide) rfl) rfl rfl hl.1 rfl (lv_room (Nat.le_of_ble_eq_true rfl)) dL_law_192 ⟨by show cells ≤ 600074; omega, by show slots ≤ 7301550; omega⟩) ?_
      refine lv_istore (lv' := [(13, .int (lowV X 1)), (12, .int X), (5, .int As2), (4, .int E2), (11, .int (nI (sN S))), (0, .ref b), (1, .ref h1), (2, .ref h2), (3, .int 1), (6, .int (nI k)), (7, .int v0), (8, .int n8)]) hx hb dL_law_195 hl (by decide) rfl (fun ls hl => ?_)
      refine lv_iload hx hb dL_law_197 (lv_at hl 1 rfl) ?_
      refine lv_iconst (v := 3) hx hb dL_law_199 (by decide) ?_
      refine lv_ishr hx hb dL_law_200 ?_
      refine lv_iload hx hb dL_law_201 (lv_at hl 4 rfl) ?_
      refine lv_iconst (v := 1) hx hb dL_law_203 (by decide) ?_
      refine lv_icmp_ge (tgt := 211) hx hb dL_law_204 (by decide) (fun c_204 => absurd c_204 (by rw [h0]; decide)) (fun c_204 => ?_)
      refine lv_iconst (v := 1) hx hb dL_law_207 (by decide) ?_
      refine lv_goto (tgt := 213) hx hb dL_law_208 (by decide) ?_
      refine g_callR (v0 := .int (lowV (sh X 3) 1)) (va_runS (As := [.int (sh X 3), .int 1]) (rest := []) ⟨hx, hb, hml, hown, hts⟩ (c_L_low l D y H.size (sh X 3) 1 (by decide)) (va_cwS 2 hts gL_law_L_low rfl rfl rfl (by decide +kernel) ⟨Nat.le_of_ble_eq_true rfl, Nat.le_of_ble_eq_true rfl⟩) (gP_S hP hD hK [] (by decide) rfl) rfl rfl hl.1 rfl (lv_room (Nat.le_of_ble_eq_true rfl)) dL_law_213 ⟨by show cells ≤ 600074; omega, by show slots ≤ 7301550; omega⟩) ?_
      refine lv_istore (lv' := [(14, .int (lowV (sh X 3) 1)), (13, .int (lowV X 1)), (12, .int X), (5, .int As2), (4, .int E2), (11, .int (nI (sN S))), (0, .ref b), (1, .ref h1), (2, .ref h2), (3, .int 1), (6, .int (nI k)), (7, .int v0), (8, .int n8)]) hx hb dL_law_216 hl (by decide) rfl (fun ls hl => ?_)
      refine lv_iload hx hb dL_law_218 (lv_at hl 5 rfl) ?_
      refine lv_iconst (v := 1) hx hb dL_law_220 (by decide) ?_
      refine lv_icmp_le (tgt := 339) hx hb dL_law_221 (by decide) (fun c_221 => ?_) (fun c_221 => absurd (by rw [h0]; decide) c_221)
      exact law_c C hS9 hwa hwb hP hD hS (lv_sub hl [6, 7, 8, 9, 4, 3, 10, 5, 2] rfl) (by omega) (by omega) hcK hzK KK
    · skip
      obtain ⟨r1, hr1, er1⟩ := low_nI X h0 (show sN S < 2 ^ 31 by omega)
      obtain ⟨r2, hr2, er2⟩ := low_nI (sh X 3) h0 (show sN S < 2 ^ 31 by omega)
      refine lv_iload hx hb dL_law_178 (lv_at hl 0 rfl) ?_
      refine lv_iload hx hb dL_law_180 (lv_at hl 3 rfl) ?_
      refine lv_iconst (v := 1) hx hb dL_law_182 (by decide) ?_
      refine lv_icmp_ge (tgt := 190) hx hb dL_law_183 (by decide) (fun c_183 => ?_) (fun c_183 => absurd (one_le h0 hn) c_183)
      refine lv_iload hx hb dL_law_190 (lv_at hl 3 rfl) ?_
      refine g_callR (v0 := .int (lowV X (nI (sN S)))) (va_runS (As := [.int X, .int (nI (sN S))]) (rest := []) ⟨hx, hb, hml, hown, hts⟩ (c_L_low l D y H.size X (nI (sN S)) (nI_ne0 h0 (by omega))) (va_cwS 2 hts gL_law_L_low rfl rfl rfl (by decide +kernel) ⟨Nat.le_of_ble_eq_true rfl, Nat.le_of_ble_eq_true rfl⟩) (gP_S hP hD hK [] (by decide) rfl) rfl rfl hl.1 rfl (lv_room (Nat.le_of_ble_eq_true rfl)) dL_law_192 ⟨by show cells ≤ 600074; omega, by show slots ≤ 7301550; omega⟩) ?_
      refine g_topi (y := nI r1) (er1) ?_
      refine lv_istore (lv' := [(13, .int (nI r1)), (12, .int X), (5, .int As2), (4, .int E2), (11, .int (nI (sN S))), (0, .ref b), (1, .ref h1), (2, .ref h2), (3, .int 1), (6, .int (nI k)), (7, .int v0), (8, .int n8)]) hx hb dL_law_195 hl (by decide) rfl (fun ls hl => ?_)
      refine lv_iload hx hb dL_law_197 (lv_at hl 1 rfl) ?_
      refine lv_iconst (v := 3) hx hb dL_law_199 (by decide) ?_
      refine lv_ishr hx hb dL_law_200 ?_
      refine lv_iload hx hb dL_law_201 (lv_at hl 4 rfl) ?_
      refine lv_iconst (v := 1) hx hb dL_law_203 (by decide) ?_
      refine lv_icmp_ge (tgt := 211) hx hb dL_law_204 (by decide) (fun c_204 => ?_) (fun c_204 => absurd (one_le h0 hn) c_204)
      refine lv_iload hx hb dL_law_211 (lv_at hl 4 rfl) ?_
      refine g_callR (v0 := .int (lowV (sh X 3) (nI (sN S)))) (va_runS (As := [.int (sh X 3), .int (nI (sN S))]) (rest := []) ⟨hx, hb, hml, hown, hts⟩ (c_L_low l D y H.size (sh X 3) (nI (sN S)) (nI_ne0 h0 (by omega))) (va_cwS 2 hts gL_law_L_low rfl rfl rfl (by decide +kernel) ⟨Nat.le_of_ble_eq_true rfl, Nat.le_of_ble_eq_true rfl⟩) (gP_S hP hD hK [] (by decide) rfl) rfl rfl hl.1 rfl (lv_room (Nat.le_of_ble_eq_true rfl)) dL_law_213 ⟨by show cells ≤ 600074; omega, by show slots ≤ 7301550; omega⟩) ?_
      refine g_topi (y := nI r2) (er2) ?_
      refine lv_istore (lv' := [(14, .int (nI r2)), (13, .int (nI r1)), (12, .int X), (5, .int As2), (4, .int E2), (11, .int (nI (sN S))), (0, .ref b), (1, .ref h1), (2, .ref h2), (3, .int 1), (6, .int (nI k)), (7, .int v0), (8, .int n8)]) hx hb dL_law_216 hl (by decide) rfl (fun ls hl => ?_)
      refine lv_iload hx hb dL_law_218 (lv_at hl 5 rfl) ?_
      refine lv_iconst (v := 1) hx hb dL_law_220 (by decide) ?_
      refine lv_icmp_le (tgt := 339) hx hb dL_law_221 (by decide) (fun c_221 => ?_) (fun c_221 => ?_)
      · skip
        exact law_c C hS9 hwa hwb hP hD hS (lv_sub hl [6, 7, 8, 9, 4, 3, 10, 5, 2] rfl) (by omega) (by omega) hcK hzK KK
      · skip
        refine lv_iload hx hb dL_law_224 (lv_at hl 10 rfl) ?_
        refine lv_iconst (v := 4) hx hb dL_law_226 (by decide) ?_
        refine lv_irem hx hb dL_law_227 (by decide) ?_
        refine lv_iconst (v := 3) hx hb dL_law_228 (by decide) ?_
        refine lv_icmp_ne (tgt := 339) hx hb dL_law_229 (by decide) (fun c_229 => ?_) (fun c_229 => ?_)
        · skip
          exact law_c C hS9 hwa hwb hP hD hS (lv_sub hl [6, 7, 8, 9, 4, 3, 10, 5, 2] rfl) (by omega) (by omega) hcK hzK KK
        · skip
          refine lv_iload_n hx hb dL_law_232 rfl (lv_at hl 9 rfl) ?_
          refine lv_if_eq (tgt := 339) hx hb dL_law_233 (by decide) (fun c_233 => absurd c_233 (by decide)) (fun c_233 => ?_)
          refine lv_iload hx hb dL_law_236 (lv_at hl 10 rfl) ?_
          refine lv_bipush (v := 12) hx hb dL_law_238 (by decide) ?_
          refine lv_irem hx hb dL_law_240 (by decide) ?_
          refine lv_iconst (v := 3) hx hb dL_law_241 (by decide) ?_
          refine lv_icmp_ne (tgt := 263) hx hb dL_law_242 (by decide) (fun c_242 => ?_) (fun c_242 => ?_)
          · skip
            refine lv_iload hx hb dL_law_263 (lv_at hl 10 rfl) ?_
            refine lv_bipush (v := 12) hx hb dL_law_265 (by decide) ?_
            refine lv_irem hx hb dL_law_267 (by decide) ?_
            refine lv_bipush (v := 7) hx hb dL_law_268 (by decide) ?_
            refine lv_icmp_ne (tgt := 305) hx hb dL_law_270 (by decide) (fun c_270 => ?_) (fun c_270 => ?_)
            · skip
              refine lv_aload_n hx hb dL_law_305 rfl (lv_at hl 7 rfl) ?_
              refine lv_iload hx hb dL_law_306 (lv_at hl 1 rfl) ?_
              refine lv_iload hx hb dL_law_308 (lv_at hl 0 rfl) ?_
              refine lv_iload hx hb dL_law_310 (lv_at hl 2 rfl) ?_
              refine lv_iconst (v := 5) hx hb dL_law_312 (by decide) ?_
              refine lv_ishr hx hb dL_law_313 ?_
              refine lv_bipush (v := 14) hx hb dL_law_314 (by decide) ?_
              refine g_callR (v0 := .int (lowV (sh X 5) 14)) (va_runS (As := [.int (sh X 5), .int 14]) (rest := [.int (nI r2), .int (nI r1), .ref h1]) ⟨hx, hb, hml, hown, hts⟩ (c_L_low l D y H.size (sh X 5) 14 (by decide)) (va_cwS 2 hts gL_law_L_low rfl rfl rfl (by decide +kernel) ⟨Nat.le_of_ble_eq_true rfl, Nat.le_of_ble_eq_true rfl⟩) (gP_S hP hD hK [] (by decide) rfl) rfl rfl hl.1 rfl (lv_room (Nat.le_of_ble_eq_true rfl)) dL_law_316 ⟨by show cells ≤ 600074; omega, by show slots ≤ 7301550; omega⟩) ?_
              refine g_topi (y := nI p14) (ep14) ?_
              have hP := va_P_sw hP
              have hD := va_D_sw hD
              refine g_callN (ws := wb) (wc := wa) (va_runS (As := [.ref h1, .int (nI r1), .int (nI r2), .int (nI p14)]) (rest := []) ⟨hx, hb, hml, hown, hts⟩ (c_L_areDigits l hfl D y ad hS9 hwa hr1 hr2 (show p14 < 25 by omega) H.size) (va_cwS 4 hts gL_law_L_areDigits rfl rfl rfl (by decide +kernel) ⟨Nat.le_of_ble_eq_true rfl, Nat.le_of_ble_eq_true rfl⟩) (gPN_SA (va_P_r hP) (va_D_r hD) hK hE hN hS hA) rfl rfl hl.1 rfl (lv_room (Nat.le_of_ble_eq_true rfl)) dL_law_319 ⟨by show cells + 10 ≤ 600074; omega, by show slots + 60 ≤ 7301550; omega⟩) hP hD hS hA (fun v9 w1 H locs hf hP hD hS => ?_)
              obtain ⟨rfl, hwa⟩ := hf
              refine lv_istore_n (lv' := [(3, .int 1), (14, .int (nI r2)), (13, .int (nI r1)), (12, .int X), (5, .int As2), (4, .int E2), (11, .int (nI (sN S))), (0, .ref b), (1, .ref h1), (2, .ref h2), (6, .int (nI k)), (7, .int v0), (8, .int n8)]) hx hb dL_law_322 rfl hl (by decide) rfl (fun ls hl => ?_)
              refine lv_iload hx hb dL_law_323 (lv_at hl 4 rfl) ?_
              refine lv_bipush (v := 60) hx hb dL_law_325 (by decide) ?_
              refine lv_iload hx hb dL_law_327 (lv_at hl 6 rfl) ?_
              refine lv_bipush (v := 40) hx hb dL_law_329 (by decide) ?_
              refine lv_iload hx hb dL_law_331 (lv_at hl 5 rfl) ?_
              refine lv_imul hx hb dL_law_333 ?_
              refine lv_iadd hx hb dL_law_334 ?_
              refine lv_imul hx hb dL_law_335 ?_
              refine lv_iadd hx hb dL_law_336 ?_
              refine lv_istore (lv' := [(5, .int (As2 + (60 * ((nI (sN S)) + (40 * E2))))), (3, .int 1), (14, .int (nI r2)), (13, .int (nI r1)), (12, .int X), (4, .int E2), (11, .int (nI (sN S))), (0, .ref b), (1, .ref h1), (2, .ref h2), (6, .int (nI k)), (7, .int v0), (8, .int n8)]) hx hb dL_law_337 hl (by decide) rfl (fun ls hl => ?_)
              have hP := va_P_sw hP
              have hD := va_D_sw hD
              exact law_c C hS9 hwa hwb hP hD hS (lv_sub hl [7, 8, 9, 1, 5, 0, 10, 6, 4] rfl) (by omega) (by omega) hcK hzK KK
            · skip
              refine lv_aload_n hx hb dL_law_273 rfl (lv_at hl 7 rfl) ?_
              refine lv_iload hx hb dL_law_274 (lv_at hl 1 rfl) ?_
              refine lv_iload hx hb dL_law_276 (lv_at hl 0 rfl) ?_
              refine lv_iload hx hb dL_law_278 (lv_at hl 2 rfl) ?_
              refine lv_iconst (v := 5) hx hb dL_law_280 (by decide) ?_
              refine lv_ishr hx hb dL_law_281 ?_
              refine lv_bipush (v := 9) hx hb dL_law_282 (by decide) ?_
              refine g_callR (v0 := .int (lowV (sh X 5) 9)) (va_runS (As := [.int (sh X 5), .int 9]) (rest := [.int (nI r2), .int (nI r1), .ref h1]) ⟨hx, hb, hml, hown, hts⟩ (c_L_low l D y H.size (sh X 5) 9 (by decide)) (va_cwS 2 hts gL_law_L_low rfl rfl rfl (by decide +kernel) ⟨Nat.le_of_ble_eq_true rfl, Nat.le_of_ble_eq_true rfl⟩) (gP_S hP hD hK [] (by decide) rfl) rfl rfl hl.1 rfl (lv_room (Nat.le_of_ble_eq_true rfl)) dL_law_284 ⟨by show cells ≤ 600074; omega, by show slots ≤ 7301550; omega⟩) ?_
              refine g_topi (y := nI p9) (ep9) ?_
              refine lv_bipush (v := 9) hx hb dL_law_287 (by decide) ?_
              refine lv_iload hx hb dL_law_289 (lv_at hl 2 rfl) ?_
              refine lv_iconst (v := 2) hx hb dL_law_291 (by decide) ?_
              refine lv_ishr hx hb dL_law_292 ?_
              refine lv_bipush (v := 6) hx hb dL_law_293 (by decide) ?_
              refine g_callR (v0 := .int (lowV (sh X 2) 6)) (va_runS (As := [.int (sh X 2), .int 6]) (rest := [.int 9, .int (nI p9), .int (nI r2), .int (nI r1), .ref h1]) ⟨hx, hb, hml, hown, hts⟩ (c_L_low l D y H.size (sh X 2) 6 (by decide)) (va_cwS 2 hts gL_law_L_low rfl rfl rfl (by decide +kernel) ⟨Nat.le_of_ble_eq_true rfl, Nat.le_of_ble_eq_true rfl⟩) (gP_S hP hD hK [] (by decide) rfl) rfl rfl hl.1 rfl (lv_room (Nat.le_of_ble_eq_true rfl)) dL_law_295 ⟨by show cells ≤ 600074; omega, by show slots ≤ 7301550; omega⟩) ?_
              refine g_topi (y := nI p6) (ep6) ?_
              refine lv_iadd hx hb dL_law_298 ?_
              refine g_topi (nI_add 9 p6) ?_
              have hP := va_P_sw hP
              have hD := va_D_sw hD
              refine g_callN (ws := wb) (wc := wa) (va_runS (As := [.ref h1, .int (nI r1), .int (nI r2), .int (nI p9), .int (nI (9 + p6))]) (rest := []) ⟨hx, hb, hml, hown, hts⟩ (c_L_isKept l hfl D y ad hS9 hwa hr1 hr2 (show p9 ≤ 9 + p6 by omega) (show 9 + p6 < 25 by omega) H.size) (va_cwS 5 hts gL_law_L_isKept rfl rfl rfl (by decide +kernel) ⟨Nat.le_of_ble_eq_true rfl, Nat.le_of_ble_eq_true rfl⟩) (gPN_SA (va_P_r hP) (va_D_r hD) hK hE hN hS hA) rfl rfl hl.1 rfl (lv_room (Nat.le_of_ble_eq_true rfl)) dL_law_299 ⟨by show cells + 10 ≤ 600074; omega, by show slots + 60 ≤ 7301550; omega⟩) hP hD hS hA (fun v9 w2 H locs hf hP hD hS => ?_)
              obtain ⟨rfl, hwa⟩ := hf
              refine lv_goto (tgt := 322) hx hb dL_law_302 (by decide) ?_
              refine lv_istore_n (lv' := [(3, .int 1), (14, .int (nI r2)), (13, .int (nI r1)), (12, .int X), (5, .int As2), (4, .int E2), (11, .int (nI (sN S))), (0, .ref b), (1, .ref h1), (2, .ref h2), (6, .int (nI k)), (7, .int v0), (8, .int n8)]) hx hb dL_law_322 rfl hl (by decide) rfl (fun ls hl => ?_)
              refine lv_iload hx hb dL_law_323 (lv_at hl 4 rfl) ?_
              refine lv_bipush (v := 60) hx hb dL_law_325 (by decide) ?_
              refine lv_iload hx hb dL_law_327 (lv_at hl 6 rfl) ?_
              refine lv_bipush (v := 40) hx hb dL_law_329 (by decide) ?_
              refine lv_iload hx hb dL_law_331 (lv_at hl 5 rfl) ?_
              refine lv_imul hx hb dL_law_333 ?_
              refine lv_iadd hx hb dL_law_334 ?_
              refine lv_imul hx hb dL_law_335 ?_
              refine lv_iadd hx hb dL_law_336 ?_
              refine lv_istore (lv' := [(5, .int (As2 + (60 * ((nI (sN S)) + (40 * E2))))), (3, .int 1), (14, .int (nI r2)), (13, .int (nI r1)), (12, .int X), (4, .int E2), (11, .int (nI (sN S))), (0, .ref b), (1, .ref h1), (2, .ref h2), (6, .int (nI k)), (7, .int v0), (8, .int n8)]) hx hb dL_law_337 hl (by decide) rfl (fun ls hl => ?_)
              have hP := va_P_sw hP
              have hD := va_D_sw hD
              exact law_c C hS9 hwa hwb hP hD hS (lv_sub hl [7, 8, 9, 1, 5, 0, 10, 6, 4] rfl) (by omega) (by omega) hcK hzK KK
          · skip
            refine lv_aload_n hx hb dL_law_245 rfl (lv_at hl 7 rfl) ?_
            refine lv_iload hx hb dL_law_246 (lv_at hl 1 rfl) ?_
            refine lv_iload hx hb dL_law_248 (lv_at hl 2 rfl) ?_
            refine lv_iconst (v := 5) hx hb dL_law_250 (by decide) ?_
            refine lv_ishr hx hb dL_law_251 ?_
            refine lv_bipush (v := 14) hx hb dL_law_252 (by decide) ?_
            refine g_callR (v0 := .int (lowV (sh X 5) 14)) (va_runS (As := [.int (sh X 5), .int 14]) (rest := [.int (nI r1), .ref h1]) ⟨hx, hb, hml, hown, hts⟩ (c_L_low l D y H.size (sh X 5) 14 (by decide)) (va_cwS 2 hts gL_law_L_low rfl rfl rfl (by decide +kernel) ⟨Nat.le_of_ble_eq_true rfl, Nat.le_of_ble_eq_true rfl⟩) (gP_S hP hD hK [] (by decide) rfl) rfl rfl hl.1 rfl (lv_room (Nat.le_of_ble_eq_true rfl)) dL_law_254 ⟨by show cells ≤ 600074; omega, by show slots ≤ 7301550; omega⟩) ?_
            refine g_topi (y := nI p14) (ep14) ?_
            have hP := va_P_sw hP
            have hD := va_D_sw hD
            refine g_callN (ws := wb) (wc := wa) (va_runS (As := [.ref h1, .int (nI r1), .int (nI p14)]) (rest := []) ⟨hx, hb, hml, hown, hts⟩ (c_L_areNested l hfl D y ad hS9 hwa hr1 (show p14 < 25 by omega) H.size) (va_cwS 3 hts gL_law_L_areNested rfl rfl rfl (by decide +kernel) ⟨Nat.le_of_ble_eq_true rfl, Nat.le_of_ble_eq_true rfl⟩) (gPN_SA (va_P_r hP) (va_D_r hD) hK hE hN hS hA) rfl rfl hl.1 rfl (lv_room (Nat.le_of_ble_eq_true rfl)) dL_law_257 ⟨by show cells + 6 ≤ 600074; omega, by show slots + 36 ≤ 7301550; omega⟩) hP hD hS hA (fun v9 w3 H locs hf hP hD hS => ?_)
            obtain ⟨rfl, hwa⟩ := hf
            refine lv_goto (tgt := 322) hx hb dL_law_260 (by decide) ?_
            refine lv_istore_n (lv' := [(3, .int 1), (14, .int (nI r2)), (13, .int (nI r1)), (12, .int X), (5, .int As2), (4, .int E2), (11, .int (nI (sN S))), (0, .ref b), (1, .ref h1), (2, .ref h2), (6, .int (nI k)), (7, .int v0), (8, .int n8)]) hx hb dL_law_322 rfl hl (by decide) rfl (fun ls hl => ?_)
            refine lv_iload hx hb dL_law_323 (lv_at hl 4 rfl) ?_
            refine lv_bipush (v := 60) hx hb dL_law_325 (by decide) ?_
            refine lv_iload hx hb dL_law_327 (lv_at hl 6 rfl) ?_
            refine lv_bipush (v := 40) hx hb dL_law_329 (by decide) ?_
            refine lv_iload hx hb dL_law_331 (lv_at hl 5 rfl) ?_
            refine lv_imul hx hb dL_law_333 ?_
            refine lv_iadd hx hb dL_law_334 ?_
            refine lv_imul hx hb dL_law_335 ?_
            refine lv_iadd hx hb dL_law_336 ?_
            refine lv_istore (lv' := [(5, .int (As2 + (60 * ((nI (sN S)) + (40 * E2))))), (3, .int 1), (14, .int (nI r2)), (13, .int (nI r1)), (12, .int X), (4, .int E2), (11, .int (nI (sN S))), (0, .ref b), (1, .ref h1), (2, .ref h2), (6, .int (nI k)), (7, .int v0), (8, .int n8)]) hx hb dL_law_337 hl (by decide) rfl (fun ls hl => ?_)
            have hP := va_P_sw hP
            have hD := va_D_sw hD
            exact law_c C hS9 hwa hwb hP hD hS (lv_sub hl [7, 8, 9, 1, 5, 0, 10, 6, 4] rfl) (by omega) (by omega) hcK hzK KK
  refine lv_iload hx hb dL_law_118 (lv_at hl 5 rfl) ?_
  refine lv_iload hx hb dL_law_120 (lv_at hl 0 rfl) ?_
  refine lv_iload hx hb dL_law_122 (lv_at hl 9 rfl) ?_
  refine lv_icmp_le (tgt := 149) hx hb dL_law_124 (by decide) (fun c_124 => ?_) (fun c_124 => ?_)
  · skip
    refine lv_iconst (v := 0) hx hb dL_law_149 (by decide) ?_
    exact K150 _
  · skip
    refine lv_iload hx hb dL_law_127 (lv_at hl 9 rfl) ?_
    refine lv_iconst (v := 1) hx hb dL_law_129 (by decide) ?_
    refine lv_icmp_le (tgt := 149) hx hb dL_law_130 (by decide) (fun c_130 => ?_) (fun c_130 => ?_)
    · skip
      refine lv_iconst (v := 0) hx hb dL_law_149 (by decide) ?_
      exact K150 _
    · skip
      refine lv_iload hx hb dL_law_133 (lv_at hl 8 rfl) ?_
      refine lv_bipush (v := 44) hx hb dL_law_135 (by decide) ?_
      refine g_callR (v0 := .int (lowV v0 44)) (va_runS (As := [.int v0, .int 44]) (rest := [.int E]) ⟨hx, hb, hml, hown, hts⟩ (c_L_low l D y H.size v0 44 (by decide)) (va_cwS 2 hts gL_law_L_low rfl rfl rfl (by decide +kernel) ⟨Nat.le_of_ble_eq_true rfl, Nat.le_of_ble_eq_true rfl⟩) (gP_S hP hD hK [] (by decide) rfl) rfl rfl hl.1 rfl (lv_room (Nat.le_of_ble_eq_true rfl)) dL_law_137 ⟨by show cells ≤ 600074; omega, by show slots ≤ 7301550; omega⟩) ?_
      refine lv_bipush (v := 16) hx hb dL_law_140 (by decide) ?_
      refine lv_icmp_ne (tgt := 149) hx hb dL_law_142 (by decide) (fun c_142 => ?_) (fun c_142 => ?_)
      · skip
        refine lv_iconst (v := 0) hx hb dL_law_149 (by decide) ?_
        exact K150 _
      · skip
        refine lv_iconst (v := 1) hx hb dL_law_145 (by decide) ?_
        refine lv_goto (tgt := 150) hx hb dL_law_146 (by decide) ?_
        exact K150 _
