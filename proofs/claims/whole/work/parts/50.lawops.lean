section GLL
abbrev lA (s : State) : Nat → Prop := fun q => s.heap.size ≤ q
def lwC (p : Program) (l : Launch) (s : State) (m : MethodId) (meth : Method) (c : Code) (b L : Nat) (xs : Nat → Int32) (D : va_G) (y : Nat → ClassId) (ad : Nat → Nat) : Prop :=
  (p.tables.exec = Jvm.exec ∧ c.code = cL_law ∧ c.maxLocals = 8 ∧ s.vm.findClass RL = some m.cls ∧ (∀ w ∈ wsL_law, w.before #[Value.ref b] s = true)) ∧ (va_X b L xs s s.heap ∧ b < s.heap.size ∧ L ≤ 3584) ∧ gK D y s ∧ gE ad (lA s) s s.heap ∧ gNc s ∧ l.stackTraces = false
variable {p : Program} {l : Launch} {e : Env} {s : State} {m : MethodId} {below : List Frame} {meth : Method} {c : Code} {H : Heap} {locs : List Loc} {cells slots : Nat} {Q : State → Prop}
variable {pc : Nat} {ls : Array Slot} {rest : List Value} {D : va_G} {y : Nat → ClassId} {ad : Nat → Nat} {b L : Nat} {xs : Nat → Int32}
theorem g_sldL (C : lwC p l s m meth c b L xs D y ad) (hS : va_S (lA s) s.heap H locs) {k : Nat} {a : Int32} (hk : k < L) (ha : xs k = a) (hdg : decode cL_law pc = .ok (.iaload, 1))
    (kk : W p l e room_1 s m #[Value.ref b] below meth c H locs cells slots Q (F0 m (pc + 1) ls (.int a :: rest))) : W p l e room_1 s m #[Value.ref b] below meth c H locs cells slots Q (F0 m pc ls (.int (nI k) :: .ref b :: rest)) := by
  obtain ⟨⟨hx, hb, hml, hown, hts⟩, ⟨hX, hbl, hL⟩, -⟩ := C
  refine va_sld hx hb hX hbl (Nat.not_le.mpr hbl) hS (vp_in_nI hk (by omega)) hdg ?_
  rw [nI_clamp (by omega), ha]
  exact kk
theorem g_argL (C : lwC p l s m meth c b L xs D y ad) (hS : va_S (lA s) s.heap H locs) {i : Nat} (j : Nat) {z : Int} {a : Int32} (hz : Int32.ofInt z = nI j) (e0 : ls[0]? = some (.val (.ref b))) (e4 : ls[4]? = some (.val (.int (nI i)))) (hk : i + j < L) (ha : xs (i + j) = a)
    (d1 : decode cL_law pc = .ok (.aload_n 0, 1)) (d2 : decode cL_law (pc + 1) = .ok (.iload 4, 2)) (d3 : decode cL_law (pc + 3) = .ok (.iconst z, 1)) (d4 : decode cL_law (pc + 4) = .ok (.iadd, 1)) (d5 : decode cL_law (pc + 5) = .ok (.iaload, 1))
    (kk : W p l e room_1 s m #[Value.ref b] below meth c H locs cells slots Q (F0 m (pc + 6) ls (.int a :: rest))) : W p l e room_1 s m #[Value.ref b] below meth c H locs cells slots Q (F0 m pc ls rest) := by
  have hx := C.1.1
  have hb := C.1.2.1
  refine lv_aload_n hx hb d1 rfl e0 ?_
  refine lv_iload hx hb d2 e4 ?_
  refine lv_iconst (v := nI j) hx hb d3 hz ?_
  refine lv_iadd hx hb d4 ?_
  refine g_topi (nI_add i j) ?_
  exact g_sldL C hS hk ha d5 kk
theorem g_argB (C : lwC p l s m meth c b L xs D y ad) (hS : va_S (lA s) s.heap H locs) {i : Nat} (j : Nat) {z : Int} {a : Int32} (hz : (Int8.ofInt z).toInt32 = nI j) (e0 : ls[0]? = some (.val (.ref b))) (e4 : ls[4]? = some (.val (.int (nI i)))) (hk : i + j < L) (ha : xs (i + j) = a)
    (d1 : decode cL_law pc = .ok (.aload_n 0, 1)) (d2 : decode cL_law (pc + 1) = .ok (.iload 4, 2)) (d3 : decode cL_law (pc + 3) = .ok (.bipush z, 2)) (d4 : decode cL_law (pc + 5) = .ok (.iadd, 1)) (d5 : decode cL_law (pc + 6) = .ok (.iaload, 1))
    (kk : W p l e room_1 s m #[Value.ref b] below meth c H locs cells slots Q (F0 m (pc + 7) ls (.int a :: rest))) : W p l e room_1 s m #[Value.ref b] below meth c H locs cells slots Q (F0 m pc ls rest) := by
  have hx := C.1.1
  have hb := C.1.2.1
  refine lv_aload_n hx hb d1 rfl e0 ?_
  refine lv_iload hx hb d2 e4 ?_
  refine lv_bipush (v := nI j) hx hb d3 hz ?_
  refine lv_iadd hx hb d4 ?_
  refine g_topi (nI_add i j) ?_
  exact g_sldL C hS hk ha d5 kk
theorem g_flag (C : lwC p l s m meth c b L xs D y ad) {a : Int32} {bb : Bool} (ha : bb = (if a = 0 then false else true)) {z1 z2 : Int} {t1 t2 : Nat} (d1 : decode cL_law pc = .ok (.ifCond .eq z1, 3)) (h1 : (pc : Int) + z1 = (t1 : Int)) (d2 : decode cL_law (pc + 3) = .ok (.iconst 1, 1)) (d3 : decode cL_law (pc + 4) = .ok (.goto z2, 3)) (h2 : ((pc + 4 : Nat) : Int) + z2 = (t2 : Int)) (d4 : decode cL_law t1 = .ok (.iconst 0, 1)) (h3 : t1 + 1 = t2)
    (kk : W p l e room_1 s m #[Value.ref b] below meth c H locs cells slots Q (F0 m t2 ls (.int (gB bb) :: rest))) : W p l e room_1 s m #[Value.ref b] below meth c H locs cells slots Q (F0 m pc ls (.int a :: rest)) := by
  have hx := C.1.1
  have hb := C.1.2.1
  refine lv_if_eq hx hb d1 h1 (fun h => ?_) (fun h => ?_)
  · refine lv_iconst (v := 0) hx hb d4 (by decide) ?_
    rw [if_pos h] at ha
    subst ha
    subst h3
    exact kk
  · refine lv_iconst (v := 1) hx hb d2 (by decide) ?_
    rw [if_neg h] at ha
    subst ha
    exact lv_goto hx hb d3 h2 kk
theorem gAt0 {w8 : va_W} {x : Nat × va_E} {wr : va_W} : (w8 ++ x :: wr)[w8.length]? = some x := by
  rw [List.getElem?_append_right (Nat.le_refl _), Nat.sub_self]
  rfl
set_option maxRecDepth 4000 in
theorem lz_ratio (C : lwC p l s m meth c b L xs D y ad) {i : Nat} (hi : i + 7 ≤ L) {hX1 h8 oa : Nat} {a1 : Int32} {a2 : Int32} (e1 : xs (i + 1) = a1) (e2 : xs (i + 2) = a2) (hl : lv_has ls 8 [(0, .ref b), (1, .ref hX1), (2, .ref h8), (3, .ref oa), (4, .int (nI i))]) {wX1 w8 : va_W} (hP : va_P D vwCl (w8 ++ wX1) H) (hD : va_D (lA s) (w8 ++ wX1)) (hS : va_S (lA s) s.heap H locs) {fs : List Value} (he : w8[0]? = some (h8, .inr (6, fs)))
    {rmL rm8 : Room} {mc ms : Nat} {fL f8 : Option Value → va_W → Prop} (HL : ∀ sz, Met l yL_ratio wsL_ratio rmL (gPN D y ad [.ref hX1, .int a1, .int a2, .ref oa] wX1 sz) (gQn D wX1 fL) mc ms (va_A wX1 sz)) (hcL : rmL.cells = mc) (hsL : rmL.slots = ms) (hrL : rmL.frames + 1 ≤ 13 ∧ 8 + (5 + 11) + rmL.locals ≤ 502) (hroom : cells + mc ≤ 601024 ∧ slots + ms ≤ 7293034)
    (H8 : ∀ sz, Met l yX8_ratio wsX8_ratio rm8 (gP D y (.ref h8 :: [.int a1, .int a2]) w8 sz) (gQ D w8 f8) 0 0 (va_A w8 sz)) (hc8 : rm8.cells = 0) (hs8 : rm8.slots = 0) (hr8 : rm8.frames + 1 ≤ 13 ∧ 8 + (4 + 11) + rm8.locals ≤ 502)
    (hfL : ∀ v w, fL v w → ∃ (k : Int32) (of : Nat → Int64) (wr : va_W), v = some (.int k) ∧ w = (oa, .inl (y 1, 1, .inr (.inl of))) :: wr) (hf8 : ∀ v w, f8 v w → ∃ a9 : Int32, v = some (.int a9))
    (KK : ∀ (k : Int32) (of : Nat → Int64) (wr : va_W) (a9 : Int32) (w9 : va_W), fL (some (.int k)) ((oa, .inl (y 1, 1, .inr (.inl of))) :: wr) → f8 (some (.int a9)) w9 →
      (∀ sz, Met l yX8_thrown wsX8_thrown ({ frames := 0, cells := 0, slots := 0, locals := 0 } : Room) (gP D y [.ref h8] w9 sz) (gR (.int k)) 0 0 (fun _ => False)) ∧ (∃ fs9 : List Value, w9[0]? = some (h8, .inr (6, fs9))) ∧ (k = 0 → of 0 = a9.toInt64) ∧
      ∀ (H : Heap) (locs : List Loc) (ls : Array Slot), va_P D vwCl (w9 ++ (oa, .inl (y 1, 1, .inr (.inl of))) :: wr) H → va_D (lA s) (w9 ++ (oa, .inl (y 1, 1, .inr (.inl of))) :: wr) → va_S (lA s) s.heap H locs → lv_has ls 8 [(0, .ref b), (1, .ref hX1), (2, .ref h8), (3, .ref oa), (4, .int (nI i))] → W p l e room_1 s m #[Value.ref b] below meth c H locs (cells + mc) (slots + ms) Q (F0 m 1823 ls [])) :
    W p l e room_1 s m #[Value.ref b] below meth c H locs cells slots Q (F0 m 152 ls []) := by
  obtain ⟨⟨hx, hb, hml, hown, hts⟩, ⟨hX, hbl, hL⟩, hK, hE, hN, hfl⟩ := id C
  have hA : ∀ q : Nat, s.heap.size ≤ q → lA s q := fun _ h => h
  refine lv_aload_n hx hb dL_law_152 rfl (lv_at hl 1 rfl) ?_
  refine g_argL C hS 1 (by decide) (lv_at hl 0 rfl) (lv_at hl 4 rfl) (by omega) e1 dL_law_153 dL_law_154 dL_law_156 dL_law_157 dL_law_158 ?_
  refine g_argL C hS 2 (by decide) (lv_at hl 0 rfl) (lv_at hl 4 rfl) (by omega) e2 dL_law_159 dL_law_160 dL_law_162 dL_law_163 dL_law_164 ?_
  refine lv_aload_n hx hb dL_law_165 rfl (lv_at hl 3 rfl) ?_
  refine g_callN (ws := w8) (wc := wX1) (vx_runSW (As := [.ref hX1, .int a1, .int a2, .ref oa]) (rest := []) ⟨hx, hb, hml, hown, hts⟩ (HL H.size) (vx_cwSW 4 hts gL_law_L_ratio rfl hcL hsL (by decide +kernel) hrL) (gPN_SA (va_P_r hP) (va_D_r hD) hK hE hN hS hA) rfl rfl hl.1 rfl (lv_room (Nat.le_of_ble_eq_true rfl)) dL_law_166 hroom) hP hD hS hA (fun v w H locs hf hP hD hS => ?_)
  obtain ⟨k, of, wr, rfl, rfl⟩ := hfL v w hf
  refine lv_istore (lv' := [(5, .int k), (0, .ref b), (1, .ref hX1), (2, .ref h8), (3, .ref oa), (4, .int (nI i))]) hx hb dL_law_169 hl (by decide) rfl (fun ls hl => ?_)
  refine lv_aload_n hx hb dL_law_171 rfl (lv_at hl 3 rfl) ?_
  refine g_argL C hS 1 (by decide) (lv_at hl 1 rfl) (lv_at hl 5 rfl) (by omega) e1 dL_law_172 dL_law_173 dL_law_175 dL_law_176 dL_law_177 ?_
  refine g_argL C hS 2 (by decide) (lv_at hl 1 rfl) (lv_at hl 5 rfl) (by omega) e2 dL_law_178 dL_law_179 dL_law_181 dL_law_182 dL_law_183 ?_
  have hP2 := va_P_sw hP
  have hD2 := va_D_sw hD
  refine g_callAr (ws := (oa, .inl (y 1, 1, .inr (.inl of))) :: wr) (wc := w8) (va_runV (As := [.int a1, .int a2]) (rest := []) ⟨hx, hb, hml, hown, hts⟩ (H8 H.size) (cwV 2 hts gL_law_X8_ratio rfl hc8 hs8 (by decide +kernel) hr8) (gP_VA (va_P_r hP2) (va_D_r hD2) hK 0 he rfl) rfl rfl hl.1 rfl (lv_room (Nat.le_of_ble_eq_true rfl)) dL_law_184 hroom) hP2 hD2 hS hA (fun v w9 H locs hf9 hP hD hS => ?_)
  obtain ⟨a9, rfl⟩ := hf8 v w9 hf9
  have hP := va_P_sw hP
  have hD := va_D_sw hD
  obtain ⟨hT, ⟨fs9, he9⟩, hcmp, kk⟩ := KK k of wr a9 w9 hf hf9
  refine lv_istore (lv' := [(6, .int a9), (5, .int k), (0, .ref b), (1, .ref hX1), (2, .ref h8), (3, .ref oa), (4, .int (nI i))]) hx hb dL_law_187 hl (by decide) rfl (fun ls hl => ?_)
  refine lv_aload_n hx hb dL_law_189 rfl (lv_at hl 4 rfl) ?_
  refine g_callR (v0 := .int k) (va_runV (As := []) (rest := []) ⟨hx, hb, hml, hown, hts⟩ (hT H.size) (cwV 0 hts gL_law_X8_thrown rfl rfl rfl (by decide +kernel) ⟨Nat.le_of_ble_eq_true rfl, Nat.le_of_ble_eq_true rfl⟩) (gP_VA (va_P_r (va_P_sw hP)) (va_D_r (va_D_sw hD)) hK 0 he9 rfl) rfl rfl hl.1 rfl (lv_room (Nat.le_of_ble_eq_true rfl)) dL_law_190 hroom) ?_
  refine lv_iload hx hb dL_law_193 (lv_at hl 1 rfl) ?_
  refine lv_icmp_eq (tgt := 200) hx hb dL_law_195 (by decide) (fun _ => ?_) (fun h => absurd rfl h)
  refine lv_iload hx hb dL_law_200 (lv_at hl 1 rfl) ?_
  refine lv_if_ne (tgt := 217) hx hb dL_law_202 (by decide) (fun _ => ?_) (fun h0 => ?_)
  · refine lv_goto (tgt := 1823) hx hb dL_law_217 (by decide) ?_
    exact kk H locs ls hP hD hS (lv_sub hl [2, 3, 4, 5, 6] rfl)
  · refine lv_aload_n hx hb dL_law_205 rfl (lv_at hl 5 rfl) ?_
    refine lv_iconst (v := 0) hx hb dL_law_206 (by decide) ?_
    refine g_lald (k := 0) hx hb hK.1 hP w9.length 1 gAt0 rfl (by decide) (by decide) dL_law_207 ?_
    refine lv_iload hx hb dL_law_208 (lv_at hl 0 rfl) ?_
    refine lv_i2l (v := a9.toInt64) hx hb dL_law_210 rfl ?_
    refine g_eq (tgt := 217) hx hb dL_law_211 dL_law_212 (by decide) (fun _ => ?_) (fun h => absurd (hcmp h0) h)
    refine lv_goto (tgt := 1823) hx hb dL_law_217 (by decide) ?_
    exact kk H locs ls hP hD hS (lv_sub hl [2, 3, 4, 5, 6] rfl)
set_option maxRecDepth 4000 in
theorem lz_sum (C : lwC p l s m meth c b L xs D y ad) {i : Nat} (hi : i + 7 ≤ L) {hX1 h8 oa : Nat} {a1 : Int32} {a2 : Int32} (e1 : xs (i + 1) = a1) (e2 : xs (i + 2) = a2) (hl : lv_has ls 8 [(0, .ref b), (1, .ref hX1), (2, .ref h8), (3, .ref oa), (4, .int (nI i))]) {wX1 w8 : va_W} (hP : va_P D vwCl (w8 ++ wX1) H) (hD : va_D (lA s) (w8 ++ wX1)) (hS : va_S (lA s) s.heap H locs) {fs : List Value} (he : w8[0]? = some (h8, .inr (6, fs)))
    {rmL rm8 : Room} {mc ms : Nat} {fL f8 : Option Value → va_W → Prop} (HL : ∀ sz, Met l yL_sum wsL_sum rmL (gPN D y ad [.ref hX1, .int a1, .int a2, .ref oa] wX1 sz) (gQn D wX1 fL) mc ms (va_A wX1 sz)) (hcL : rmL.cells = mc) (hsL : rmL.slots = ms) (hrL : rmL.frames + 1 ≤ 13 ∧ 8 + (5 + 11) + rmL.locals ≤ 502) (hroom : cells + mc ≤ 601024 ∧ slots + ms ≤ 7293034)
    (H8 : ∀ sz, Met l yX8_sum wsX8_sum rm8 (gP D y (.ref h8 :: [.int a1, .int a2]) w8 sz) (gQ D w8 f8) 0 0 (va_A w8 sz)) (hc8 : rm8.cells = 0) (hs8 : rm8.slots = 0) (hr8 : rm8.frames + 1 ≤ 13 ∧ 8 + (3 + 11) + rm8.locals ≤ 502)
    (hfL : ∀ v w, fL v w → ∃ (k : Int32) (of : Nat → Int64) (wr : va_W), v = some (.int k) ∧ w = (oa, .inl (y 1, 1, .inr (.inl of))) :: wr) (hf8 : ∀ v w, f8 v w → ∃ a9 : Int32, v = some (.int a9))
    (KK : ∀ (k : Int32) (of : Nat → Int64) (wr : va_W) (a9 : Int32) (w9 : va_W), fL (some (.int k)) ((oa, .inl (y 1, 1, .inr (.inl of))) :: wr) → f8 (some (.int a9)) w9 →
      (∀ sz, Met l yX8_thrown wsX8_thrown ({ frames := 0, cells := 0, slots := 0, locals := 0 } : Room) (gP D y [.ref h8] w9 sz) (gR (.int k)) 0 0 (fun _ => False)) ∧ (∃ fs9 : List Value, w9[0]? = some (h8, .inr (6, fs9))) ∧ (k = 0 → of 0 = a9.toInt64) ∧
      ∀ (H : Heap) (locs : List Loc) (ls : Array Slot), va_P D vwCl (w9 ++ (oa, .inl (y 1, 1, .inr (.inl of))) :: wr) H → va_D (lA s) (w9 ++ (oa, .inl (y 1, 1, .inr (.inl of))) :: wr) → va_S (lA s) s.heap H locs → lv_has ls 8 [(0, .ref b), (1, .ref hX1), (2, .ref h8), (3, .ref oa), (4, .int (nI i))] → W p l e room_1 s m #[Value.ref b] below meth c H locs (cells + mc) (slots + ms) Q (F0 m 1823 ls [])) :
    W p l e room_1 s m #[Value.ref b] below meth c H locs cells slots Q (F0 m 220 ls []) := by
  obtain ⟨⟨hx, hb, hml, hown, hts⟩, ⟨hX, hbl, hL⟩, hK, hE, hN, hfl⟩ := id C
  have hA : ∀ q : Nat, s.heap.size ≤ q → lA s q := fun _ h => h
  refine lv_aload_n hx hb dL_law_220 rfl (lv_at hl 1 rfl) ?_
  refine g_argL C hS 1 (by decide) (lv_at hl 0 rfl) (lv_at hl 4 rfl) (by omega) e1 dL_law_221 dL_law_222 dL_law_224 dL_law_225 dL_law_226 ?_
  refine g_argL C hS 2 (by decide) (lv_at hl 0 rfl) (lv_at hl 4 rfl) (by omega) e2 dL_law_227 dL_law_228 dL_law_230 dL_law_231 dL_law_232 ?_
  refine lv_aload_n hx hb dL_law_233 rfl (lv_at hl 3 rfl) ?_
  refine g_callN (ws := w8) (wc := wX1) (vx_runSW (As := [.ref hX1, .int a1, .int a2, .ref oa]) (rest := []) ⟨hx, hb, hml, hown, hts⟩ (HL H.size) (vx_cwSW 4 hts gL_law_L_sum rfl hcL hsL (by decide +kernel) hrL) (gPN_SA (va_P_r hP) (va_D_r hD) hK hE hN hS hA) rfl rfl hl.1 rfl (lv_room (Nat.le_of_ble_eq_true rfl)) dL_law_234 hroom) hP hD hS hA (fun v w H locs hf hP hD hS => ?_)
  obtain ⟨k, of, wr, rfl, rfl⟩ := hfL v w hf
  refine lv_istore (lv' := [(5, .int k), (0, .ref b), (1, .ref hX1), (2, .ref h8), (3, .ref oa), (4, .int (nI i))]) hx hb dL_law_237 hl (by decide) rfl (fun ls hl => ?_)
  refine lv_aload_n hx hb dL_law_239 rfl (lv_at hl 3 rfl) ?_
  refine g_argL C hS 1 (by decide) (lv_at hl 1 rfl) (lv_at hl 5 rfl) (by omega) e1 dL_law_240 dL_law_241 dL_law_243 dL_law_244 dL_law_245 ?_
  refine g_argL C hS 2 (by decide) (lv_at hl 1 rfl) (lv_at hl 5 rfl) (by omega) e2 dL_law_246 dL_law_247 dL_law_249 dL_law_250 dL_law_251 ?_
  have hP2 := va_P_sw hP
  have hD2 := va_D_sw hD
  refine g_callAr (ws := (oa, .inl (y 1, 1, .inr (.inl of))) :: wr) (wc := w8) (va_runV (As := [.int a1, .int a2]) (rest := []) ⟨hx, hb, hml, hown, hts⟩ (H8 H.size) (cwV 2 hts gL_law_X8_sum rfl hc8 hs8 (by decide +kernel) hr8) (gP_VA (va_P_r hP2) (va_D_r hD2) hK 0 he rfl) rfl rfl hl.1 rfl (lv_room (Nat.le_of_ble_eq_true rfl)) dL_law_252 hroom) hP2 hD2 hS hA (fun v w9 H locs hf9 hP hD hS => ?_)
  obtain ⟨a9, rfl⟩ := hf8 v w9 hf9
  have hP := va_P_sw hP
  have hD := va_D_sw hD
  obtain ⟨hT, ⟨fs9, he9⟩, hcmp, kk⟩ := KK k of wr a9 w9 hf hf9
  refine lv_istore (lv' := [(6, .int a9), (5, .int k), (0, .ref b), (1, .ref hX1), (2, .ref h8), (3, .ref oa), (4, .int (nI i))]) hx hb dL_law_255 hl (by decide) rfl (fun ls hl => ?_)
  refine lv_aload_n hx hb dL_law_257 rfl (lv_at hl 4 rfl) ?_
  refine g_callR (v0 := .int k) (va_runV (As := []) (rest := []) ⟨hx, hb, hml, hown, hts⟩ (hT H.size) (cwV 0 hts gL_law_X8_thrown rfl rfl rfl (by decide +kernel) ⟨Nat.le_of_ble_eq_true rfl, Nat.le_of_ble_eq_true rfl⟩) (gP_VA (va_P_r (va_P_sw hP)) (va_D_r (va_D_sw hD)) hK 0 he9 rfl) rfl rfl hl.1 rfl (lv_room (Nat.le_of_ble_eq_true rfl)) dL_law_258 hroom) ?_
  refine lv_iload hx hb dL_law_261 (lv_at hl 1 rfl) ?_
  refine lv_icmp_eq (tgt := 268) hx hb dL_law_263 (by decide) (fun _ => ?_) (fun h => absurd rfl h)
  refine lv_iload hx hb dL_law_268 (lv_at hl 1 rfl) ?_
  refine lv_if_ne (tgt := 285) hx hb dL_law_270 (by decide) (fun _ => ?_) (fun h0 => ?_)
  · refine lv_goto (tgt := 1823) hx hb dL_law_285 (by decide) ?_
    exact kk H locs ls hP hD hS (lv_sub hl [2, 3, 4, 5, 6] rfl)
  · refine lv_aload_n hx hb dL_law_273 rfl (lv_at hl 5 rfl) ?_
    refine lv_iconst (v := 0) hx hb dL_law_274 (by decide) ?_
    refine g_lald (k := 0) hx hb hK.1 hP w9.length 1 gAt0 rfl (by decide) (by decide) dL_law_275 ?_
    refine lv_iload hx hb dL_law_276 (lv_at hl 0 rfl) ?_
    refine lv_i2l (v := a9.toInt64) hx hb dL_law_278 rfl ?_
    refine g_eq (tgt := 285) hx hb dL_law_279 dL_law_280 (by decide) (fun _ => ?_) (fun h => absurd (hcmp h0) h)
    refine lv_goto (tgt := 1823) hx hb dL_law_285 (by decide) ?_
    exact kk H locs ls hP hD hS (lv_sub hl [2, 3, 4, 5, 6] rfl)
set_option maxRecDepth 4000 in
theorem lz_difference (C : lwC p l s m meth c b L xs D y ad) {i : Nat} (hi : i + 7 ≤ L) {hX1 h8 oa : Nat} {a1 : Int32} {a2 : Int32} (e1 : xs (i + 1) = a1) (e2 : xs (i + 2) = a2) (hl : lv_has ls 8 [(0, .ref b), (1, .ref hX1), (2, .ref h8), (3, .ref oa), (4, .int (nI i))]) {wX1 w8 : va_W} (hP : va_P D vwCl (w8 ++ wX1) H) (hD : va_D (lA s) (w8 ++ wX1)) (hS : va_S (lA s) s.heap H locs) {fs : List Value} (he : w8[0]? = some (h8, .inr (6, fs)))
    {rmL rm8 : Room} {mc ms : Nat} {fL f8 : Option Value → va_W → Prop} (HL : ∀ sz, Met l yL_difference wsL_difference rmL (gPN D y ad [.ref hX1, .int a1, .int a2, .ref oa] wX1 sz) (gQn D wX1 fL) mc ms (va_A wX1 sz)) (hcL : rmL.cells = mc) (hsL : rmL.slots = ms) (hrL : rmL.frames + 1 ≤ 13 ∧ 8 + (5 + 11) + rmL.locals ≤ 502) (hroom : cells + mc ≤ 601024 ∧ slots + ms ≤ 7293034)
    (H8 : ∀ sz, Met l yX8_difference wsX8_difference rm8 (gP D y (.ref h8 :: [.int a1, .int a2]) w8 sz) (gQ D w8 f8) 0 0 (va_A w8 sz)) (hc8 : rm8.cells = 0) (hs8 : rm8.slots = 0) (hr8 : rm8.frames + 1 ≤ 13 ∧ 8 + (3 + 11) + rm8.locals ≤ 502)
    (hfL : ∀ v w, fL v w → ∃ (k : Int32) (of : Nat → Int64) (wr : va_W), v = some (.int k) ∧ w = (oa, .inl (y 1, 1, .inr (.inl of))) :: wr) (hf8 : ∀ v w, f8 v w → ∃ a9 : Int32, v = some (.int a9))
    (KK : ∀ (k : Int32) (of : Nat → Int64) (wr : va_W) (a9 : Int32) (w9 : va_W), fL (some (.int k)) ((oa, .inl (y 1, 1, .inr (.inl of))) :: wr) → f8 (some (.int a9)) w9 →
      (∀ sz, Met l yX8_thrown wsX8_thrown ({ frames := 0, cells := 0, slots := 0, locals := 0 } : Room) (gP D y [.ref h8] w9 sz) (gR (.int k)) 0 0 (fun _ => False)) ∧ (∃ fs9 : List Value, w9[0]? = some (h8, .inr (6, fs9))) ∧ (k = 0 → of 0 = a9.toInt64) ∧
      ∀ (H : Heap) (locs : List Loc) (ls : Array Slot), va_P D vwCl (w9 ++ (oa, .inl (y 1, 1, .inr (.inl of))) :: wr) H → va_D (lA s) (w9 ++ (oa, .inl (y 1, 1, .inr (.inl of))) :: wr) → va_S (lA s) s.heap H locs → lv_has ls 8 [(0, .ref b), (1, .ref hX1), (2, .ref h8), (3, .ref oa), (4, .int (nI i))] → W p l e room_1 s m #[Value.ref b] below meth c H locs (cells + mc) (slots + ms) Q (F0 m 1823 ls [])) :
    W p l e room_1 s m #[Value.ref b] below meth c H locs cells slots Q (F0 m 288 ls []) := by
  obtain ⟨⟨hx, hb, hml, hown, hts⟩, ⟨hX, hbl, hL⟩, hK, hE, hN, hfl⟩ := id C
  have hA : ∀ q : Nat, s.heap.size ≤ q → lA s q := fun _ h => h
  refine lv_aload_n hx hb dL_law_288 rfl (lv_at hl 1 rfl) ?_
  refine g_argL C hS 1 (by decide) (lv_at hl 0 rfl) (lv_at hl 4 rfl) (by omega) e1 dL_law_289 dL_law_290 dL_law_292 dL_law_293 dL_law_294 ?_
  refine g_argL C hS 2 (by decide) (lv_at hl 0 rfl) (lv_at hl 4 rfl) (by omega) e2 dL_law_295 dL_law_296 dL_law_298 dL_law_299 dL_law_300 ?_
  refine lv_aload_n hx hb dL_law_301 rfl (lv_at hl 3 rfl) ?_
  refine g_callN (ws := w8) (wc := wX1) (vx_runSW (As := [.ref hX1, .int a1, .int a2, .ref oa]) (rest := []) ⟨hx, hb, hml, hown, hts⟩ (HL H.size) (vx_cwSW 4 hts gL_law_L_difference rfl hcL hsL (by decide +kernel) hrL) (gPN_SA (va_P_r hP) (va_D_r hD) hK hE hN hS hA) rfl rfl hl.1 rfl (lv_room (Nat.le_of_ble_eq_true rfl)) dL_law_302 hroom) hP hD hS hA (fun v w H locs hf hP hD hS => ?_)
  obtain ⟨k, of, wr, rfl, rfl⟩ := hfL v w hf
  refine lv_istore (lv' := [(5, .int k), (0, .ref b), (1, .ref hX1), (2, .ref h8), (3, .ref oa), (4, .int (nI i))]) hx hb dL_law_305 hl (by decide) rfl (fun ls hl => ?_)
  refine lv_aload_n hx hb dL_law_307 rfl (lv_at hl 3 rfl) ?_
  refine g_argL C hS 1 (by decide) (lv_at hl 1 rfl) (lv_at hl 5 rfl) (by omega) e1 dL_law_308 dL_law_309 dL_law_311 dL_law_312 dL_law_313 ?_
  refine g_argL C hS 2 (by decide) (lv_at hl 1 rfl) (lv_at hl 5 rfl) (by omega) e2 dL_law_314 dL_law_315 dL_law_317 dL_law_318 dL_law_319 ?_
  have hP2 := va_P_sw hP
  have hD2 := va_D_sw hD
  refine g_callAr (ws := (oa, .inl (y 1, 1, .inr (.inl of))) :: wr) (wc := w8) (va_runV (As := [.int a1, .int a2]) (rest := []) ⟨hx, hb, hml, hown, hts⟩ (H8 H.size) (cwV 2 hts gL_law_X8_difference rfl hc8 hs8 (by decide +kernel) hr8) (gP_VA (va_P_r hP2) (va_D_r hD2) hK 0 he rfl) rfl rfl hl.1 rfl (lv_room (Nat.le_of_ble_eq_true rfl)) dL_law_320 hroom) hP2 hD2 hS hA (fun v w9 H locs hf9 hP hD hS => ?_)
  obtain ⟨a9, rfl⟩ := hf8 v w9 hf9
  have hP := va_P_sw hP
  have hD := va_D_sw hD
  obtain ⟨hT, ⟨fs9, he9⟩, hcmp, kk⟩ := KK k of wr a9 w9 hf hf9
  refine lv_istore (lv' := [(6, .int a9), (5, .int k), (0, .ref b), (1, .ref hX1), (2, .ref h8), (3, .ref oa), (4, .int (nI i))]) hx hb dL_law_323 hl (by decide) rfl (fun ls hl => ?_)
  refine lv_aload_n hx hb dL_law_325 rfl (lv_at hl 4 rfl) ?_
  refine g_callR (v0 := .int k) (va_runV (As := []) (rest := []) ⟨hx, hb, hml, hown, hts⟩ (hT H.size) (cwV 0 hts gL_law_X8_thrown rfl rfl rfl (by decide +kernel) ⟨Nat.le_of_ble_eq_true rfl, Nat.le_of_ble_eq_true rfl⟩) (gP_VA (va_P_r (va_P_sw hP)) (va_D_r (va_D_sw hD)) hK 0 he9 rfl) rfl rfl hl.1 rfl (lv_room (Nat.le_of_ble_eq_true rfl)) dL_law_326 hroom) ?_
  refine lv_iload hx hb dL_law_329 (lv_at hl 1 rfl) ?_
  refine lv_icmp_eq (tgt := 336) hx hb dL_law_331 (by decide) (fun _ => ?_) (fun h => absurd rfl h)
  refine lv_iload hx hb dL_law_336 (lv_at hl 1 rfl) ?_
  refine lv_if_ne (tgt := 353) hx hb dL_law_338 (by decide) (fun _ => ?_) (fun h0 => ?_)
  · refine lv_goto (tgt := 1823) hx hb dL_law_353 (by decide) ?_
    exact kk H locs ls hP hD hS (lv_sub hl [2, 3, 4, 5, 6] rfl)
  · refine lv_aload_n hx hb dL_law_341 rfl (lv_at hl 5 rfl) ?_
    refine lv_iconst (v := 0) hx hb dL_law_342 (by decide) ?_
    refine g_lald (k := 0) hx hb hK.1 hP w9.length 1 gAt0 rfl (by decide) (by decide) dL_law_343 ?_
    refine lv_iload hx hb dL_law_344 (lv_at hl 0 rfl) ?_
    refine lv_i2l (v := a9.toInt64) hx hb dL_law_346 rfl ?_
    refine g_eq (tgt := 353) hx hb dL_law_347 dL_law_348 (by decide) (fun _ => ?_) (fun h => absurd (hcmp h0) h)
    refine lv_goto (tgt := 1823) hx hb dL_law_353 (by decide) ?_
    exact kk H locs ls hP hD hS (lv_sub hl [2, 3, 4, 5, 6] rfl)
set_option maxRecDepth 4000 in
theorem lz_product (C : lwC p l s m meth c b L xs D y ad) {i : Nat} (hi : i + 7 ≤ L) {hX1 h8 oa : Nat} {a1 : Int32} {a2 : Int32} (e1 : xs (i + 1) = a1) (e2 : xs (i + 2) = a2) (hl : lv_has ls 8 [(0, .ref b), (1, .ref hX1), (2, .ref h8), (3, .ref oa), (4, .int (nI i))]) {wX1 w8 : va_W} (hP : va_P D vwCl (w8 ++ wX1) H) (hD : va_D (lA s) (w8 ++ wX1)) (hS : va_S (lA s) s.heap H locs) {fs : List Value} (he : w8[0]? = some (h8, .inr (6, fs)))
    {rmL rm8 : Room} {mc ms : Nat} {fL f8 : Option Value → va_W → Prop} (HL : ∀ sz, Met l yL_product wsL_product rmL (gPN D y ad [.ref hX1, .int a1, .int a2, .ref oa] wX1 sz) (gQn D wX1 fL) mc ms (va_A wX1 sz)) (hcL : rmL.cells = mc) (hsL : rmL.slots = ms) (hrL : rmL.frames + 1 ≤ 13 ∧ 8 + (5 + 11) + rmL.locals ≤ 502) (hroom : cells + mc ≤ 601024 ∧ slots + ms ≤ 7293034)
    (H8 : ∀ sz, Met l yX8_product wsX8_product rm8 (gP D y (.ref h8 :: [.int a1, .int a2]) w8 sz) (gQ D w8 f8) 0 0 (va_A w8 sz)) (hc8 : rm8.cells = 0) (hs8 : rm8.slots = 0) (hr8 : rm8.frames + 1 ≤ 13 ∧ 8 + (3 + 11) + rm8.locals ≤ 502)
    (hfL : ∀ v w, fL v w → ∃ (k : Int32) (of : Nat → Int64) (wr : va_W), v = some (.int k) ∧ w = (oa, .inl (y 1, 1, .inr (.inl of))) :: wr) (hf8 : ∀ v w, f8 v w → ∃ a9 : Int32, v = some (.int a9))
    (KK : ∀ (k : Int32) (of : Nat → Int64) (wr : va_W) (a9 : Int32) (w9 : va_W), fL (some (.int k)) ((oa, .inl (y 1, 1, .inr (.inl of))) :: wr) → f8 (some (.int a9)) w9 →
      (∀ sz, Met l yX8_thrown wsX8_thrown ({ frames := 0, cells := 0, slots := 0, locals := 0 } : Room) (gP D y [.ref h8] w9 sz) (gR (.int k)) 0 0 (fun _ => False)) ∧ (∃ fs9 : List Value, w9[0]? = some (h8, .inr (6, fs9))) ∧ (k = 0 → of 0 = a9.toInt64) ∧
      ∀ (H : Heap) (locs : List Loc) (ls : Array Slot), va_P D vwCl (w9 ++ (oa, .inl (y 1, 1, .inr (.inl of))) :: wr) H → va_D (lA s) (w9 ++ (oa, .inl (y 1, 1, .inr (.inl of))) :: wr) → va_S (lA s) s.heap H locs → lv_has ls 8 [(0, .ref b), (1, .ref hX1), (2, .ref h8), (3, .ref oa), (4, .int (nI i))] → W p l e room_1 s m #[Value.ref b] below meth c H locs (cells + mc) (slots + ms) Q (F0 m 1823 ls [])) :
    W p l e room_1 s m #[Value.ref b] below meth c H locs cells slots Q (F0 m 356 ls []) := by
  obtain ⟨⟨hx, hb, hml, hown, hts⟩, ⟨hX, hbl, hL⟩, hK, hE, hN, hfl⟩ := id C
  have hA : ∀ q : Nat, s.heap.size ≤ q → lA s q := fun _ h => h
  refine lv_aload_n hx hb dL_law_356 rfl (lv_at hl 1 rfl) ?_
  refine g_argL C hS 1 (by decide) (lv_at hl 0 rfl) (lv_at hl 4 rfl) (by omega) e1 dL_law_357 dL_law_358 dL_law_360 dL_law_361 dL_law_362 ?_
  refine g_argL C hS 2 (by decide) (lv_at hl 0 rfl) (lv_at hl 4 rfl) (by omega) e2 dL_law_363 dL_law_364 dL_law_366 dL_law_367 dL_law_368 ?_
  refine lv_aload_n hx hb dL_law_369 rfl (lv_at hl 3 rfl) ?_
  refine g_callN (ws := w8) (wc := wX1) (vx_runSW (As := [.ref hX1, .int a1, .int a2, .ref oa]) (rest := []) ⟨hx, hb, hml, hown, hts⟩ (HL H.size) (vx_cwSW 4 hts gL_law_L_product rfl hcL hsL (by decide +kernel) hrL) (gPN_SA (va_P_r hP) (va_D_r hD) hK hE hN hS hA) rfl rfl hl.1 rfl (lv_room (Nat.le_of_ble_eq_true rfl)) dL_law_370 hroom) hP hD hS hA (fun v w H locs hf hP hD hS => ?_)
  obtain ⟨k, of, wr, rfl, rfl⟩ := hfL v w hf
  refine lv_istore (lv' := [(5, .int k), (0, .ref b), (1, .ref hX1), (2, .ref h8), (3, .ref oa), (4, .int (nI i))]) hx hb dL_law_373 hl (by decide) rfl (fun ls hl => ?_)
  refine lv_aload_n hx hb dL_law_375 rfl (lv_at hl 3 rfl) ?_
  refine g_argL C hS 1 (by decide) (lv_at hl 1 rfl) (lv_at hl 5 rfl) (by omega) e1 dL_law_376 dL_law_377 dL_law_379 dL_law_380 dL_law_381 ?_
  refine g_argL C hS 2 (by decide) (lv_at hl 1 rfl) (lv_at hl 5 rfl) (by omega) e2 dL_law_382 dL_law_383 dL_law_385 dL_law_386 dL_law_387 ?_
  have hP2 := va_P_sw hP
  have hD2 := va_D_sw hD
  refine g_callAr (ws := (oa, .inl (y 1, 1, .inr (.inl of))) :: wr) (wc := w8) (va_runV (As := [.int a1, .int a2]) (rest := []) ⟨hx, hb, hml, hown, hts⟩ (H8 H.size) (cwV 2 hts gL_law_X8_product rfl hc8 hs8 (by decide +kernel) hr8) (gP_VA (va_P_r hP2) (va_D_r hD2) hK 0 he rfl) rfl rfl hl.1 rfl (lv_room (Nat.le_of_ble_eq_true rfl)) dL_law_388 hroom) hP2 hD2 hS hA (fun v w9 H locs hf9 hP hD hS => ?_)
  obtain ⟨a9, rfl⟩ := hf8 v w9 hf9
  have hP := va_P_sw hP
  have hD := va_D_sw hD
  obtain ⟨hT, ⟨fs9, he9⟩, hcmp, kk⟩ := KK k of wr a9 w9 hf hf9
  refine lv_istore (lv' := [(6, .int a9), (5, .int k), (0, .ref b), (1, .ref hX1), (2, .ref h8), (3, .ref oa), (4, .int (nI i))]) hx hb dL_law_391 hl (by decide) rfl (fun ls hl => ?_)
  refine lv_aload_n hx hb dL_law_393 rfl (lv_at hl 4 rfl) ?_
  refine g_callR (v0 := .int k) (va_runV (As := []) (rest := []) ⟨hx, hb, hml, hown, hts⟩ (hT H.size) (cwV 0 hts gL_law_X8_thrown rfl rfl rfl (by decide +kernel) ⟨Nat.le_of_ble_eq_true rfl, Nat.le_of_ble_eq_true rfl⟩) (gP_VA (va_P_r (va_P_sw hP)) (va_D_r (va_D_sw hD)) hK 0 he9 rfl) rfl rfl hl.1 rfl (lv_room (Nat.le_of_ble_eq_true rfl)) dL_law_394 hroom) ?_
  refine lv_iload hx hb dL_law_397 (lv_at hl 1 rfl) ?_
  refine lv_icmp_eq (tgt := 404) hx hb dL_law_399 (by decide) (fun _ => ?_) (fun h => absurd rfl h)
  refine lv_iload hx hb dL_law_404 (lv_at hl 1 rfl) ?_
  refine lv_if_ne (tgt := 421) hx hb dL_law_406 (by decide) (fun _ => ?_) (fun h0 => ?_)
  · refine lv_goto (tgt := 1823) hx hb dL_law_421 (by decide) ?_
    exact kk H locs ls hP hD hS (lv_sub hl [2, 3, 4, 5, 6] rfl)
  · refine lv_aload_n hx hb dL_law_409 rfl (lv_at hl 5 rfl) ?_
    refine lv_iconst (v := 0) hx hb dL_law_410 (by decide) ?_
    refine g_lald (k := 0) hx hb hK.1 hP w9.length 1 gAt0 rfl (by decide) (by decide) dL_law_411 ?_
    refine lv_iload hx hb dL_law_412 (lv_at hl 0 rfl) ?_
    refine lv_i2l (v := a9.toInt64) hx hb dL_law_414 rfl ?_
    refine g_eq (tgt := 421) hx hb dL_law_415 dL_law_416 (by decide) (fun _ => ?_) (fun h => absurd (hcmp h0) h)
    refine lv_goto (tgt := 1823) hx hb dL_law_421 (by decide) ?_
    exact kk H locs ls hP hD hS (lv_sub hl [2, 3, 4, 5, 6] rfl)
set_option maxRecDepth 4000 in
theorem lz_greater (C : lwC p l s m meth c b L xs D y ad) {i : Nat} (hi : i + 7 ≤ L) {hX1 h8 oa : Nat} {a1 : Int32} {a2 : Int32} (e1 : xs (i + 1) = a1) (e2 : xs (i + 2) = a2) (hl : lv_has ls 8 [(0, .ref b), (1, .ref hX1), (2, .ref h8), (3, .ref oa), (4, .int (nI i))]) {wX1 w8 : va_W} (hP : va_P D vwCl (w8 ++ wX1) H) (hD : va_D (lA s) (w8 ++ wX1)) (hS : va_S (lA s) s.heap H locs) {fs : List Value} (he : w8[0]? = some (h8, .inr (6, fs)))
    {rmL rm8 : Room} {mc ms : Nat} {fL f8 : Option Value → va_W → Prop} (HL : ∀ sz, Met l yL_greater wsL_greater rmL (gPN D y ad [.ref hX1, .int a1, .int a2, .ref oa] wX1 sz) (gQn D wX1 fL) mc ms (va_A wX1 sz)) (hcL : rmL.cells = mc) (hsL : rmL.slots = ms) (hrL : rmL.frames + 1 ≤ 13 ∧ 8 + (5 + 11) + rmL.locals ≤ 502) (hroom : cells + mc ≤ 601024 ∧ slots + ms ≤ 7293034)
    (H8 : ∀ sz, Met l yX8_greater wsX8_greater rm8 (gP D y (.ref h8 :: [.int a1, .int a2]) w8 sz) (gQ D w8 f8) 0 0 (va_A w8 sz)) (hc8 : rm8.cells = 0) (hs8 : rm8.slots = 0) (hr8 : rm8.frames + 1 ≤ 13 ∧ 8 + (3 + 11) + rm8.locals ≤ 502)
    (hfL : ∀ v w, fL v w → ∃ (k : Int32) (of : Nat → Int64) (wr : va_W), v = some (.int k) ∧ w = (oa, .inl (y 1, 1, .inr (.inl of))) :: wr) (hf8 : ∀ v w, f8 v w → ∃ a9 : Int32, v = some (.int a9))
    (KK : ∀ (k : Int32) (of : Nat → Int64) (wr : va_W) (a9 : Int32) (w9 : va_W), fL (some (.int k)) ((oa, .inl (y 1, 1, .inr (.inl of))) :: wr) → f8 (some (.int a9)) w9 →
      (∀ sz, Met l yX8_thrown wsX8_thrown ({ frames := 0, cells := 0, slots := 0, locals := 0 } : Room) (gP D y [.ref h8] w9 sz) (gR (.int k)) 0 0 (fun _ => False)) ∧ (∃ fs9 : List Value, w9[0]? = some (h8, .inr (6, fs9))) ∧ (k = 0 → of 0 = a9.toInt64) ∧
      ∀ (H : Heap) (locs : List Loc) (ls : Array Slot), va_P D vwCl (w9 ++ (oa, .inl (y 1, 1, .inr (.inl of))) :: wr) H → va_D (lA s) (w9 ++ (oa, .inl (y 1, 1, .inr (.inl of))) :: wr) → va_S (lA s) s.heap H locs → lv_has ls 8 [(0, .ref b), (1, .ref hX1), (2, .ref h8), (3, .ref oa), (4, .int (nI i))] → W p l e room_1 s m #[Value.ref b] below meth c H locs (cells + mc) (slots + ms) Q (F0 m 1823 ls [])) :
    W p l e room_1 s m #[Value.ref b] below meth c H locs cells slots Q (F0 m 424 ls []) := by
  obtain ⟨⟨hx, hb, hml, hown, hts⟩, ⟨hX, hbl, hL⟩, hK, hE, hN, hfl⟩ := id C
  have hA : ∀ q : Nat, s.heap.size ≤ q → lA s q := fun _ h => h
  refine lv_aload_n hx hb dL_law_424 rfl (lv_at hl 1 rfl) ?_
  refine g_argL C hS 1 (by decide) (lv_at hl 0 rfl) (lv_at hl 4 rfl) (by omega) e1 dL_law_425 dL_law_426 dL_law_428 dL_law_429 dL_law_430 ?_
  refine g_argL C hS 2 (by decide) (lv_at hl 0 rfl) (lv_at hl 4 rfl) (by omega) e2 dL_law_431 dL_law_432 dL_law_434 dL_law_435 dL_law_436 ?_
  refine lv_aload_n hx hb dL_law_437 rfl (lv_at hl 3 rfl) ?_
  refine g_callN (ws := w8) (wc := wX1) (vx_runSW (As := [.ref hX1, .int a1, .int a2, .ref oa]) (rest := []) ⟨hx, hb, hml, hown, hts⟩ (HL H.size) (vx_cwSW 4 hts gL_law_L_greater rfl hcL hsL (by decide +kernel) hrL) (gPN_SA (va_P_r hP) (va_D_r hD) hK hE hN hS hA) rfl rfl hl.1 rfl (lv_room (Nat.le_of_ble_eq_true rfl)) dL_law_438 hroom) hP hD hS hA (fun v w H locs hf hP hD hS => ?_)
  obtain ⟨k, of, wr, rfl, rfl⟩ := hfL v w hf
  refine lv_istore (lv' := [(5, .int k), (0, .ref b), (1, .ref hX1), (2, .ref h8), (3, .ref oa), (4, .int (nI i))]) hx hb dL_law_441 hl (by decide) rfl (fun ls hl => ?_)
  refine lv_aload_n hx hb dL_law_443 rfl (lv_at hl 3 rfl) ?_
  refine g_argL C hS 1 (by decide) (lv_at hl 1 rfl) (lv_at hl 5 rfl) (by omega) e1 dL_law_444 dL_law_445 dL_law_447 dL_law_448 dL_law_449 ?_
  refine g_argL C hS 2 (by decide) (lv_at hl 1 rfl) (lv_at hl 5 rfl) (by omega) e2 dL_law_450 dL_law_451 dL_law_453 dL_law_454 dL_law_455 ?_
  have hP2 := va_P_sw hP
  have hD2 := va_D_sw hD
  refine g_callAr (ws := (oa, .inl (y 1, 1, .inr (.inl of))) :: wr) (wc := w8) (va_runV (As := [.int a1, .int a2]) (rest := []) ⟨hx, hb, hml, hown, hts⟩ (H8 H.size) (cwV 2 hts gL_law_X8_greater rfl hc8 hs8 (by decide +kernel) hr8) (gP_VA (va_P_r hP2) (va_D_r hD2) hK 0 he rfl) rfl rfl hl.1 rfl (lv_room (Nat.le_of_ble_eq_true rfl)) dL_law_456 hroom) hP2 hD2 hS hA (fun v w9 H locs hf9 hP hD hS => ?_)
  obtain ⟨a9, rfl⟩ := hf8 v w9 hf9
  have hP := va_P_sw hP
  have hD := va_D_sw hD
  obtain ⟨hT, ⟨fs9, he9⟩, hcmp, kk⟩ := KK k of wr a9 w9 hf hf9
  refine lv_istore (lv' := [(6, .int a9), (5, .int k), (0, .ref b), (1, .ref hX1), (2, .ref h8), (3, .ref oa), (4, .int (nI i))]) hx hb dL_law_459 hl (by decide) rfl (fun ls hl => ?_)
  refine lv_aload_n hx hb dL_law_461 rfl (lv_at hl 4 rfl) ?_
  refine g_callR (v0 := .int k) (va_runV (As := []) (rest := []) ⟨hx, hb, hml, hown, hts⟩ (hT H.size) (cwV 0 hts gL_law_X8_thrown rfl rfl rfl (by decide +kernel) ⟨Nat.le_of_ble_eq_true rfl, Nat.le_of_ble_eq_true rfl⟩) (gP_VA (va_P_r (va_P_sw hP)) (va_D_r (va_D_sw hD)) hK 0 he9 rfl) rfl rfl hl.1 rfl (lv_room (Nat.le_of_ble_eq_true rfl)) dL_law_462 hroom) ?_
  refine lv_iload hx hb dL_law_465 (lv_at hl 1 rfl) ?_
  refine lv_icmp_eq (tgt := 472) hx hb dL_law_467 (by decide) (fun _ => ?_) (fun h => absurd rfl h)
  refine lv_iload hx hb dL_law_472 (lv_at hl 1 rfl) ?_
  refine lv_if_ne (tgt := 489) hx hb dL_law_474 (by decide) (fun _ => ?_) (fun h0 => ?_)
  · refine lv_goto (tgt := 1823) hx hb dL_law_489 (by decide) ?_
    exact kk H locs ls hP hD hS (lv_sub hl [2, 3, 4, 5, 6] rfl)
  · refine lv_aload_n hx hb dL_law_477 rfl (lv_at hl 5 rfl) ?_
    refine lv_iconst (v := 0) hx hb dL_law_478 (by decide) ?_
    refine g_lald (k := 0) hx hb hK.1 hP w9.length 1 gAt0 rfl (by decide) (by decide) dL_law_479 ?_
    refine lv_iload hx hb dL_law_480 (lv_at hl 0 rfl) ?_
    refine lv_i2l (v := a9.toInt64) hx hb dL_law_482 rfl ?_
    refine g_eq (tgt := 489) hx hb dL_law_483 dL_law_484 (by decide) (fun _ => ?_) (fun h => absurd (hcmp h0) h)
    refine lv_goto (tgt := 1823) hx hb dL_law_489 (by decide) ?_
    exact kk H locs ls hP hD hS (lv_sub hl [2, 3, 4, 5, 6] rfl)
set_option maxRecDepth 4000 in
theorem lz_inverse (C : lwC p l s m meth c b L xs D y ad) {i : Nat} (hi : i + 7 ≤ L) {hX1 h8 oa : Nat} {a1 : Int32} (e1 : xs (i + 1) = a1) (hl : lv_has ls 8 [(0, .ref b), (1, .ref hX1), (2, .ref h8), (3, .ref oa), (4, .int (nI i))]) {wX1 w8 : va_W} (hP : va_P D vwCl (w8 ++ wX1) H) (hD : va_D (lA s) (w8 ++ wX1)) (hS : va_S (lA s) s.heap H locs) {fs : List Value} (he : w8[0]? = some (h8, .inr (6, fs)))
    {rmL rm8 : Room} {mc ms : Nat} {fL f8 : Option Value → va_W → Prop} (HL : ∀ sz, Met l yL_inverse wsL_inverse rmL (gPN D y ad [.ref hX1, .int a1, .ref oa] wX1 sz) (gQn D wX1 fL) mc ms (va_A wX1 sz)) (hcL : rmL.cells = mc) (hsL : rmL.slots = ms) (hrL : rmL.frames + 1 ≤ 13 ∧ 8 + (4 + 11) + rmL.locals ≤ 502) (hroom : cells + mc ≤ 601024 ∧ slots + ms ≤ 7293034)
    (H8 : ∀ sz, Met l yX8_inverse wsX8_inverse rm8 (gP D y (.ref h8 :: [.int a1]) w8 sz) (gQ D w8 f8) 0 0 (va_A w8 sz)) (hc8 : rm8.cells = 0) (hs8 : rm8.slots = 0) (hr8 : rm8.frames + 1 ≤ 13 ∧ 8 + (2 + 11) + rm8.locals ≤ 502)
    (hfL : ∀ v w, fL v w → ∃ (k : Int32) (of : Nat → Int64) (wr : va_W), v = some (.int k) ∧ w = (oa, .inl (y 1, 1, .inr (.inl of))) :: wr) (hf8 : ∀ v w, f8 v w → ∃ a9 : Int32, v = some (.int a9))
    (KK : ∀ (k : Int32) (of : Nat → Int64) (wr : va_W) (a9 : Int32) (w9 : va_W), fL (some (.int k)) ((oa, .inl (y 1, 1, .inr (.inl of))) :: wr) → f8 (some (.int a9)) w9 →
      (∀ sz, Met l yX8_thrown wsX8_thrown ({ frames := 0, cells := 0, slots := 0, locals := 0 } : Room) (gP D y [.ref h8] w9 sz) (gR (.int k)) 0 0 (fun _ => False)) ∧ (∃ fs9 : List Value, w9[0]? = some (h8, .inr (6, fs9))) ∧ (k = 0 → of 0 = a9.toInt64) ∧
      ∀ (H : Heap) (locs : List Loc) (ls : Array Slot), va_P D vwCl (w9 ++ (oa, .inl (y 1, 1, .inr (.inl of))) :: wr) H → va_D (lA s) (w9 ++ (oa, .inl (y 1, 1, .inr (.inl of))) :: wr) → va_S (lA s) s.heap H locs → lv_has ls 8 [(0, .ref b), (1, .ref hX1), (2, .ref h8), (3, .ref oa), (4, .int (nI i))] → W p l e room_1 s m #[Value.ref b] below meth c H locs (cells + mc) (slots + ms) Q (F0 m 1823 ls [])) :
    W p l e room_1 s m #[Value.ref b] below meth c H locs cells slots Q (F0 m 492 ls []) := by
  obtain ⟨⟨hx, hb, hml, hown, hts⟩, ⟨hX, hbl, hL⟩, hK, hE, hN, hfl⟩ := id C
  have hA : ∀ q : Nat, s.heap.size ≤ q → lA s q := fun _ h => h
  refine lv_aload_n hx hb dL_law_492 rfl (lv_at hl 1 rfl) ?_
  refine g_argL C hS 1 (by decide) (lv_at hl 0 rfl) (lv_at hl 4 rfl) (by omega) e1 dL_law_493 dL_law_494 dL_law_496 dL_law_497 dL_law_498 ?_
  refine lv_aload_n hx hb dL_law_499 rfl (lv_at hl 3 rfl) ?_
  refine g_callN (ws := w8) (wc := wX1) (vx_runSW (As := [.ref hX1, .int a1, .ref oa]) (rest := []) ⟨hx, hb, hml, hown, hts⟩ (HL H.size) (vx_cwSW 3 hts gL_law_L_inverse rfl hcL hsL (by decide +kernel) hrL) (gPN_SA (va_P_r hP) (va_D_r hD) hK hE hN hS hA) rfl rfl hl.1 rfl (lv_room (Nat.le_of_ble_eq_true rfl)) dL_law_500 hroom) hP hD hS hA (fun v w H locs hf hP hD hS => ?_)
  obtain ⟨k, of, wr, rfl, rfl⟩ := hfL v w hf
  refine lv_istore (lv' := [(5, .int k), (0, .ref b), (1, .ref hX1), (2, .ref h8), (3, .ref oa), (4, .int (nI i))]) hx hb dL_law_503 hl (by decide) rfl (fun ls hl => ?_)
  refine lv_aload_n hx hb dL_law_505 rfl (lv_at hl 3 rfl) ?_
  refine g_argL C hS 1 (by decide) (lv_at hl 1 rfl) (lv_at hl 5 rfl) (by omega) e1 dL_law_506 dL_law_507 dL_law_509 dL_law_510 dL_law_511 ?_
  have hP2 := va_P_sw hP
  have hD2 := va_D_sw hD
  refine g_callAr (ws := (oa, .inl (y 1, 1, .inr (.inl of))) :: wr) (wc := w8) (va_runV (As := [.int a1]) (rest := []) ⟨hx, hb, hml, hown, hts⟩ (H8 H.size) (cwV 1 hts gL_law_X8_inverse rfl hc8 hs8 (by decide +kernel) hr8) (gP_VA (va_P_r hP2) (va_D_r hD2) hK 0 he rfl) rfl rfl hl.1 rfl (lv_room (Nat.le_of_ble_eq_true rfl)) dL_law_512 hroom) hP2 hD2 hS hA (fun v w9 H locs hf9 hP hD hS => ?_)
  obtain ⟨a9, rfl⟩ := hf8 v w9 hf9
  have hP := va_P_sw hP
  have hD := va_D_sw hD
  obtain ⟨hT, ⟨fs9, he9⟩, hcmp, kk⟩ := KK k of wr a9 w9 hf hf9
  refine lv_istore (lv' := [(6, .int a9), (5, .int k), (0, .ref b), (1, .ref hX1), (2, .ref h8), (3, .ref oa), (4, .int (nI i))]) hx hb dL_law_515 hl (by decide) rfl (fun ls hl => ?_)
  refine lv_aload_n hx hb dL_law_517 rfl (lv_at hl 4 rfl) ?_
  refine g_callR (v0 := .int k) (va_runV (As := []) (rest := []) ⟨hx, hb, hml, hown, hts⟩ (hT H.size) (cwV 0 hts gL_law_X8_thrown rfl rfl rfl (by decide +kernel) ⟨Nat.le_of_ble_eq_true rfl, Nat.le_of_ble_eq_true rfl⟩) (gP_VA (va_P_r (va_P_sw hP)) (va_D_r (va_D_sw hD)) hK 0 he9 rfl) rfl rfl hl.1 rfl (lv_room (Nat.le_of_ble_eq_true rfl)) dL_law_518 hroom) ?_
  refine lv_iload hx hb dL_law_521 (lv_at hl 1 rfl) ?_
  refine lv_icmp_eq (tgt := 528) hx hb dL_law_523 (by decide) (fun _ => ?_) (fun h => absurd rfl h)
  refine lv_iload hx hb dL_law_528 (lv_at hl 1 rfl) ?_
  refine lv_if_ne (tgt := 545) hx hb dL_law_530 (by decide) (fun _ => ?_) (fun h0 => ?_)
  · refine lv_goto (tgt := 1823) hx hb dL_law_545 (by decide) ?_
    exact kk H locs ls hP hD hS (lv_sub hl [2, 3, 4, 5, 6] rfl)
  · refine lv_aload_n hx hb dL_law_533 rfl (lv_at hl 5 rfl) ?_
    refine lv_iconst (v := 0) hx hb dL_law_534 (by decide) ?_
    refine g_lald (k := 0) hx hb hK.1 hP w9.length 1 gAt0 rfl (by decide) (by decide) dL_law_535 ?_
    refine lv_iload hx hb dL_law_536 (lv_at hl 0 rfl) ?_
    refine lv_i2l (v := a9.toInt64) hx hb dL_law_538 rfl ?_
    refine g_eq (tgt := 545) hx hb dL_law_539 dL_law_540 (by decide) (fun _ => ?_) (fun h => absurd (hcmp h0) h)
    refine lv_goto (tgt := 1823) hx hb dL_law_545 (by decide) ?_
    exact kk H locs ls hP hD hS (lv_sub hl [2, 3, 4, 5, 6] rfl)
set_option maxRecDepth 4000 in
theorem lz_root (C : lwC p l s m meth c b L xs D y ad) {i : Nat} (hi : i + 7 ≤ L) {hX1 h8 oa : Nat} {a1 : Int32} (e1 : xs (i + 1) = a1) (hl : lv_has ls 8 [(0, .ref b), (1, .ref hX1), (2, .ref h8), (3, .ref oa), (4, .int (nI i))]) {wX1 w8 : va_W} (hP : va_P D vwCl (w8 ++ wX1) H) (hD : va_D (lA s) (w8 ++ wX1)) (hS : va_S (lA s) s.heap H locs) {fs : List Value} (he : w8[0]? = some (h8, .inr (6, fs)))
    {rmL rm8 : Room} {mc ms : Nat} {fL f8 : Option Value → va_W → Prop} (HL : ∀ sz, Met l yL_root wsL_root rmL (gPN D y ad [.ref hX1, .int a1, .ref oa] wX1 sz) (gQn D wX1 fL) mc ms (va_A wX1 sz)) (hcL : rmL.cells = mc) (hsL : rmL.slots = ms) (hrL : rmL.frames + 1 ≤ 13 ∧ 8 + (4 + 11) + rmL.locals ≤ 502) (hroom : cells + mc ≤ 601024 ∧ slots + ms ≤ 7293034)
    (H8 : ∀ sz, Met l yX8_root wsX8_root rm8 (gP D y (.ref h8 :: [.int a1]) w8 sz) (gQ D w8 f8) 0 0 (va_A w8 sz)) (hc8 : rm8.cells = 0) (hs8 : rm8.slots = 0) (hr8 : rm8.frames + 1 ≤ 13 ∧ 8 + (2 + 11) + rm8.locals ≤ 502)
    (hfL : ∀ v w, fL v w → ∃ (k : Int32) (of : Nat → Int64) (wr : va_W), v = some (.int k) ∧ w = (oa, .inl (y 1, 1, .inr (.inl of))) :: wr) (hf8 : ∀ v w, f8 v w → ∃ a9 : Int32, v = some (.int a9))
    (KK : ∀ (k : Int32) (of : Nat → Int64) (wr : va_W) (a9 : Int32) (w9 : va_W), fL (some (.int k)) ((oa, .inl (y 1, 1, .inr (.inl of))) :: wr) → f8 (some (.int a9)) w9 →
      (∀ sz, Met l yX8_thrown wsX8_thrown ({ frames := 0, cells := 0, slots := 0, locals := 0 } : Room) (gP D y [.ref h8] w9 sz) (gR (.int k)) 0 0 (fun _ => False)) ∧ (∃ fs9 : List Value, w9[0]? = some (h8, .inr (6, fs9))) ∧ (k = 0 → of 0 = a9.toInt64) ∧
      ∀ (H : Heap) (locs : List Loc) (ls : Array Slot), va_P D vwCl (w9 ++ (oa, .inl (y 1, 1, .inr (.inl of))) :: wr) H → va_D (lA s) (w9 ++ (oa, .inl (y 1, 1, .inr (.inl of))) :: wr) → va_S (lA s) s.heap H locs → lv_has ls 8 [(0, .ref b), (1, .ref hX1), (2, .ref h8), (3, .ref oa), (4, .int (nI i))] → W p l e room_1 s m #[Value.ref b] below meth c H locs (cells + mc) (slots + ms) Q (F0 m 1823 ls [])) :
    W p l e room_1 s m #[Value.ref b] below meth c H locs cells slots Q (F0 m 548 ls []) := by
  obtain ⟨⟨hx, hb, hml, hown, hts⟩, ⟨hX, hbl, hL⟩, hK, hE, hN, hfl⟩ := id C
  have hA : ∀ q : Nat, s.heap.size ≤ q → lA s q := fun _ h => h
  refine lv_aload_n hx hb dL_law_548 rfl (lv_at hl 1 rfl) ?_
  refine g_argL C hS 1 (by decide) (lv_at hl 0 rfl) (lv_at hl 4 rfl) (by omega) e1 dL_law_549 dL_law_550 dL_law_552 dL_law_553 dL_law_554 ?_
  refine lv_aload_n hx hb dL_law_555 rfl (lv_at hl 3 rfl) ?_
  refine g_callN (ws := w8) (wc := wX1) (vx_runSW (As := [.ref hX1, .int a1, .ref oa]) (rest := []) ⟨hx, hb, hml, hown, hts⟩ (HL H.size) (vx_cwSW 3 hts gL_law_L_root rfl hcL hsL (by decide +kernel) hrL) (gPN_SA (va_P_r hP) (va_D_r hD) hK hE hN hS hA) rfl rfl hl.1 rfl (lv_room (Nat.le_of_ble_eq_true rfl)) dL_law_556 hroom) hP hD hS hA (fun v w H locs hf hP hD hS => ?_)
  obtain ⟨k, of, wr, rfl, rfl⟩ := hfL v w hf
  refine lv_istore (lv' := [(5, .int k), (0, .ref b), (1, .ref hX1), (2, .ref h8), (3, .ref oa), (4, .int (nI i))]) hx hb dL_law_559 hl (by decide) rfl (fun ls hl => ?_)
  refine lv_aload_n hx hb dL_law_561 rfl (lv_at hl 3 rfl) ?_
  refine g_argL C hS 1 (by decide) (lv_at hl 1 rfl) (lv_at hl 5 rfl) (by omega) e1 dL_law_562 dL_law_563 dL_law_565 dL_law_566 dL_law_567 ?_
  have hP2 := va_P_sw hP
  have hD2 := va_D_sw hD
  refine g_callAr (ws := (oa, .inl (y 1, 1, .inr (.inl of))) :: wr) (wc := w8) (va_runV (As := [.int a1]) (rest := []) ⟨hx, hb, hml, hown, hts⟩ (H8 H.size) (cwV 1 hts gL_law_X8_root rfl hc8 hs8 (by decide +kernel) hr8) (gP_VA (va_P_r hP2) (va_D_r hD2) hK 0 he rfl) rfl rfl hl.1 rfl (lv_room (Nat.le_of_ble_eq_true rfl)) dL_law_568 hroom) hP2 hD2 hS hA (fun v w9 H locs hf9 hP hD hS => ?_)
  obtain ⟨a9, rfl⟩ := hf8 v w9 hf9
  have hP := va_P_sw hP
  have hD := va_D_sw hD
  obtain ⟨hT, ⟨fs9, he9⟩, hcmp, kk⟩ := KK k of wr a9 w9 hf hf9
  refine lv_istore (lv' := [(6, .int a9), (5, .int k), (0, .ref b), (1, .ref hX1), (2, .ref h8), (3, .ref oa), (4, .int (nI i))]) hx hb dL_law_571 hl (by decide) rfl (fun ls hl => ?_)
  refine lv_aload_n hx hb dL_law_573 rfl (lv_at hl 4 rfl) ?_
  refine g_callR (v0 := .int k) (va_runV (As := []) (rest := []) ⟨hx, hb, hml, hown, hts⟩ (hT H.size) (cwV 0 hts gL_law_X8_thrown rfl rfl rfl (by decide +kernel) ⟨Nat.le_of_ble_eq_true rfl, Nat.le_of_ble_eq_true rfl⟩) (gP_VA (va_P_r (va_P_sw hP)) (va_D_r (va_D_sw hD)) hK 0 he9 rfl) rfl rfl hl.1 rfl (lv_room (Nat.le_of_ble_eq_true rfl)) dL_law_574 hroom) ?_
  refine lv_iload hx hb dL_law_577 (lv_at hl 1 rfl) ?_
  refine lv_icmp_eq (tgt := 584) hx hb dL_law_579 (by decide) (fun _ => ?_) (fun h => absurd rfl h)
  refine lv_iload hx hb dL_law_584 (lv_at hl 1 rfl) ?_
  refine lv_if_ne (tgt := 601) hx hb dL_law_586 (by decide) (fun _ => ?_) (fun h0 => ?_)
  · refine lv_goto (tgt := 1823) hx hb dL_law_601 (by decide) ?_
    exact kk H locs ls hP hD hS (lv_sub hl [2, 3, 4, 5, 6] rfl)
  · refine lv_aload_n hx hb dL_law_589 rfl (lv_at hl 5 rfl) ?_
    refine lv_iconst (v := 0) hx hb dL_law_590 (by decide) ?_
    refine g_lald (k := 0) hx hb hK.1 hP w9.length 1 gAt0 rfl (by decide) (by decide) dL_law_591 ?_
    refine lv_iload hx hb dL_law_592 (lv_at hl 0 rfl) ?_
    refine lv_i2l (v := a9.toInt64) hx hb dL_law_594 rfl ?_
    refine g_eq (tgt := 601) hx hb dL_law_595 dL_law_596 (by decide) (fun _ => ?_) (fun h => absurd (hcmp h0) h)
    refine lv_goto (tgt := 1823) hx hb dL_law_601 (by decide) ?_
    exact kk H locs ls hP hD hS (lv_sub hl [2, 3, 4, 5, 6] rfl)
set_option maxRecDepth 4000 in
theorem lz_exp (C : lwC p l s m meth c b L xs D y ad) {i : Nat} (hi : i + 7 ≤ L) {hX1 h8 oa : Nat} {a1 : Int32} (e1 : xs (i + 1) = a1) (hl : lv_has ls 8 [(0, .ref b), (1, .ref hX1), (2, .ref h8), (3, .ref oa), (4, .int (nI i))]) {wX1 w8 : va_W} (hP : va_P D vwCl (w8 ++ wX1) H) (hD : va_D (lA s) (w8 ++ wX1)) (hS : va_S (lA s) s.heap H locs) {fs : List Value} (he : w8[0]? = some (h8, .inr (6, fs)))
    {rmL rm8 : Room} {mc ms : Nat} {fL f8 : Option Value → va_W → Prop} (HL : ∀ sz, Met l yL_exp wsL_exp rmL (gPN D y ad [.ref hX1, .int a1, .ref oa] wX1 sz) (gQn D wX1 fL) mc ms (va_A wX1 sz)) (hcL : rmL.cells = mc) (hsL : rmL.slots = ms) (hrL : rmL.frames + 1 ≤ 13 ∧ 8 + (4 + 11) + rmL.locals ≤ 502) (hroom : cells + mc ≤ 601024 ∧ slots + ms ≤ 7293034)
    (H8 : ∀ sz, Met l yX8_exp wsX8_exp rm8 (gP D y (.ref h8 :: [.int a1]) w8 sz) (gQ D w8 f8) 0 0 (va_A w8 sz)) (hc8 : rm8.cells = 0) (hs8 : rm8.slots = 0) (hr8 : rm8.frames + 1 ≤ 13 ∧ 8 + (2 + 11) + rm8.locals ≤ 502)
    (hfL : ∀ v w, fL v w → ∃ (k : Int32) (of : Nat → Int64) (wr : va_W), v = some (.int k) ∧ w = (oa, .inl (y 1, 1, .inr (.inl of))) :: wr) (hf8 : ∀ v w, f8 v w → ∃ a9 : Int32, v = some (.int a9))
    (KK : ∀ (k : Int32) (of : Nat → Int64) (wr : va_W) (a9 : Int32) (w9 : va_W), fL (some (.int k)) ((oa, .inl (y 1, 1, .inr (.inl of))) :: wr) → f8 (some (.int a9)) w9 →
      (∀ sz, Met l yX8_thrown wsX8_thrown ({ frames := 0, cells := 0, slots := 0, locals := 0 } : Room) (gP D y [.ref h8] w9 sz) (gR (.int k)) 0 0 (fun _ => False)) ∧ (∃ fs9 : List Value, w9[0]? = some (h8, .inr (6, fs9))) ∧ (k = 0 → of 0 = a9.toInt64) ∧
      ∀ (H : Heap) (locs : List Loc) (ls : Array Slot), va_P D vwCl (w9 ++ (oa, .inl (y 1, 1, .inr (.inl of))) :: wr) H → va_D (lA s) (w9 ++ (oa, .inl (y 1, 1, .inr (.inl of))) :: wr) → va_S (lA s) s.heap H locs → lv_has ls 8 [(0, .ref b), (1, .ref hX1), (2, .ref h8), (3, .ref oa), (4, .int (nI i))] → W p l e room_1 s m #[Value.ref b] below meth c H locs (cells + mc) (slots + ms) Q (F0 m 1823 ls [])) :
    W p l e room_1 s m #[Value.ref b] below meth c H locs cells slots Q (F0 m 604 ls []) := by
  obtain ⟨⟨hx, hb, hml, hown, hts⟩, ⟨hX, hbl, hL⟩, hK, hE, hN, hfl⟩ := id C
  have hA : ∀ q : Nat, s.heap.size ≤ q → lA s q := fun _ h => h
  refine lv_aload_n hx hb dL_law_604 rfl (lv_at hl 1 rfl) ?_
  refine g_argL C hS 1 (by decide) (lv_at hl 0 rfl) (lv_at hl 4 rfl) (by omega) e1 dL_law_605 dL_law_606 dL_law_608 dL_law_609 dL_law_610 ?_
  refine lv_aload_n hx hb dL_law_611 rfl (lv_at hl 3 rfl) ?_
  refine g_callN (ws := w8) (wc := wX1) (vx_runSW (As := [.ref hX1, .int a1, .ref oa]) (rest := []) ⟨hx, hb, hml, hown, hts⟩ (HL H.size) (vx_cwSW 3 hts gL_law_L_exp rfl hcL hsL (by decide +kernel) hrL) (gPN_SA (va_P_r hP) (va_D_r hD) hK hE hN hS hA) rfl rfl hl.1 rfl (lv_room (Nat.le_of_ble_eq_true rfl)) dL_law_612 hroom) hP hD hS hA (fun v w H locs hf hP hD hS => ?_)
  obtain ⟨k, of, wr, rfl, rfl⟩ := hfL v w hf
  refine lv_istore (lv' := [(5, .int k), (0, .ref b), (1, .ref hX1), (2, .ref h8), (3, .ref oa), (4, .int (nI i))]) hx hb dL_law_615 hl (by decide) rfl (fun ls hl => ?_)
  refine lv_aload_n hx hb dL_law_617 rfl (lv_at hl 3 rfl) ?_
  refine g_argL C hS 1 (by decide) (lv_at hl 1 rfl) (lv_at hl 5 rfl) (by omega) e1 dL_law_618 dL_law_619 dL_law_621 dL_law_622 dL_law_623 ?_
  have hP2 := va_P_sw hP
  have hD2 := va_D_sw hD
  refine g_callAr (ws := (oa, .inl (y 1, 1, .inr (.inl of))) :: wr) (wc := w8) (va_runV (As := [.int a1]) (rest := []) ⟨hx, hb, hml, hown, hts⟩ (H8 H.size) (cwV 1 hts gL_law_X8_exp rfl hc8 hs8 (by decide +kernel) hr8) (gP_VA (va_P_r hP2) (va_D_r hD2) hK 0 he rfl) rfl rfl hl.1 rfl (lv_room (Nat.le_of_ble_eq_true rfl)) dL_law_624 hroom) hP2 hD2 hS hA (fun v w9 H locs hf9 hP hD hS => ?_)
  obtain ⟨a9, rfl⟩ := hf8 v w9 hf9
  have hP := va_P_sw hP
  have hD := va_D_sw hD
  obtain ⟨hT, ⟨fs9, he9⟩, hcmp, kk⟩ := KK k of wr a9 w9 hf hf9
  refine lv_istore (lv' := [(6, .int a9), (5, .int k), (0, .ref b), (1, .ref hX1), (2, .ref h8), (3, .ref oa), (4, .int (nI i))]) hx hb dL_law_627 hl (by decide) rfl (fun ls hl => ?_)
  refine lv_aload_n hx hb dL_law_629 rfl (lv_at hl 4 rfl) ?_
  refine g_callR (v0 := .int k) (va_runV (As := []) (rest := []) ⟨hx, hb, hml, hown, hts⟩ (hT H.size) (cwV 0 hts gL_law_X8_thrown rfl rfl rfl (by decide +kernel) ⟨Nat.le_of_ble_eq_true rfl, Nat.le_of_ble_eq_true rfl⟩) (gP_VA (va_P_r (va_P_sw hP)) (va_D_r (va_D_sw hD)) hK 0 he9 rfl) rfl rfl hl.1 rfl (lv_room (Nat.le_of_ble_eq_true rfl)) dL_law_630 hroom) ?_
  refine lv_iload hx hb dL_law_633 (lv_at hl 1 rfl) ?_
  refine lv_icmp_eq (tgt := 640) hx hb dL_law_635 (by decide) (fun _ => ?_) (fun h => absurd rfl h)
  refine lv_iload hx hb dL_law_640 (lv_at hl 1 rfl) ?_
  refine lv_if_ne (tgt := 657) hx hb dL_law_642 (by decide) (fun _ => ?_) (fun h0 => ?_)
  · refine lv_goto (tgt := 1823) hx hb dL_law_657 (by decide) ?_
    exact kk H locs ls hP hD hS (lv_sub hl [2, 3, 4, 5, 6] rfl)
  · refine lv_aload_n hx hb dL_law_645 rfl (lv_at hl 5 rfl) ?_
    refine lv_iconst (v := 0) hx hb dL_law_646 (by decide) ?_
    refine g_lald (k := 0) hx hb hK.1 hP w9.length 1 gAt0 rfl (by decide) (by decide) dL_law_647 ?_
    refine lv_iload hx hb dL_law_648 (lv_at hl 0 rfl) ?_
    refine lv_i2l (v := a9.toInt64) hx hb dL_law_650 rfl ?_
    refine g_eq (tgt := 657) hx hb dL_law_651 dL_law_652 (by decide) (fun _ => ?_) (fun h => absurd (hcmp h0) h)
    refine lv_goto (tgt := 1823) hx hb dL_law_657 (by decide) ?_
    exact kk H locs ls hP hD hS (lv_sub hl [2, 3, 4, 5, 6] rfl)
set_option maxRecDepth 4000 in
theorem lz_zero (C : lwC p l s m meth c b L xs D y ad) {i : Nat} (hi : i + 7 ≤ L) {hX1 h8 oa : Nat} {a1 : Int32} {a2 : Int32} {a3 : Int32} {a4 : Int32} {a5 : Int32} {a6 : Int32} (e1 : xs (i + 1) = a1) (e2 : xs (i + 2) = a2) (e3 : xs (i + 3) = a3) (e4 : xs (i + 4) = a4) (e5 : xs (i + 5) = a5) (e6 : xs (i + 6) = a6) (hl : lv_has ls 8 [(0, .ref b), (1, .ref hX1), (2, .ref h8), (3, .ref oa), (4, .int (nI i))]) {wX1 w8 : va_W} (hP : va_P D vwCl (w8 ++ wX1) H) (hD : va_D (lA s) (w8 ++ wX1)) (hS : va_S (lA s) s.heap H locs) {fs : List Value} (he : w8[0]? = some (h8, .inr (6, fs)))
    {rmL rm8 : Room} {mc ms : Nat} {fL f8 : Option Value → va_W → Prop} (HL : ∀ sz, Met l yL_zero wsL_zero rmL (gPN D y ad [.ref hX1, .int a1, .int a2, .int a3, .int a4, .int a5, .int a6, .ref oa] wX1 sz) (gQn D wX1 fL) mc ms (va_A wX1 sz)) (hcL : rmL.cells = mc) (hsL : rmL.slots = ms) (hrL : rmL.frames + 1 ≤ 13 ∧ 8 + (9 + 11) + rmL.locals ≤ 502) (hroom : cells + mc ≤ 601024 ∧ slots + ms ≤ 7293034)
    (H8 : ∀ sz, Met l yX8_zero wsX8_zero rm8 (gP D y (.ref h8 :: [.int a1, .int a2, .int a3, .int a4, .int a5, .int a6]) w8 sz) (gQ D w8 f8) 0 0 (va_A w8 sz)) (hc8 : rm8.cells = 0) (hs8 : rm8.slots = 0) (hr8 : rm8.frames + 1 ≤ 13 ∧ 8 + (12 + 11) + rm8.locals ≤ 502)
    (hfL : ∀ v w, fL v w → ∃ (k : Int32) (of : Nat → Int64) (wr : va_W), v = some (.int k) ∧ w = (oa, .inl (y 1, 1, .inr (.inl of))) :: wr) (hf8 : ∀ v w, f8 v w → ∃ a9 : Int32, v = some (.int a9))
    (KK : ∀ (k : Int32) (of : Nat → Int64) (wr : va_W) (a9 : Int32) (w9 : va_W), fL (some (.int k)) ((oa, .inl (y 1, 1, .inr (.inl of))) :: wr) → f8 (some (.int a9)) w9 →
      (∀ sz, Met l yX8_thrown wsX8_thrown ({ frames := 0, cells := 0, slots := 0, locals := 0 } : Room) (gP D y [.ref h8] w9 sz) (gR (.int k)) 0 0 (fun _ => False)) ∧ (∃ fs9 : List Value, w9[0]? = some (h8, .inr (6, fs9))) ∧ (k = 0 → of 0 = a9.toInt64) ∧
      ∀ (H : Heap) (locs : List Loc) (ls : Array Slot), va_P D vwCl (w9 ++ (oa, .inl (y 1, 1, .inr (.inl of))) :: wr) H → va_D (lA s) (w9 ++ (oa, .inl (y 1, 1, .inr (.inl of))) :: wr) → va_S (lA s) s.heap H locs → lv_has ls 8 [(0, .ref b), (1, .ref hX1), (2, .ref h8), (3, .ref oa), (4, .int (nI i))] → W p l e room_1 s m #[Value.ref b] below meth c H locs (cells + mc) (slots + ms) Q (F0 m 1823 ls [])) :
    W p l e room_1 s m #[Value.ref b] below meth c H locs cells slots Q (F0 m 660 ls []) := by
  obtain ⟨⟨hx, hb, hml, hown, hts⟩, ⟨hX, hbl, hL⟩, hK, hE, hN, hfl⟩ := id C
  have hA : ∀ q : Nat, s.heap.size ≤ q → lA s q := fun _ h => h
  refine lv_aload_n hx hb dL_law_660 rfl (lv_at hl 1 rfl) ?_
  refine g_argL C hS 1 (by decide) (lv_at hl 0 rfl) (lv_at hl 4 rfl) (by omega) e1 dL_law_661 dL_law_662 dL_law_664 dL_law_665 dL_law_666 ?_
  refine g_argL C hS 2 (by decide) (lv_at hl 0 rfl) (lv_at hl 4 rfl) (by omega) e2 dL_law_667 dL_law_668 dL_law_670 dL_law_671 dL_law_672 ?_
  refine g_argL C hS 3 (by decide) (lv_at hl 0 rfl) (lv_at hl 4 rfl) (by omega) e3 dL_law_673 dL_law_674 dL_law_676 dL_law_677 dL_law_678 ?_
  refine g_argL C hS 4 (by decide) (lv_at hl 0 rfl) (lv_at hl 4 rfl) (by omega) e4 dL_law_679 dL_law_680 dL_law_682 dL_law_683 dL_law_684 ?_
  refine g_argL C hS 5 (by decide) (lv_at hl 0 rfl) (lv_at hl 4 rfl) (by omega) e5 dL_law_685 dL_law_686 dL_law_688 dL_law_689 dL_law_690 ?_
  refine g_argB C hS 6 (by decide) (lv_at hl 0 rfl) (lv_at hl 4 rfl) (by omega) e6 dL_law_691 dL_law_692 dL_law_694 dL_law_696 dL_law_697 ?_
  refine lv_aload_n hx hb dL_law_698 rfl (lv_at hl 3 rfl) ?_
  refine g_callN (ws := w8) (wc := wX1) (vx_runSW (As := [.ref hX1, .int a1, .int a2, .int a3, .int a4, .int a5, .int a6, .ref oa]) (rest := []) ⟨hx, hb, hml, hown, hts⟩ (HL H.size) (vx_cwSW 8 hts gL_law_L_zero rfl hcL hsL (by decide +kernel) hrL) (gPN_SA (va_P_r hP) (va_D_r hD) hK hE hN hS hA) rfl rfl hl.1 rfl (lv_room (Nat.le_of_ble_eq_true rfl)) dL_law_699 hroom) hP hD hS hA (fun v w H locs hf hP hD hS => ?_)
  obtain ⟨k, of, wr, rfl, rfl⟩ := hfL v w hf
  refine lv_istore (lv' := [(5, .int k), (0, .ref b), (1, .ref hX1), (2, .ref h8), (3, .ref oa), (4, .int (nI i))]) hx hb dL_law_702 hl (by decide) rfl (fun ls hl => ?_)
  refine lv_aload_n hx hb dL_law_704 rfl (lv_at hl 3 rfl) ?_
  refine g_argL C hS 1 (by decide) (lv_at hl 1 rfl) (lv_at hl 5 rfl) (by omega) e1 dL_law_705 dL_law_706 dL_law_708 dL_law_709 dL_law_710 ?_
  refine g_argL C hS 2 (by decide) (lv_at hl 1 rfl) (lv_at hl 5 rfl) (by omega) e2 dL_law_711 dL_law_712 dL_law_714 dL_law_715 dL_law_716 ?_
  refine g_argL C hS 3 (by decide) (lv_at hl 1 rfl) (lv_at hl 5 rfl) (by omega) e3 dL_law_717 dL_law_718 dL_law_720 dL_law_721 dL_law_722 ?_
  refine g_argL C hS 4 (by decide) (lv_at hl 1 rfl) (lv_at hl 5 rfl) (by omega) e4 dL_law_723 dL_law_724 dL_law_726 dL_law_727 dL_law_728 ?_
  refine g_argL C hS 5 (by decide) (lv_at hl 1 rfl) (lv_at hl 5 rfl) (by omega) e5 dL_law_729 dL_law_730 dL_law_732 dL_law_733 dL_law_734 ?_
  refine g_argB C hS 6 (by decide) (lv_at hl 1 rfl) (lv_at hl 5 rfl) (by omega) e6 dL_law_735 dL_law_736 dL_law_738 dL_law_740 dL_law_741 ?_
  have hP2 := va_P_sw hP
  have hD2 := va_D_sw hD
  refine g_callAr (ws := (oa, .inl (y 1, 1, .inr (.inl of))) :: wr) (wc := w8) (va_runV (As := [.int a1, .int a2, .int a3, .int a4, .int a5, .int a6]) (rest := []) ⟨hx, hb, hml, hown, hts⟩ (H8 H.size) (cwV 6 hts gL_law_X8_zero rfl hc8 hs8 (by decide +kernel) hr8) (gP_VA (va_P_r hP2) (va_D_r hD2) hK 0 he rfl) rfl rfl hl.1 rfl (lv_room (Nat.le_of_ble_eq_true rfl)) dL_law_742 hroom) hP2 hD2 hS hA (fun v w9 H locs hf9 hP hD hS => ?_)
  obtain ⟨a9, rfl⟩ := hf8 v w9 hf9
  have hP := va_P_sw hP
  have hD := va_D_sw hD
  obtain ⟨hT, ⟨fs9, he9⟩, hcmp, kk⟩ := KK k of wr a9 w9 hf hf9
  refine lv_istore (lv' := [(6, .int a9), (5, .int k), (0, .ref b), (1, .ref hX1), (2, .ref h8), (3, .ref oa), (4, .int (nI i))]) hx hb dL_law_745 hl (by decide) rfl (fun ls hl => ?_)
  refine lv_aload_n hx hb dL_law_747 rfl (lv_at hl 4 rfl) ?_
  refine g_callR (v0 := .int k) (va_runV (As := []) (rest := []) ⟨hx, hb, hml, hown, hts⟩ (hT H.size) (cwV 0 hts gL_law_X8_thrown rfl rfl rfl (by decide +kernel) ⟨Nat.le_of_ble_eq_true rfl, Nat.le_of_ble_eq_true rfl⟩) (gP_VA (va_P_r (va_P_sw hP)) (va_D_r (va_D_sw hD)) hK 0 he9 rfl) rfl rfl hl.1 rfl (lv_room (Nat.le_of_ble_eq_true rfl)) dL_law_748 hroom) ?_
  refine lv_iload hx hb dL_law_751 (lv_at hl 1 rfl) ?_
  refine lv_icmp_eq (tgt := 758) hx hb dL_law_753 (by decide) (fun _ => ?_) (fun h => absurd rfl h)
  refine lv_iload hx hb dL_law_758 (lv_at hl 1 rfl) ?_
  refine lv_if_ne (tgt := 775) hx hb dL_law_760 (by decide) (fun _ => ?_) (fun h0 => ?_)
  · refine lv_goto (tgt := 1823) hx hb dL_law_775 (by decide) ?_
    exact kk H locs ls hP hD hS (lv_sub hl [2, 3, 4, 5, 6] rfl)
  · refine lv_aload_n hx hb dL_law_763 rfl (lv_at hl 5 rfl) ?_
    refine lv_iconst (v := 0) hx hb dL_law_764 (by decide) ?_
    refine g_lald (k := 0) hx hb hK.1 hP w9.length 1 gAt0 rfl (by decide) (by decide) dL_law_765 ?_
    refine lv_iload hx hb dL_law_766 (lv_at hl 0 rfl) ?_
    refine lv_i2l (v := a9.toInt64) hx hb dL_law_768 rfl ?_
    refine g_eq (tgt := 775) hx hb dL_law_769 dL_law_770 (by decide) (fun _ => ?_) (fun h => absurd (hcmp h0) h)
    refine lv_goto (tgt := 1823) hx hb dL_law_775 (by decide) ?_
    exact kk H locs ls hP hD hS (lv_sub hl [2, 3, 4, 5, 6] rfl)
set_option maxRecDepth 4000 in
theorem lz_raw (C : lwC p l s m meth c b L xs D y ad) {i : Nat} (hi : i + 7 ≤ L) {hX1 h8 oa : Nat} {a1 : Int32} {a2 : Int32} {a3 : Int32} {bb : Bool} (e1 : xs (i + 1) = a1) (e2 : xs (i + 2) = a2) (e3 : xs (i + 3) = a3) (ef : bb = (if a3 = 0 then false else true)) (hl : lv_has ls 8 [(0, .ref b), (1, .ref hX1), (2, .ref h8), (3, .ref oa), (4, .int (nI i))]) {wX1 w8 : va_W} (hP : va_P D vwCl (w8 ++ wX1) H) (hD : va_D (lA s) (w8 ++ wX1)) (hS : va_S (lA s) s.heap H locs) {fs : List Value} (he : w8[0]? = some (h8, .inr (6, fs)))
    {rmL rm8 : Room} {mc ms : Nat} {fL f8 : Option Value → va_W → Prop} (HL : ∀ sz, Met l yL_raw wsL_raw rmL (gPN D y ad [.ref hX1, .int a1, .int a2, .int (gB bb), .ref oa] wX1 sz) (gQn D wX1 fL) mc ms (va_A wX1 sz)) (hcL : rmL.cells = mc) (hsL : rmL.slots = ms) (hrL : rmL.frames + 1 ≤ 13 ∧ 8 + (6 + 11) + rmL.locals ≤ 502) (hroom : cells + mc ≤ 601024 ∧ slots + ms ≤ 7293034)
    (H8 : ∀ sz, Met l yX8_raw wsX8_raw rm8 (gP D y (.ref h8 :: [.int a1, .int a2, .int (gB bb)]) w8 sz) (gQ D w8 f8) 0 0 (va_A w8 sz)) (hc8 : rm8.cells = 0) (hs8 : rm8.slots = 0) (hr8 : rm8.frames + 1 ≤ 13 ∧ 8 + (4 + 11) + rm8.locals ≤ 502)
    (hfL : ∀ v w, fL v w → ∃ (k : Int32) (of : Nat → Int64) (wr : va_W), v = some (.int k) ∧ w = (oa, .inl (y 1, 1, .inr (.inl of))) :: wr) (hf8 : ∀ v w, f8 v w → ∃ a9 : Int64, v = some (.long a9))
    (KK : ∀ (k : Int32) (of : Nat → Int64) (wr : va_W) (a9 : Int64) (w9 : va_W), fL (some (.int k)) ((oa, .inl (y 1, 1, .inr (.inl of))) :: wr) → f8 (some (.long a9)) w9 →
      (∀ sz, Met l yX8_thrown wsX8_thrown ({ frames := 0, cells := 0, slots := 0, locals := 0 } : Room) (gP D y [.ref h8] w9 sz) (gR (.int k)) 0 0 (fun _ => False)) ∧ (∃ fs9 : List Value, w9[0]? = some (h8, .inr (6, fs9))) ∧ (k = 0 → of 0 = a9) ∧
      ∀ (H : Heap) (locs : List Loc) (ls : Array Slot), va_P D vwCl (w9 ++ (oa, .inl (y 1, 1, .inr (.inl of))) :: wr) H → va_D (lA s) (w9 ++ (oa, .inl (y 1, 1, .inr (.inl of))) :: wr) → va_S (lA s) s.heap H locs → lv_has ls 8 [(0, .ref b), (1, .ref hX1), (2, .ref h8), (3, .ref oa), (4, .int (nI i))] → W p l e room_1 s m #[Value.ref b] below meth c H locs (cells + mc) (slots + ms) Q (F0 m 1823 ls [])) :
    W p l e room_1 s m #[Value.ref b] below meth c H locs cells slots Q (F0 m 778 ls []) := by
  obtain ⟨⟨hx, hb, hml, hown, hts⟩, ⟨hX, hbl, hL⟩, hK, hE, hN, hfl⟩ := id C
  have hA : ∀ q : Nat, s.heap.size ≤ q → lA s q := fun _ h => h
  refine lv_aload_n hx hb dL_law_778 rfl (lv_at hl 1 rfl) ?_
  refine g_argL C hS 1 (by decide) (lv_at hl 0 rfl) (lv_at hl 4 rfl) (by omega) e1 dL_law_779 dL_law_780 dL_law_782 dL_law_783 dL_law_784 ?_
  refine g_argL C hS 2 (by decide) (lv_at hl 0 rfl) (lv_at hl 4 rfl) (by omega) e2 dL_law_785 dL_law_786 dL_law_788 dL_law_789 dL_law_790 ?_
  refine g_argL C hS 3 (by decide) (lv_at hl 0 rfl) (lv_at hl 4 rfl) (by omega) e3 dL_law_791 dL_law_792 dL_law_794 dL_law_795 dL_law_796 ?_
  refine g_flag (t1 := 804) (t2 := 805) C ef dL_law_797 (by decide) dL_law_800 dL_law_801 (by decide) dL_law_804 rfl ?_
  refine lv_aload_n hx hb dL_law_805 rfl (lv_at hl 3 rfl) ?_
  refine g_callN (ws := w8) (wc := wX1) (vx_runSW (As := [.ref hX1, .int a1, .int a2, .int (gB bb), .ref oa]) (rest := []) ⟨hx, hb, hml, hown, hts⟩ (HL H.size) (vx_cwSW 5 hts gL_law_L_raw rfl hcL hsL (by decide +kernel) hrL) (gPN_SA (va_P_r hP) (va_D_r hD) hK hE hN hS hA) rfl rfl hl.1 rfl (lv_room (Nat.le_of_ble_eq_true rfl)) dL_law_806 hroom) hP hD hS hA (fun v w H locs hf hP hD hS => ?_)
  obtain ⟨k, of, wr, rfl, rfl⟩ := hfL v w hf
  refine lv_istore (lv' := [(5, .int k), (0, .ref b), (1, .ref hX1), (2, .ref h8), (3, .ref oa), (4, .int (nI i))]) hx hb dL_law_809 hl (by decide) rfl (fun ls hl => ?_)
  refine lv_aload_n hx hb dL_law_811 rfl (lv_at hl 3 rfl) ?_
  refine g_argL C hS 1 (by decide) (lv_at hl 1 rfl) (lv_at hl 5 rfl) (by omega) e1 dL_law_812 dL_law_813 dL_law_815 dL_law_816 dL_law_817 ?_
  refine g_argL C hS 2 (by decide) (lv_at hl 1 rfl) (lv_at hl 5 rfl) (by omega) e2 dL_law_818 dL_law_819 dL_law_821 dL_law_822 dL_law_823 ?_
  refine g_argL C hS 3 (by decide) (lv_at hl 1 rfl) (lv_at hl 5 rfl) (by omega) e3 dL_law_824 dL_law_825 dL_law_827 dL_law_828 dL_law_829 ?_
  refine g_flag (t1 := 837) (t2 := 838) C ef dL_law_830 (by decide) dL_law_833 dL_law_834 (by decide) dL_law_837 rfl ?_
  have hP2 := va_P_sw hP
  have hD2 := va_D_sw hD
  refine g_callAr (ws := (oa, .inl (y 1, 1, .inr (.inl of))) :: wr) (wc := w8) (va_runV (As := [.int a1, .int a2, .int (gB bb)]) (rest := []) ⟨hx, hb, hml, hown, hts⟩ (H8 H.size) (cwV 3 hts gL_law_X8_raw rfl hc8 hs8 (by decide +kernel) hr8) (gP_VA (va_P_r hP2) (va_D_r hD2) hK 0 he rfl) rfl rfl hl.1 rfl (lv_room (Nat.le_of_ble_eq_true rfl)) dL_law_838 hroom) hP2 hD2 hS hA (fun v w9 H locs hf9 hP hD hS => ?_)
  obtain ⟨a9, rfl⟩ := hf8 v w9 hf9
  have hP := va_P_sw hP
  have hD := va_D_sw hD
  obtain ⟨hT, ⟨fs9, he9⟩, hcmp, kk⟩ := KK k of wr a9 w9 hf hf9
  refine lv_lstore (lv' := [(6, .long a9), (5, .int k), (0, .ref b), (1, .ref hX1), (2, .ref h8), (3, .ref oa), (4, .int (nI i))]) hx hb dL_law_841 hl (by decide) rfl (fun ls hl => ?_)
  refine lv_aload_n hx hb dL_law_843 rfl (lv_at hl 4 rfl) ?_
  refine g_callR (v0 := .int k) (va_runV (As := []) (rest := []) ⟨hx, hb, hml, hown, hts⟩ (hT H.size) (cwV 0 hts gL_law_X8_thrown rfl rfl rfl (by decide +kernel) ⟨Nat.le_of_ble_eq_true rfl, Nat.le_of_ble_eq_true rfl⟩) (gP_VA (va_P_r (va_P_sw hP)) (va_D_r (va_D_sw hD)) hK 0 he9 rfl) rfl rfl hl.1 rfl (lv_room (Nat.le_of_ble_eq_true rfl)) dL_law_844 hroom) ?_
  refine lv_iload hx hb dL_law_847 (lv_at hl 1 rfl) ?_
  refine lv_icmp_eq (tgt := 854) hx hb dL_law_849 (by decide) (fun _ => ?_) (fun h => absurd rfl h)
  refine lv_iload hx hb dL_law_854 (lv_at hl 1 rfl) ?_
  refine lv_if_ne (tgt := 870) hx hb dL_law_856 (by decide) (fun _ => ?_) (fun h0 => ?_)
  · refine lv_goto (tgt := 1823) hx hb dL_law_870 (by decide) ?_
    exact kk H locs ls hP hD hS (lv_sub hl [2, 3, 4, 5, 6] rfl)
  · refine lv_aload_n hx hb dL_law_859 rfl (lv_at hl 5 rfl) ?_
    refine lv_iconst (v := 0) hx hb dL_law_860 (by decide) ?_
    refine g_lald (k := 0) hx hb hK.1 hP w9.length 1 gAt0 rfl (by decide) (by decide) dL_law_861 ?_
    refine lv_lload hx hb dL_law_862 (lv_at hl 0 rfl) ?_
    refine g_eq (tgt := 870) hx hb dL_law_864 dL_law_865 (by decide) (fun _ => ?_) (fun h => absurd (hcmp h0) h)
    refine lv_goto (tgt := 1823) hx hb dL_law_870 (by decide) ?_
    exact kk H locs ls hP hD hS (lv_sub hl [2, 3, 4, 5, 6] rfl)
set_option maxRecDepth 4000 in
theorem lz_told (C : lwC p l s m meth c b L xs D y ad) {i : Nat} (hi : i + 7 ≤ L) {hX1 h8 oa : Nat} {a1 : Int32} {a2 : Int32} {a3 : Int32} {bb : Bool} (e1 : xs (i + 1) = a1) (e2 : xs (i + 2) = a2) (e3 : xs (i + 3) = a3) (ef : bb = (if a3 = 0 then false else true)) (hl : lv_has ls 8 [(0, .ref b), (1, .ref hX1), (2, .ref h8), (3, .ref oa), (4, .int (nI i))]) {wX1 w8 : va_W} (hP : va_P D vwCl (w8 ++ wX1) H) (hD : va_D (lA s) (w8 ++ wX1)) (hS : va_S (lA s) s.heap H locs) {fs : List Value} (he : w8[0]? = some (h8, .inr (6, fs)))
    {rmL rm8 : Room} {mc ms : Nat} {fL f8 : Option Value → va_W → Prop} (HL : ∀ sz, Met l yL_told wsL_told rmL (gPN D y ad [.ref hX1, .int a1, .int a2, .int (gB bb), .ref oa] wX1 sz) (gQn D wX1 fL) mc ms (va_A wX1 sz)) (hcL : rmL.cells = mc) (hsL : rmL.slots = ms) (hrL : rmL.frames + 1 ≤ 13 ∧ 8 + (6 + 11) + rmL.locals ≤ 502) (hroom : cells + mc ≤ 601024 ∧ slots + ms ≤ 7293034)
    (H8 : ∀ sz, Met l yX8_told wsX8_told rm8 (gP D y (.ref h8 :: [.int a1, .int a2, .int (gB bb)]) w8 sz) (gQ D w8 f8) 0 0 (va_A w8 sz)) (hc8 : rm8.cells = 0) (hs8 : rm8.slots = 0) (hr8 : rm8.frames + 1 ≤ 13 ∧ 8 + (4 + 11) + rm8.locals ≤ 502)
    (hfL : ∀ v w, fL v w → ∃ (k : Int32) (of : Nat → Int64) (wr : va_W), v = some (.int k) ∧ w = (oa, .inl (y 1, 1, .inr (.inl of))) :: wr) (hf8 : ∀ v w, f8 v w → ∃ a9 : Int64, v = some (.long a9))
    (KK : ∀ (k : Int32) (of : Nat → Int64) (wr : va_W) (a9 : Int64) (w9 : va_W), fL (some (.int k)) ((oa, .inl (y 1, 1, .inr (.inl of))) :: wr) → f8 (some (.long a9)) w9 →
      (∀ sz, Met l yX8_thrown wsX8_thrown ({ frames := 0, cells := 0, slots := 0, locals := 0 } : Room) (gP D y [.ref h8] w9 sz) (gR (.int k)) 0 0 (fun _ => False)) ∧ (∃ fs9 : List Value, w9[0]? = some (h8, .inr (6, fs9))) ∧ (k = 0 → of 0 = a9) ∧
      ∀ (H : Heap) (locs : List Loc) (ls : Array Slot), va_P D vwCl (w9 ++ (oa, .inl (y 1, 1, .inr (.inl of))) :: wr) H → va_D (lA s) (w9 ++ (oa, .inl (y 1, 1, .inr (.inl of))) :: wr) → va_S (lA s) s.heap H locs → lv_has ls 8 [(0, .ref b), (1, .ref hX1), (2, .ref h8), (3, .ref oa), (4, .int (nI i))] → W p l e room_1 s m #[Value.ref b] below meth c H locs (cells + mc) (slots + ms) Q (F0 m 1823 ls [])) :
    W p l e room_1 s m #[Value.ref b] below meth c H locs cells slots Q (F0 m 873 ls []) := by
  obtain ⟨⟨hx, hb, hml, hown, hts⟩, ⟨hX, hbl, hL⟩, hK, hE, hN, hfl⟩ := id C
  have hA : ∀ q : Nat, s.heap.size ≤ q → lA s q := fun _ h => h
  refine lv_aload_n hx hb dL_law_873 rfl (lv_at hl 1 rfl) ?_
  refine g_argL C hS 1 (by decide) (lv_at hl 0 rfl) (lv_at hl 4 rfl) (by omega) e1 dL_law_874 dL_law_875 dL_law_877 dL_law_878 dL_law_879 ?_
  refine g_argL C hS 2 (by decide) (lv_at hl 0 rfl) (lv_at hl 4 rfl) (by omega) e2 dL_law_880 dL_law_881 dL_law_883 dL_law_884 dL_law_885 ?_
  refine g_argL C hS 3 (by decide) (lv_at hl 0 rfl) (lv_at hl 4 rfl) (by omega) e3 dL_law_886 dL_law_887 dL_law_889 dL_law_890 dL_law_891 ?_
  refine g_flag (t1 := 899) (t2 := 900) C ef dL_law_892 (by decide) dL_law_895 dL_law_896 (by decide) dL_law_899 rfl ?_
  refine lv_aload_n hx hb dL_law_900 rfl (lv_at hl 3 rfl) ?_
  refine g_callN (ws := w8) (wc := wX1) (vx_runSW (As := [.ref hX1, .int a1, .int a2, .int (gB bb), .ref oa]) (rest := []) ⟨hx, hb, hml, hown, hts⟩ (HL H.size) (vx_cwSW 5 hts gL_law_L_told rfl hcL hsL (by decide +kernel) hrL) (gPN_SA (va_P_r hP) (va_D_r hD) hK hE hN hS hA) rfl rfl hl.1 rfl (lv_room (Nat.le_of_ble_eq_true rfl)) dL_law_901 hroom) hP hD hS hA (fun v w H locs hf hP hD hS => ?_)
  obtain ⟨k, of, wr, rfl, rfl⟩ := hfL v w hf
  refine lv_istore (lv' := [(5, .int k), (0, .ref b), (1, .ref hX1), (2, .ref h8), (3, .ref oa), (4, .int (nI i))]) hx hb dL_law_904 hl (by decide) rfl (fun ls hl => ?_)
  refine lv_aload_n hx hb dL_law_906 rfl (lv_at hl 3 rfl) ?_
  refine g_argL C hS 1 (by decide) (lv_at hl 1 rfl) (lv_at hl 5 rfl) (by omega) e1 dL_law_907 dL_law_908 dL_law_910 dL_law_911 dL_law_912 ?_
  refine g_argL C hS 2 (by decide) (lv_at hl 1 rfl) (lv_at hl 5 rfl) (by omega) e2 dL_law_913 dL_law_914 dL_law_916 dL_law_917 dL_law_918 ?_
  refine g_argL C hS 3 (by decide) (lv_at hl 1 rfl) (lv_at hl 5 rfl) (by omega) e3 dL_law_919 dL_law_920 dL_law_922 dL_law_923 dL_law_924 ?_
  refine g_flag (t1 := 932) (t2 := 933) C ef dL_law_925 (by decide) dL_law_928 dL_law_929 (by decide) dL_law_932 rfl ?_
  have hP2 := va_P_sw hP
  have hD2 := va_D_sw hD
  refine g_callAr (ws := (oa, .inl (y 1, 1, .inr (.inl of))) :: wr) (wc := w8) (va_runV (As := [.int a1, .int a2, .int (gB bb)]) (rest := []) ⟨hx, hb, hml, hown, hts⟩ (H8 H.size) (cwV 3 hts gL_law_X8_told rfl hc8 hs8 (by decide +kernel) hr8) (gP_VA (va_P_r hP2) (va_D_r hD2) hK 0 he rfl) rfl rfl hl.1 rfl (lv_room (Nat.le_of_ble_eq_true rfl)) dL_law_933 hroom) hP2 hD2 hS hA (fun v w9 H locs hf9 hP hD hS => ?_)
  obtain ⟨a9, rfl⟩ := hf8 v w9 hf9
  have hP := va_P_sw hP
  have hD := va_D_sw hD
  obtain ⟨hT, ⟨fs9, he9⟩, hcmp, kk⟩ := KK k of wr a9 w9 hf hf9
  refine lv_lstore (lv' := [(6, .long a9), (5, .int k), (0, .ref b), (1, .ref hX1), (2, .ref h8), (3, .ref oa), (4, .int (nI i))]) hx hb dL_law_936 hl (by decide) rfl (fun ls hl => ?_)
  refine lv_aload_n hx hb dL_law_938 rfl (lv_at hl 4 rfl) ?_
  refine g_callR (v0 := .int k) (va_runV (As := []) (rest := []) ⟨hx, hb, hml, hown, hts⟩ (hT H.size) (cwV 0 hts gL_law_X8_thrown rfl rfl rfl (by decide +kernel) ⟨Nat.le_of_ble_eq_true rfl, Nat.le_of_ble_eq_true rfl⟩) (gP_VA (va_P_r (va_P_sw hP)) (va_D_r (va_D_sw hD)) hK 0 he9 rfl) rfl rfl hl.1 rfl (lv_room (Nat.le_of_ble_eq_true rfl)) dL_law_939 hroom) ?_
  refine lv_iload hx hb dL_law_942 (lv_at hl 1 rfl) ?_
  refine lv_icmp_eq (tgt := 949) hx hb dL_law_944 (by decide) (fun _ => ?_) (fun h => absurd rfl h)
  refine lv_iload hx hb dL_law_949 (lv_at hl 1 rfl) ?_
  refine lv_if_ne (tgt := 965) hx hb dL_law_951 (by decide) (fun _ => ?_) (fun h0 => ?_)
  · refine lv_goto (tgt := 1823) hx hb dL_law_965 (by decide) ?_
    exact kk H locs ls hP hD hS (lv_sub hl [2, 3, 4, 5, 6] rfl)
  · refine lv_aload_n hx hb dL_law_954 rfl (lv_at hl 5 rfl) ?_
    refine lv_iconst (v := 0) hx hb dL_law_955 (by decide) ?_
    refine g_lald (k := 0) hx hb hK.1 hP w9.length 1 gAt0 rfl (by decide) (by decide) dL_law_956 ?_
    refine lv_lload hx hb dL_law_957 (lv_at hl 0 rfl) ?_
    refine g_eq (tgt := 965) hx hb dL_law_959 dL_law_960 (by decide) (fun _ => ?_) (fun h => absurd (hcmp h0) h)
    refine lv_goto (tgt := 1823) hx hb dL_law_965 (by decide) ?_
    exact kk H locs ls hP hD hS (lv_sub hl [2, 3, 4, 5, 6] rfl)
set_option maxRecDepth 4000 in
theorem lz_instead (C : lwC p l s m meth c b L xs D y ad) {i : Nat} (hi : i + 7 ≤ L) {hX1 h8 oa : Nat} {a1 : Int32} {a2 : Int32} {a3 : Int32} {a4 : Int32} {a5 : Int32} {bb : Bool} (e1 : xs (i + 1) = a1) (e2 : xs (i + 2) = a2) (e3 : xs (i + 3) = a3) (e4 : xs (i + 4) = a4) (e5 : xs (i + 5) = a5) (ef : bb = (if a5 = 0 then false else true)) (hl : lv_has ls 8 [(0, .ref b), (1, .ref hX1), (2, .ref h8), (3, .ref oa), (4, .int (nI i))]) {wX1 w8 : va_W} (hP : va_P D vwCl (w8 ++ wX1) H) (hD : va_D (lA s) (w8 ++ wX1)) (hS : va_S (lA s) s.heap H locs) {fs : List Value} (he : w8[0]? = some (h8, .inr (6, fs)))
    {rmL rm8 : Room} {mc ms : Nat} {fL f8 : Option Value → va_W → Prop} (HL : ∀ sz, Met l yL_instead wsL_instead rmL (gPN D y ad [.ref hX1, .int a1, .int a2, .int a3, .int a4, .int (gB bb), .ref oa] wX1 sz) (gQn D wX1 fL) mc ms (va_A wX1 sz)) (hcL : rmL.cells = mc) (hsL : rmL.slots = ms) (hrL : rmL.frames + 1 ≤ 13 ∧ 8 + (8 + 11) + rmL.locals ≤ 502) (hroom : cells + mc ≤ 601024 ∧ slots + ms ≤ 7293034)
    (H8 : ∀ sz, Met l yX8_instead wsX8_instead rm8 (gP D y (.ref h8 :: [.int a1, .int a2, .int a3, .int a4, .int (gB bb)]) w8 sz) (gQ D w8 f8) 0 0 (va_A w8 sz)) (hc8 : rm8.cells = 0) (hs8 : rm8.slots = 0) (hr8 : rm8.frames + 1 ≤ 13 ∧ 8 + (7 + 11) + rm8.locals ≤ 502)
    (hfL : ∀ v w, fL v w → ∃ (k : Int32) (of : Nat → Int64) (wr : va_W), v = some (.int k) ∧ w = (oa, .inl (y 1, 1, .inr (.inl of))) :: wr) (hf8 : ∀ v w, f8 v w → ∃ a9 : Int64, v = some (.long a9))
    (KK : ∀ (k : Int32) (of : Nat → Int64) (wr : va_W) (a9 : Int64) (w9 : va_W), fL (some (.int k)) ((oa, .inl (y 1, 1, .inr (.inl of))) :: wr) → f8 (some (.long a9)) w9 →
      (∀ sz, Met l yX8_thrown wsX8_thrown ({ frames := 0, cells := 0, slots := 0, locals := 0 } : Room) (gP D y [.ref h8] w9 sz) (gR (.int k)) 0 0 (fun _ => False)) ∧ (∃ fs9 : List Value, w9[0]? = some (h8, .inr (6, fs9))) ∧ (k = 0 → of 0 = a9) ∧
      ∀ (H : Heap) (locs : List Loc) (ls : Array Slot), va_P D vwCl (w9 ++ (oa, .inl (y 1, 1, .inr (.inl of))) :: wr) H → va_D (lA s) (w9 ++ (oa, .inl (y 1, 1, .inr (.inl of))) :: wr) → va_S (lA s) s.heap H locs → lv_has ls 8 [(0, .ref b), (1, .ref hX1), (2, .ref h8), (3, .ref oa), (4, .int (nI i))] → W p l e room_1 s m #[Value.ref b] below meth c H locs (cells + mc) (slots + ms) Q (F0 m 1823 ls [])) :
    W p l e room_1 s m #[Value.ref b] below meth c H locs cells slots Q (F0 m 968 ls []) := by
  obtain ⟨⟨hx, hb, hml, hown, hts⟩, ⟨hX, hbl, hL⟩, hK, hE, hN, hfl⟩ := id C
  have hA : ∀ q : Nat, s.heap.size ≤ q → lA s q := fun _ h => h
  refine lv_aload_n hx hb dL_law_968 rfl (lv_at hl 1 rfl) ?_
  refine g_argL C hS 1 (by decide) (lv_at hl 0 rfl) (lv_at hl 4 rfl) (by omega) e1 dL_law_969 dL_law_970 dL_law_972 dL_law_973 dL_law_974 ?_
  refine g_argL C hS 2 (by decide) (lv_at hl 0 rfl) (lv_at hl 4 rfl) (by omega) e2 dL_law_975 dL_law_976 dL_law_978 dL_law_979 dL_law_980 ?_
  refine g_argL C hS 3 (by decide) (lv_at hl 0 rfl) (lv_at hl 4 rfl) (by omega) e3 dL_law_981 dL_law_982 dL_law_984 dL_law_985 dL_law_986 ?_
  refine g_argL C hS 4 (by decide) (lv_at hl 0 rfl) (lv_at hl 4 rfl) (by omega) e4 dL_law_987 dL_law_988 dL_law_990 dL_law_991 dL_law_992 ?_
  refine g_argL C hS 5 (by decide) (lv_at hl 0 rfl) (lv_at hl 4 rfl) (by omega) e5 dL_law_993 dL_law_994 dL_law_996 dL_law_997 dL_law_998 ?_
  refine g_flag (t1 := 1006) (t2 := 1007) C ef dL_law_999 (by decide) dL_law_1002 dL_law_1003 (by decide) dL_law_1006 rfl ?_
  refine lv_aload_n hx hb dL_law_1007 rfl (lv_at hl 3 rfl) ?_
  refine g_callN (ws := w8) (wc := wX1) (vx_runSW (As := [.ref hX1, .int a1, .int a2, .int a3, .int a4, .int (gB bb), .ref oa]) (rest := []) ⟨hx, hb, hml, hown, hts⟩ (HL H.size) (vx_cwSW 7 hts gL_law_L_instead rfl hcL hsL (by decide +kernel) hrL) (gPN_SA (va_P_r hP) (va_D_r hD) hK hE hN hS hA) rfl rfl hl.1 rfl (lv_room (Nat.le_of_ble_eq_true rfl)) dL_law_1008 hroom) hP hD hS hA (fun v w H locs hf hP hD hS => ?_)
  obtain ⟨k, of, wr, rfl, rfl⟩ := hfL v w hf
  refine lv_istore (lv' := [(5, .int k), (0, .ref b), (1, .ref hX1), (2, .ref h8), (3, .ref oa), (4, .int (nI i))]) hx hb dL_law_1011 hl (by decide) rfl (fun ls hl => ?_)
  refine lv_aload_n hx hb dL_law_1013 rfl (lv_at hl 3 rfl) ?_
  refine g_argL C hS 1 (by decide) (lv_at hl 1 rfl) (lv_at hl 5 rfl) (by omega) e1 dL_law_1014 dL_law_1015 dL_law_1017 dL_law_1018 dL_law_1019 ?_
  refine g_argL C hS 2 (by decide) (lv_at hl 1 rfl) (lv_at hl 5 rfl) (by omega) e2 dL_law_1020 dL_law_1021 dL_law_1023 dL_law_1024 dL_law_1025 ?_
  refine g_argL C hS 3 (by decide) (lv_at hl 1 rfl) (lv_at hl 5 rfl) (by omega) e3 dL_law_1026 dL_law_1027 dL_law_1029 dL_law_1030 dL_law_1031 ?_
  refine g_argL C hS 4 (by decide) (lv_at hl 1 rfl) (lv_at hl 5 rfl) (by omega) e4 dL_law_1032 dL_law_1033 dL_law_1035 dL_law_1036 dL_law_1037 ?_
  refine g_argL C hS 5 (by decide) (lv_at hl 1 rfl) (lv_at hl 5 rfl) (by omega) e5 dL_law_1038 dL_law_1039 dL_law_1041 dL_law_1042 dL_law_1043 ?_
  refine g_flag (t1 := 1051) (t2 := 1052) C ef dL_law_1044 (by decide) dL_law_1047 dL_law_1048 (by decide) dL_law_1051 rfl ?_
  have hP2 := va_P_sw hP
  have hD2 := va_D_sw hD
  refine g_callAr (ws := (oa, .inl (y 1, 1, .inr (.inl of))) :: wr) (wc := w8) (va_runV (As := [.int a1, .int a2, .int a3, .int a4, .int (gB bb)]) (rest := []) ⟨hx, hb, hml, hown, hts⟩ (H8 H.size) (cwV 5 hts gL_law_X8_instead rfl hc8 hs8 (by decide +kernel) hr8) (gP_VA (va_P_r hP2) (va_D_r hD2) hK 0 he rfl) rfl rfl hl.1 rfl (lv_room (Nat.le_of_ble_eq_true rfl)) dL_law_1052 hroom) hP2 hD2 hS hA (fun v w9 H locs hf9 hP hD hS => ?_)
  obtain ⟨a9, rfl⟩ := hf8 v w9 hf9
  have hP := va_P_sw hP
  have hD := va_D_sw hD
  obtain ⟨hT, ⟨fs9, he9⟩, hcmp, kk⟩ := KK k of wr a9 w9 hf hf9
  refine lv_lstore (lv' := [(6, .long a9), (5, .int k), (0, .ref b), (1, .ref hX1), (2, .ref h8), (3, .ref oa), (4, .int (nI i))]) hx hb dL_law_1055 hl (by decide) rfl (fun ls hl => ?_)
  refine lv_aload_n hx hb dL_law_1057 rfl (lv_at hl 4 rfl) ?_
  refine g_callR (v0 := .int k) (va_runV (As := []) (rest := []) ⟨hx, hb, hml, hown, hts⟩ (hT H.size) (cwV 0 hts gL_law_X8_thrown rfl rfl rfl (by decide +kernel) ⟨Nat.le_of_ble_eq_true rfl, Nat.le_of_ble_eq_true rfl⟩) (gP_VA (va_P_r (va_P_sw hP)) (va_D_r (va_D_sw hD)) hK 0 he9 rfl) rfl rfl hl.1 rfl (lv_room (Nat.le_of_ble_eq_true rfl)) dL_law_1058 hroom) ?_
  refine lv_iload hx hb dL_law_1061 (lv_at hl 1 rfl) ?_
  refine lv_icmp_eq (tgt := 1068) hx hb dL_law_1063 (by decide) (fun _ => ?_) (fun h => absurd rfl h)
  refine lv_iload hx hb dL_law_1068 (lv_at hl 1 rfl) ?_
  refine lv_if_ne (tgt := 1084) hx hb dL_law_1070 (by decide) (fun _ => ?_) (fun h0 => ?_)
  · refine lv_goto (tgt := 1823) hx hb dL_law_1084 (by decide) ?_
    exact kk H locs ls hP hD hS (lv_sub hl [2, 3, 4, 5, 6] rfl)
  · refine lv_aload_n hx hb dL_law_1073 rfl (lv_at hl 5 rfl) ?_
    refine lv_iconst (v := 0) hx hb dL_law_1074 (by decide) ?_
    refine g_lald (k := 0) hx hb hK.1 hP w9.length 1 gAt0 rfl (by decide) (by decide) dL_law_1075 ?_
    refine lv_lload hx hb dL_law_1076 (lv_at hl 0 rfl) ?_
    refine g_eq (tgt := 1084) hx hb dL_law_1078 dL_law_1079 (by decide) (fun _ => ?_) (fun h => absurd (hcmp h0) h)
    refine lv_goto (tgt := 1823) hx hb dL_law_1084 (by decide) ?_
    exact kk H locs ls hP hD hS (lv_sub hl [2, 3, 4, 5, 6] rfl)
set_option maxRecDepth 4000 in
theorem lz_place (C : lwC p l s m meth c b L xs D y ad) {i : Nat} (hi : i + 7 ≤ L) {hX1 h8 oa : Nat} {a1 : Int32} {a2 : Int32} (e1 : xs (i + 1) = a1) (e2 : xs (i + 2) = a2) (hl : lv_has ls 8 [(0, .ref b), (1, .ref hX1), (2, .ref h8), (3, .ref oa), (4, .int (nI i))]) {wX1 w8 : va_W} (hP : va_P D vwCl (w8 ++ wX1) H) (hD : va_D (lA s) (w8 ++ wX1)) (hS : va_S (lA s) s.heap H locs) {fs : List Value} (he : w8[0]? = some (h8, .inr (6, fs)))
    {rmL rm8 : Room} {mc ms : Nat} {fL f8 : Option Value → va_W → Prop} (HL : ∀ sz, Met l yL_place wsL_place rmL (gPN D y ad [.ref hX1, .int a1, .int a2, .ref oa] wX1 sz) (gQn D wX1 fL) mc ms (va_A wX1 sz)) (hcL : rmL.cells = mc) (hsL : rmL.slots = ms) (hrL : rmL.frames + 1 ≤ 13 ∧ 8 + (5 + 11) + rmL.locals ≤ 502) (hroom : cells + mc ≤ 601024 ∧ slots + ms ≤ 7293034)
    (H8 : ∀ sz, Met l yX8_place wsX8_place rm8 (gP D y (.ref h8 :: [.int a1, .int a2]) w8 sz) (gQ D w8 f8) 0 0 (va_A w8 sz)) (hc8 : rm8.cells = 0) (hs8 : rm8.slots = 0) (hr8 : rm8.frames + 1 ≤ 13 ∧ 8 + (6 + 11) + rm8.locals ≤ 502)
    (hfL : ∀ v w, fL v w → ∃ (k : Int32) (of : Nat → Int64) (wr : va_W), v = some (.int k) ∧ w = (oa, .inl (y 1, 1, .inr (.inl of))) :: wr) (hf8 : ∀ v w, f8 v w → ∃ a9 : Int32, v = some (.int a9))
    (KK : ∀ (k : Int32) (of : Nat → Int64) (wr : va_W) (a9 : Int32) (w9 : va_W), fL (some (.int k)) ((oa, .inl (y 1, 1, .inr (.inl of))) :: wr) → f8 (some (.int a9)) w9 →
      (∀ sz, Met l yX8_thrown wsX8_thrown ({ frames := 0, cells := 0, slots := 0, locals := 0 } : Room) (gP D y [.ref h8] w9 sz) (gR (.int k)) 0 0 (fun _ => False)) ∧ (∃ fs9 : List Value, w9[0]? = some (h8, .inr (6, fs9))) ∧ (k = 0 → of 0 = a9.toInt64) ∧
      ∀ (H : Heap) (locs : List Loc) (ls : Array Slot), va_P D vwCl (w9 ++ (oa, .inl (y 1, 1, .inr (.inl of))) :: wr) H → va_D (lA s) (w9 ++ (oa, .inl (y 1, 1, .inr (.inl of))) :: wr) → va_S (lA s) s.heap H locs → lv_has ls 8 [(0, .ref b), (1, .ref hX1), (2, .ref h8), (3, .ref oa), (4, .int (nI i))] → W p l e room_1 s m #[Value.ref b] below meth c H locs (cells + mc) (slots + ms) Q (F0 m 1823 ls [])) :
    W p l e room_1 s m #[Value.ref b] below meth c H locs cells slots Q (F0 m 1087 ls []) := by
  obtain ⟨⟨hx, hb, hml, hown, hts⟩, ⟨hX, hbl, hL⟩, hK, hE, hN, hfl⟩ := id C
  have hA : ∀ q : Nat, s.heap.size ≤ q → lA s q := fun _ h => h
  refine lv_aload_n hx hb dL_law_1087 rfl (lv_at hl 1 rfl) ?_
  refine g_argL C hS 1 (by decide) (lv_at hl 0 rfl) (lv_at hl 4 rfl) (by omega) e1 dL_law_1088 dL_law_1089 dL_law_1091 dL_law_1092 dL_law_1093 ?_
  refine g_argL C hS 2 (by decide) (lv_at hl 0 rfl) (lv_at hl 4 rfl) (by omega) e2 dL_law_1094 dL_law_1095 dL_law_1097 dL_law_1098 dL_law_1099 ?_
  refine lv_aload_n hx hb dL_law_1100 rfl (lv_at hl 3 rfl) ?_
  refine g_callN (ws := w8) (wc := wX1) (vx_runSW (As := [.ref hX1, .int a1, .int a2, .ref oa]) (rest := []) ⟨hx, hb, hml, hown, hts⟩ (HL H.size) (vx_cwSW 4 hts gL_law_L_place rfl hcL hsL (by decide +kernel) hrL) (gPN_SA (va_P_r hP) (va_D_r hD) hK hE hN hS hA) rfl rfl hl.1 rfl (lv_room (Nat.le_of_ble_eq_true rfl)) dL_law_1101 hroom) hP hD hS hA (fun v w H locs hf hP hD hS => ?_)
  obtain ⟨k, of, wr, rfl, rfl⟩ := hfL v w hf
  refine lv_istore (lv' := [(5, .int k), (0, .ref b), (1, .ref hX1), (2, .ref h8), (3, .ref oa), (4, .int (nI i))]) hx hb dL_law_1104 hl (by decide) rfl (fun ls hl => ?_)
  refine lv_aload_n hx hb dL_law_1106 rfl (lv_at hl 3 rfl) ?_
  refine g_argL C hS 1 (by decide) (lv_at hl 1 rfl) (lv_at hl 5 rfl) (by omega) e1 dL_law_1107 dL_law_1108 dL_law_1110 dL_law_1111 dL_law_1112 ?_
  refine g_argL C hS 2 (by decide) (lv_at hl 1 rfl) (lv_at hl 5 rfl) (by omega) e2 dL_law_1113 dL_law_1114 dL_law_1116 dL_law_1117 dL_law_1118 ?_
  have hP2 := va_P_sw hP
  have hD2 := va_D_sw hD
  refine g_callAr (ws := (oa, .inl (y 1, 1, .inr (.inl of))) :: wr) (wc := w8) (va_runV (As := [.int a1, .int a2]) (rest := []) ⟨hx, hb, hml, hown, hts⟩ (H8 H.size) (cwV 2 hts gL_law_X8_place rfl hc8 hs8 (by decide +kernel) hr8) (gP_VA (va_P_r hP2) (va_D_r hD2) hK 0 he rfl) rfl rfl hl.1 rfl (lv_room (Nat.le_of_ble_eq_true rfl)) dL_law_1119 hroom) hP2 hD2 hS hA (fun v w9 H locs hf9 hP hD hS => ?_)
  obtain ⟨a9, rfl⟩ := hf8 v w9 hf9
  have hP := va_P_sw hP
  have hD := va_D_sw hD
  obtain ⟨hT, ⟨fs9, he9⟩, hcmp, kk⟩ := KK k of wr a9 w9 hf hf9
  refine lv_istore (lv' := [(6, .int a9), (5, .int k), (0, .ref b), (1, .ref hX1), (2, .ref h8), (3, .ref oa), (4, .int (nI i))]) hx hb dL_law_1122 hl (by decide) rfl (fun ls hl => ?_)
  refine lv_aload_n hx hb dL_law_1124 rfl (lv_at hl 4 rfl) ?_
  refine g_callR (v0 := .int k) (va_runV (As := []) (rest := []) ⟨hx, hb, hml, hown, hts⟩ (hT H.size) (cwV 0 hts gL_law_X8_thrown rfl rfl rfl (by decide +kernel) ⟨Nat.le_of_ble_eq_true rfl, Nat.le_of_ble_eq_true rfl⟩) (gP_VA (va_P_r (va_P_sw hP)) (va_D_r (va_D_sw hD)) hK 0 he9 rfl) rfl rfl hl.1 rfl (lv_room (Nat.le_of_ble_eq_true rfl)) dL_law_1125 hroom) ?_
  refine lv_iload hx hb dL_law_1128 (lv_at hl 1 rfl) ?_
  refine lv_icmp_eq (tgt := 1135) hx hb dL_law_1130 (by decide) (fun _ => ?_) (fun h => absurd rfl h)
  refine lv_iload hx hb dL_law_1135 (lv_at hl 1 rfl) ?_
  refine lv_if_ne (tgt := 1152) hx hb dL_law_1137 (by decide) (fun _ => ?_) (fun h0 => ?_)
  · refine lv_goto (tgt := 1823) hx hb dL_law_1152 (by decide) ?_
    exact kk H locs ls hP hD hS (lv_sub hl [2, 3, 4, 5, 6] rfl)
  · refine lv_aload_n hx hb dL_law_1140 rfl (lv_at hl 5 rfl) ?_
    refine lv_iconst (v := 0) hx hb dL_law_1141 (by decide) ?_
    refine g_lald (k := 0) hx hb hK.1 hP w9.length 1 gAt0 rfl (by decide) (by decide) dL_law_1142 ?_
    refine lv_iload hx hb dL_law_1143 (lv_at hl 0 rfl) ?_
    refine lv_i2l (v := a9.toInt64) hx hb dL_law_1145 rfl ?_
    refine g_eq (tgt := 1152) hx hb dL_law_1146 dL_law_1147 (by decide) (fun _ => ?_) (fun h => absurd (hcmp h0) h)
    refine lv_goto (tgt := 1823) hx hb dL_law_1152 (by decide) ?_
    exact kk H locs ls hP hD hS (lv_sub hl [2, 3, 4, 5, 6] rfl)
set_option maxRecDepth 4000 in
theorem lz_compare (C : lwC p l s m meth c b L xs D y ad) {i : Nat} (hi : i + 7 ≤ L) {hX1 h8 oa : Nat} {a1 : Int32} {a2 : Int32} {a3 : Int32} (e1 : xs (i + 1) = a1) (e2 : xs (i + 2) = a2) (e3 : xs (i + 3) = a3) (hl : lv_has ls 8 [(0, .ref b), (1, .ref hX1), (2, .ref h8), (3, .ref oa), (4, .int (nI i))]) {wX1 w8 : va_W} (hP : va_P D vwCl (w8 ++ wX1) H) (hD : va_D (lA s) (w8 ++ wX1)) (hS : va_S (lA s) s.heap H locs) {fs : List Value} (he : w8[0]? = some (h8, .inr (6, fs)))
    {rmL rm8 : Room} {mc ms : Nat} {fL f8 : Option Value → va_W → Prop} (HL : ∀ sz, Met l yL_compare wsL_compare rmL (gPN D y ad [.ref hX1, .int a1, .int a2, .int a3, .ref oa] wX1 sz) (gQn D wX1 fL) mc ms (va_A wX1 sz)) (hcL : rmL.cells = mc) (hsL : rmL.slots = ms) (hrL : rmL.frames + 1 ≤ 13 ∧ 8 + (6 + 11) + rmL.locals ≤ 502) (hroom : cells + mc ≤ 601024 ∧ slots + ms ≤ 7293034)
    (H8 : ∀ sz, Met l yX8_compare wsX8_compare rm8 (gP D y (.ref h8 :: [.int a1, .int a2, .int a3]) w8 sz) (gQ D w8 f8) 0 0 (va_A w8 sz)) (hc8 : rm8.cells = 0) (hs8 : rm8.slots = 0) (hr8 : rm8.frames + 1 ≤ 13 ∧ 8 + (5 + 11) + rm8.locals ≤ 502)
    (hfL : ∀ v w, fL v w → ∃ (k : Int32) (of : Nat → Int64) (wr : va_W), v = some (.int k) ∧ w = (oa, .inl (y 1, 1, .inr (.inl of))) :: wr) (hf8 : ∀ v w, f8 v w → ∃ a9 : Int32, v = some (.int a9))
    (KK : ∀ (k : Int32) (of : Nat → Int64) (wr : va_W) (a9 : Int32) (w9 : va_W), fL (some (.int k)) ((oa, .inl (y 1, 1, .inr (.inl of))) :: wr) → f8 (some (.int a9)) w9 →
      (∀ sz, Met l yX8_thrown wsX8_thrown ({ frames := 0, cells := 0, slots := 0, locals := 0 } : Room) (gP D y [.ref h8] w9 sz) (gR (.int k)) 0 0 (fun _ => False)) ∧ (∃ fs9 : List Value, w9[0]? = some (h8, .inr (6, fs9))) ∧ (k = 0 → of 0 = a9.toInt64) ∧
      ∀ (H : Heap) (locs : List Loc) (ls : Array Slot), va_P D vwCl (w9 ++ (oa, .inl (y 1, 1, .inr (.inl of))) :: wr) H → va_D (lA s) (w9 ++ (oa, .inl (y 1, 1, .inr (.inl of))) :: wr) → va_S (lA s) s.heap H locs → lv_has ls 8 [(0, .ref b), (1, .ref hX1), (2, .ref h8), (3, .ref oa), (4, .int (nI i))] → W p l e room_1 s m #[Value.ref b] below meth c H locs (cells + mc) (slots + ms) Q (F0 m 1823 ls [])) :
    W p l e room_1 s m #[Value.ref b] below meth c H locs cells slots Q (F0 m 1155 ls []) := by
  obtain ⟨⟨hx, hb, hml, hown, hts⟩, ⟨hX, hbl, hL⟩, hK, hE, hN, hfl⟩ := id C
  have hA : ∀ q : Nat, s.heap.size ≤ q → lA s q := fun _ h => h
  refine lv_aload_n hx hb dL_law_1155 rfl (lv_at hl 1 rfl) ?_
  refine g_argL C hS 1 (by decide) (lv_at hl 0 rfl) (lv_at hl 4 rfl) (by omega) e1 dL_law_1156 dL_law_1157 dL_law_1159 dL_law_1160 dL_law_1161 ?_
  refine g_argL C hS 2 (by decide) (lv_at hl 0 rfl) (lv_at hl 4 rfl) (by omega) e2 dL_law_1162 dL_law_1163 dL_law_1165 dL_law_1166 dL_law_1167 ?_
  refine g_argL C hS 3 (by decide) (lv_at hl 0 rfl) (lv_at hl 4 rfl) (by omega) e3 dL_law_1168 dL_law_1169 dL_law_1171 dL_law_1172 dL_law_1173 ?_
  refine lv_aload_n hx hb dL_law_1174 rfl (lv_at hl 3 rfl) ?_
  refine g_callN (ws := w8) (wc := wX1) (vx_runSW (As := [.ref hX1, .int a1, .int a2, .int a3, .ref oa]) (rest := []) ⟨hx, hb, hml, hown, hts⟩ (HL H.size) (vx_cwSW 5 hts gL_law_L_compare rfl hcL hsL (by decide +kernel) hrL) (gPN_SA (va_P_r hP) (va_D_r hD) hK hE hN hS hA) rfl rfl hl.1 rfl (lv_room (Nat.le_of_ble_eq_true rfl)) dL_law_1175 hroom) hP hD hS hA (fun v w H locs hf hP hD hS => ?_)
  obtain ⟨k, of, wr, rfl, rfl⟩ := hfL v w hf
  refine lv_istore (lv' := [(5, .int k), (0, .ref b), (1, .ref hX1), (2, .ref h8), (3, .ref oa), (4, .int (nI i))]) hx hb dL_law_1178 hl (by decide) rfl (fun ls hl => ?_)
  refine lv_aload_n hx hb dL_law_1180 rfl (lv_at hl 3 rfl) ?_
  refine g_argL C hS 1 (by decide) (lv_at hl 1 rfl) (lv_at hl 5 rfl) (by omega) e1 dL_law_1181 dL_law_1182 dL_law_1184 dL_law_1185 dL_law_1186 ?_
  refine g_argL C hS 2 (by decide) (lv_at hl 1 rfl) (lv_at hl 5 rfl) (by omega) e2 dL_law_1187 dL_law_1188 dL_law_1190 dL_law_1191 dL_law_1192 ?_
  refine g_argL C hS 3 (by decide) (lv_at hl 1 rfl) (lv_at hl 5 rfl) (by omega) e3 dL_law_1193 dL_law_1194 dL_law_1196 dL_law_1197 dL_law_1198 ?_
  have hP2 := va_P_sw hP
  have hD2 := va_D_sw hD
  refine g_callAr (ws := (oa, .inl (y 1, 1, .inr (.inl of))) :: wr) (wc := w8) (va_runV (As := [.int a1, .int a2, .int a3]) (rest := []) ⟨hx, hb, hml, hown, hts⟩ (H8 H.size) (cwV 3 hts gL_law_X8_compare rfl hc8 hs8 (by decide +kernel) hr8) (gP_VA (va_P_r hP2) (va_D_r hD2) hK 0 he rfl) rfl rfl hl.1 rfl (lv_room (Nat.le_of_ble_eq_true rfl)) dL_law_1199 hroom) hP2 hD2 hS hA (fun v w9 H locs hf9 hP hD hS => ?_)
  obtain ⟨a9, rfl⟩ := hf8 v w9 hf9
  have hP := va_P_sw hP
  have hD := va_D_sw hD
  obtain ⟨hT, ⟨fs9, he9⟩, hcmp, kk⟩ := KK k of wr a9 w9 hf hf9
  refine lv_istore (lv' := [(6, .int a9), (5, .int k), (0, .ref b), (1, .ref hX1), (2, .ref h8), (3, .ref oa), (4, .int (nI i))]) hx hb dL_law_1202 hl (by decide) rfl (fun ls hl => ?_)
  refine lv_aload_n hx hb dL_law_1204 rfl (lv_at hl 4 rfl) ?_
  refine g_callR (v0 := .int k) (va_runV (As := []) (rest := []) ⟨hx, hb, hml, hown, hts⟩ (hT H.size) (cwV 0 hts gL_law_X8_thrown rfl rfl rfl (by decide +kernel) ⟨Nat.le_of_ble_eq_true rfl, Nat.le_of_ble_eq_true rfl⟩) (gP_VA (va_P_r (va_P_sw hP)) (va_D_r (va_D_sw hD)) hK 0 he9 rfl) rfl rfl hl.1 rfl (lv_room (Nat.le_of_ble_eq_true rfl)) dL_law_1205 hroom) ?_
  refine lv_iload hx hb dL_law_1208 (lv_at hl 1 rfl) ?_
  refine lv_icmp_eq (tgt := 1215) hx hb dL_law_1210 (by decide) (fun _ => ?_) (fun h => absurd rfl h)
  refine lv_iload hx hb dL_law_1215 (lv_at hl 1 rfl) ?_
  refine lv_if_ne (tgt := 1232) hx hb dL_law_1217 (by decide) (fun _ => ?_) (fun h0 => ?_)
  · refine lv_goto (tgt := 1823) hx hb dL_law_1232 (by decide) ?_
    exact kk H locs ls hP hD hS (lv_sub hl [2, 3, 4, 5, 6] rfl)
  · refine lv_aload_n hx hb dL_law_1220 rfl (lv_at hl 5 rfl) ?_
    refine lv_iconst (v := 0) hx hb dL_law_1221 (by decide) ?_
    refine g_lald (k := 0) hx hb hK.1 hP w9.length 1 gAt0 rfl (by decide) (by decide) dL_law_1222 ?_
    refine lv_iload hx hb dL_law_1223 (lv_at hl 0 rfl) ?_
    refine lv_i2l (v := a9.toInt64) hx hb dL_law_1225 rfl ?_
    refine g_eq (tgt := 1232) hx hb dL_law_1226 dL_law_1227 (by decide) (fun _ => ?_) (fun h => absurd (hcmp h0) h)
    refine lv_goto (tgt := 1823) hx hb dL_law_1232 (by decide) ?_
    exact kk H locs ls hP hD hS (lv_sub hl [2, 3, 4, 5, 6] rfl)
set_option maxRecDepth 4000 in
theorem lz_decided (C : lwC p l s m meth c b L xs D y ad) {i : Nat} (hi : i + 7 ≤ L) {hX1 h8 oa : Nat} {a1 : Int32} {a2 : Int32} (e1 : xs (i + 1) = a1) (e2 : xs (i + 2) = a2) (hl : lv_has ls 8 [(0, .ref b), (1, .ref hX1), (2, .ref h8), (3, .ref oa), (4, .int (nI i))]) {wX1 w8 : va_W} (hP : va_P D vwCl (w8 ++ wX1) H) (hD : va_D (lA s) (w8 ++ wX1)) (hS : va_S (lA s) s.heap H locs) {fs : List Value} (he : w8[0]? = some (h8, .inr (6, fs)))
    {rmL rm8 : Room} {mc ms : Nat} {fL f8 : Option Value → va_W → Prop} (HL : ∀ sz, Met l yL_decided wsL_decided rmL (gPN D y ad [.ref hX1, .int a1, .int a2, .ref oa] wX1 sz) (gQn D wX1 fL) mc ms (va_A wX1 sz)) (hcL : rmL.cells = mc) (hsL : rmL.slots = ms) (hrL : rmL.frames + 1 ≤ 13 ∧ 8 + (5 + 11) + rmL.locals ≤ 502) (hroom : cells + mc ≤ 601024 ∧ slots + ms ≤ 7293034)
    (H8 : ∀ sz, Met l yX8_decided wsX8_decided rm8 (gP D y (.ref h8 :: [.int a1, .int a2]) w8 sz) (gQ D w8 f8) 0 0 (va_A w8 sz)) (hc8 : rm8.cells = 0) (hs8 : rm8.slots = 0) (hr8 : rm8.frames + 1 ≤ 13 ∧ 8 + (4 + 11) + rm8.locals ≤ 502)
    (hfL : ∀ v w, fL v w → ∃ (k : Int32) (of : Nat → Int64) (wr : va_W), v = some (.int k) ∧ w = (oa, .inl (y 1, 1, .inr (.inl of))) :: wr) (hf8 : ∀ v w, f8 v w → ∃ a9 : Int32, v = some (.int a9))
    (KK : ∀ (k : Int32) (of : Nat → Int64) (wr : va_W) (a9 : Int32) (w9 : va_W), fL (some (.int k)) ((oa, .inl (y 1, 1, .inr (.inl of))) :: wr) → f8 (some (.int a9)) w9 →
      (∀ sz, Met l yX8_thrown wsX8_thrown ({ frames := 0, cells := 0, slots := 0, locals := 0 } : Room) (gP D y [.ref h8] w9 sz) (gR (.int k)) 0 0 (fun _ => False)) ∧ (∃ fs9 : List Value, w9[0]? = some (h8, .inr (6, fs9))) ∧ (k = 0 → of 0 = a9.toInt64) ∧
      ∀ (H : Heap) (locs : List Loc) (ls : Array Slot), va_P D vwCl (w9 ++ (oa, .inl (y 1, 1, .inr (.inl of))) :: wr) H → va_D (lA s) (w9 ++ (oa, .inl (y 1, 1, .inr (.inl of))) :: wr) → va_S (lA s) s.heap H locs → lv_has ls 8 [(0, .ref b), (1, .ref hX1), (2, .ref h8), (3, .ref oa), (4, .int (nI i))] → W p l e room_1 s m #[Value.ref b] below meth c H locs (cells + mc) (slots + ms) Q (F0 m 1823 ls [])) :
    W p l e room_1 s m #[Value.ref b] below meth c H locs cells slots Q (F0 m 1235 ls []) := by
  obtain ⟨⟨hx, hb, hml, hown, hts⟩, ⟨hX, hbl, hL⟩, hK, hE, hN, hfl⟩ := id C
  have hA : ∀ q : Nat, s.heap.size ≤ q → lA s q := fun _ h => h
  refine lv_aload_n hx hb dL_law_1235 rfl (lv_at hl 1 rfl) ?_
  refine g_argL C hS 1 (by decide) (lv_at hl 0 rfl) (lv_at hl 4 rfl) (by omega) e1 dL_law_1236 dL_law_1237 dL_law_1239 dL_law_1240 dL_law_1241 ?_
  refine g_argL C hS 2 (by decide) (lv_at hl 0 rfl) (lv_at hl 4 rfl) (by omega) e2 dL_law_1242 dL_law_1243 dL_law_1245 dL_law_1246 dL_law_1247 ?_
  refine lv_aload_n hx hb dL_law_1248 rfl (lv_at hl 3 rfl) ?_
  refine g_callN (ws := w8) (wc := wX1) (vx_runSW (As := [.ref hX1, .int a1, .int a2, .ref oa]) (rest := []) ⟨hx, hb, hml, hown, hts⟩ (HL H.size) (vx_cwSW 4 hts gL_law_L_decided rfl hcL hsL (by decide +kernel) hrL) (gPN_SA (va_P_r hP) (va_D_r hD) hK hE hN hS hA) rfl rfl hl.1 rfl (lv_room (Nat.le_of_ble_eq_true rfl)) dL_law_1249 hroom) hP hD hS hA (fun v w H locs hf hP hD hS => ?_)
  obtain ⟨k, of, wr, rfl, rfl⟩ := hfL v w hf
  refine lv_istore (lv' := [(5, .int k), (0, .ref b), (1, .ref hX1), (2, .ref h8), (3, .ref oa), (4, .int (nI i))]) hx hb dL_law_1252 hl (by decide) rfl (fun ls hl => ?_)
  refine lv_aload_n hx hb dL_law_1254 rfl (lv_at hl 3 rfl) ?_
  refine g_argL C hS 1 (by decide) (lv_at hl 1 rfl) (lv_at hl 5 rfl) (by omega) e1 dL_law_1255 dL_law_1256 dL_law_1258 dL_law_1259 dL_law_1260 ?_
  refine g_argL C hS 2 (by decide) (lv_at hl 1 rfl) (lv_at hl 5 rfl) (by omega) e2 dL_law_1261 dL_law_1262 dL_law_1264 dL_law_1265 dL_law_1266 ?_
  have hP2 := va_P_sw hP
  have hD2 := va_D_sw hD
  refine g_callAr (ws := (oa, .inl (y 1, 1, .inr (.inl of))) :: wr) (wc := w8) (va_runV (As := [.int a1, .int a2]) (rest := []) ⟨hx, hb, hml, hown, hts⟩ (H8 H.size) (cwV 2 hts gL_law_X8_decided rfl hc8 hs8 (by decide +kernel) hr8) (gP_VA (va_P_r hP2) (va_D_r hD2) hK 0 he rfl) rfl rfl hl.1 rfl (lv_room (Nat.le_of_ble_eq_true rfl)) dL_law_1267 hroom) hP2 hD2 hS hA (fun v w9 H locs hf9 hP hD hS => ?_)
  obtain ⟨a9, rfl⟩ := hf8 v w9 hf9
  have hP := va_P_sw hP
  have hD := va_D_sw hD
  obtain ⟨hT, ⟨fs9, he9⟩, hcmp, kk⟩ := KK k of wr a9 w9 hf hf9
  refine lv_istore (lv' := [(6, .int a9), (5, .int k), (0, .ref b), (1, .ref hX1), (2, .ref h8), (3, .ref oa), (4, .int (nI i))]) hx hb dL_law_1270 hl (by decide) rfl (fun ls hl => ?_)
  refine lv_aload_n hx hb dL_law_1272 rfl (lv_at hl 4 rfl) ?_
  refine g_callR (v0 := .int k) (va_runV (As := []) (rest := []) ⟨hx, hb, hml, hown, hts⟩ (hT H.size) (cwV 0 hts gL_law_X8_thrown rfl rfl rfl (by decide +kernel) ⟨Nat.le_of_ble_eq_true rfl, Nat.le_of_ble_eq_true rfl⟩) (gP_VA (va_P_r (va_P_sw hP)) (va_D_r (va_D_sw hD)) hK 0 he9 rfl) rfl rfl hl.1 rfl (lv_room (Nat.le_of_ble_eq_true rfl)) dL_law_1273 hroom) ?_
  refine lv_iload hx hb dL_law_1276 (lv_at hl 1 rfl) ?_
  refine lv_icmp_eq (tgt := 1283) hx hb dL_law_1278 (by decide) (fun _ => ?_) (fun h => absurd rfl h)
  refine lv_iload hx hb dL_law_1283 (lv_at hl 1 rfl) ?_
  refine lv_if_ne (tgt := 1300) hx hb dL_law_1285 (by decide) (fun _ => ?_) (fun h0 => ?_)
  · refine lv_goto (tgt := 1823) hx hb dL_law_1300 (by decide) ?_
    exact kk H locs ls hP hD hS (lv_sub hl [2, 3, 4, 5, 6] rfl)
  · refine lv_aload_n hx hb dL_law_1288 rfl (lv_at hl 5 rfl) ?_
    refine lv_iconst (v := 0) hx hb dL_law_1289 (by decide) ?_
    refine g_lald (k := 0) hx hb hK.1 hP w9.length 1 gAt0 rfl (by decide) (by decide) dL_law_1290 ?_
    refine lv_iload hx hb dL_law_1291 (lv_at hl 0 rfl) ?_
    refine lv_i2l (v := a9.toInt64) hx hb dL_law_1293 rfl ?_
    refine g_eq (tgt := 1300) hx hb dL_law_1294 dL_law_1295 (by decide) (fun _ => ?_) (fun h => absurd (hcmp h0) h)
    refine lv_goto (tgt := 1823) hx hb dL_law_1300 (by decide) ?_
    exact kk H locs ls hP hD hS (lv_sub hl [2, 3, 4, 5, 6] rfl)
set_option maxRecDepth 4000 in
theorem lz_decimals (C : lwC p l s m meth c b L xs D y ad) {i : Nat} (hi : i + 7 ≤ L) {hX1 h8 oa : Nat} {a1 : Int32} {a2 : Int32} (e1 : xs (i + 1) = a1) (e2 : xs (i + 2) = a2) (hl : lv_has ls 8 [(0, .ref b), (1, .ref hX1), (2, .ref h8), (3, .ref oa), (4, .int (nI i))]) {wX1 w8 : va_W} (hP : va_P D vwCl (w8 ++ wX1) H) (hD : va_D (lA s) (w8 ++ wX1)) (hS : va_S (lA s) s.heap H locs) {fs : List Value} (he : w8[0]? = some (h8, .inr (6, fs)))
    {rmL rm8 : Room} {mc ms : Nat} {fL f8 : Option Value → va_W → Prop} (HL : ∀ sz, Met l yL_decimals wsL_decimals rmL (gPN D y ad [.ref hX1, .int a1, .int a2, .ref oa] wX1 sz) (gQn D wX1 fL) mc ms (va_A wX1 sz)) (hcL : rmL.cells = mc) (hsL : rmL.slots = ms) (hrL : rmL.frames + 1 ≤ 13 ∧ 8 + (5 + 11) + rmL.locals ≤ 502) (hroom : cells + mc ≤ 601024 ∧ slots + ms ≤ 7293034)
    (H8 : ∀ sz, Met l yX8_decimals wsX8_decimals rm8 (gP D y (.ref h8 :: [.int a1, .int a2]) w8 sz) (gQ D w8 f8) 0 0 (va_A w8 sz)) (hc8 : rm8.cells = 0) (hs8 : rm8.slots = 0) (hr8 : rm8.frames + 1 ≤ 13 ∧ 8 + (3 + 11) + rm8.locals ≤ 502)
    (hfL : ∀ v w, fL v w → ∃ (k : Int32) (of : Nat → Int64) (wr : va_W), v = some (.int k) ∧ w = (oa, .inl (y 1, 1, .inr (.inl of))) :: wr) (hf8 : ∀ v w, f8 v w → ∃ a9 : Int32, v = some (.int a9))
    (KK : ∀ (k : Int32) (of : Nat → Int64) (wr : va_W) (a9 : Int32) (w9 : va_W), fL (some (.int k)) ((oa, .inl (y 1, 1, .inr (.inl of))) :: wr) → f8 (some (.int a9)) w9 →
      (∀ sz, Met l yX8_thrown wsX8_thrown ({ frames := 0, cells := 0, slots := 0, locals := 0 } : Room) (gP D y [.ref h8] w9 sz) (gR (.int k)) 0 0 (fun _ => False)) ∧ (∃ fs9 : List Value, w9[0]? = some (h8, .inr (6, fs9))) ∧ (k = 0 → of 0 = a9.toInt64) ∧
      ∀ (H : Heap) (locs : List Loc) (ls : Array Slot), va_P D vwCl (w9 ++ (oa, .inl (y 1, 1, .inr (.inl of))) :: wr) H → va_D (lA s) (w9 ++ (oa, .inl (y 1, 1, .inr (.inl of))) :: wr) → va_S (lA s) s.heap H locs → lv_has ls 8 [(0, .ref b), (1, .ref hX1), (2, .ref h8), (3, .ref oa), (4, .int (nI i))] → W p l e room_1 s m #[Value.ref b] below meth c H locs (cells + mc) (slots + ms) Q (F0 m 1823 ls [])) :
    W p l e room_1 s m #[Value.ref b] below meth c H locs cells slots Q (F0 m 1303 ls []) := by
  obtain ⟨⟨hx, hb, hml, hown, hts⟩, ⟨hX, hbl, hL⟩, hK, hE, hN, hfl⟩ := id C
  have hA : ∀ q : Nat, s.heap.size ≤ q → lA s q := fun _ h => h
  refine lv_aload_n hx hb dL_law_1303 rfl (lv_at hl 1 rfl) ?_
  refine g_argL C hS 1 (by decide) (lv_at hl 0 rfl) (lv_at hl 4 rfl) (by omega) e1 dL_law_1304 dL_law_1305 dL_law_1307 dL_law_1308 dL_law_1309 ?_
  refine g_argL C hS 2 (by decide) (lv_at hl 0 rfl) (lv_at hl 4 rfl) (by omega) e2 dL_law_1310 dL_law_1311 dL_law_1313 dL_law_1314 dL_law_1315 ?_
  refine lv_aload_n hx hb dL_law_1316 rfl (lv_at hl 3 rfl) ?_
  refine g_callN (ws := w8) (wc := wX1) (vx_runSW (As := [.ref hX1, .int a1, .int a2, .ref oa]) (rest := []) ⟨hx, hb, hml, hown, hts⟩ (HL H.size) (vx_cwSW 4 hts gL_law_L_decimals rfl hcL hsL (by decide +kernel) hrL) (gPN_SA (va_P_r hP) (va_D_r hD) hK hE hN hS hA) rfl rfl hl.1 rfl (lv_room (Nat.le_of_ble_eq_true rfl)) dL_law_1317 hroom) hP hD hS hA (fun v w H locs hf hP hD hS => ?_)
  obtain ⟨k, of, wr, rfl, rfl⟩ := hfL v w hf
  refine lv_istore (lv' := [(5, .int k), (0, .ref b), (1, .ref hX1), (2, .ref h8), (3, .ref oa), (4, .int (nI i))]) hx hb dL_law_1320 hl (by decide) rfl (fun ls hl => ?_)
  refine lv_aload_n hx hb dL_law_1322 rfl (lv_at hl 3 rfl) ?_
  refine g_argL C hS 1 (by decide) (lv_at hl 1 rfl) (lv_at hl 5 rfl) (by omega) e1 dL_law_1323 dL_law_1324 dL_law_1326 dL_law_1327 dL_law_1328 ?_
  refine g_argL C hS 2 (by decide) (lv_at hl 1 rfl) (lv_at hl 5 rfl) (by omega) e2 dL_law_1329 dL_law_1330 dL_law_1332 dL_law_1333 dL_law_1334 ?_
  have hP2 := va_P_sw hP
  have hD2 := va_D_sw hD
  refine g_callAr (ws := (oa, .inl (y 1, 1, .inr (.inl of))) :: wr) (wc := w8) (va_runV (As := [.int a1, .int a2]) (rest := []) ⟨hx, hb, hml, hown, hts⟩ (H8 H.size) (cwV 2 hts gL_law_X8_decimals rfl hc8 hs8 (by decide +kernel) hr8) (gP_VA (va_P_r hP2) (va_D_r hD2) hK 0 he rfl) rfl rfl hl.1 rfl (lv_room (Nat.le_of_ble_eq_true rfl)) dL_law_1335 hroom) hP2 hD2 hS hA (fun v w9 H locs hf9 hP hD hS => ?_)
  obtain ⟨a9, rfl⟩ := hf8 v w9 hf9
  have hP := va_P_sw hP
  have hD := va_D_sw hD
  obtain ⟨hT, ⟨fs9, he9⟩, hcmp, kk⟩ := KK k of wr a9 w9 hf hf9
  refine lv_istore (lv' := [(6, .int a9), (5, .int k), (0, .ref b), (1, .ref hX1), (2, .ref h8), (3, .ref oa), (4, .int (nI i))]) hx hb dL_law_1338 hl (by decide) rfl (fun ls hl => ?_)
  refine lv_aload_n hx hb dL_law_1340 rfl (lv_at hl 4 rfl) ?_
  refine g_callR (v0 := .int k) (va_runV (As := []) (rest := []) ⟨hx, hb, hml, hown, hts⟩ (hT H.size) (cwV 0 hts gL_law_X8_thrown rfl rfl rfl (by decide +kernel) ⟨Nat.le_of_ble_eq_true rfl, Nat.le_of_ble_eq_true rfl⟩) (gP_VA (va_P_r (va_P_sw hP)) (va_D_r (va_D_sw hD)) hK 0 he9 rfl) rfl rfl hl.1 rfl (lv_room (Nat.le_of_ble_eq_true rfl)) dL_law_1341 hroom) ?_
  refine lv_iload hx hb dL_law_1344 (lv_at hl 1 rfl) ?_
  refine lv_icmp_eq (tgt := 1351) hx hb dL_law_1346 (by decide) (fun _ => ?_) (fun h => absurd rfl h)
  refine lv_iload hx hb dL_law_1351 (lv_at hl 1 rfl) ?_
  refine lv_if_ne (tgt := 1368) hx hb dL_law_1353 (by decide) (fun _ => ?_) (fun h0 => ?_)
  · refine lv_goto (tgt := 1823) hx hb dL_law_1368 (by decide) ?_
    exact kk H locs ls hP hD hS (lv_sub hl [2, 3, 4, 5, 6] rfl)
  · refine lv_aload_n hx hb dL_law_1356 rfl (lv_at hl 5 rfl) ?_
    refine lv_iconst (v := 0) hx hb dL_law_1357 (by decide) ?_
    refine g_lald (k := 0) hx hb hK.1 hP w9.length 1 gAt0 rfl (by decide) (by decide) dL_law_1358 ?_
    refine lv_iload hx hb dL_law_1359 (lv_at hl 0 rfl) ?_
    refine lv_i2l (v := a9.toInt64) hx hb dL_law_1361 rfl ?_
    refine g_eq (tgt := 1368) hx hb dL_law_1362 dL_law_1363 (by decide) (fun _ => ?_) (fun h => absurd (hcmp h0) h)
    refine lv_goto (tgt := 1823) hx hb dL_law_1368 (by decide) ?_
    exact kk H locs ls hP hD hS (lv_sub hl [2, 3, 4, 5, 6] rfl)
set_option maxRecDepth 4000 in
theorem lz_decimal (C : lwC p l s m meth c b L xs D y ad) {i : Nat} (hi : i + 7 ≤ L) {hX1 h8 oa : Nat} {a1 : Int32} {a2 : Int32} {a3 : Int32} (e1 : xs (i + 1) = a1) (e2 : xs (i + 2) = a2) (e3 : xs (i + 3) = a3) (hl : lv_has ls 8 [(0, .ref b), (1, .ref hX1), (2, .ref h8), (3, .ref oa), (4, .int (nI i))]) {wX1 w8 : va_W} (hP : va_P D vwCl (w8 ++ wX1) H) (hD : va_D (lA s) (w8 ++ wX1)) (hS : va_S (lA s) s.heap H locs) {fs : List Value} (he : w8[0]? = some (h8, .inr (6, fs)))
    {rmL rm8 : Room} {mc ms : Nat} {fL f8 : Option Value → va_W → Prop} (HL : ∀ sz, Met l yL_decimal wsL_decimal rmL (gPN D y ad [.ref hX1, .int a1, .int a2, .int a3, .ref oa] wX1 sz) (gQn D wX1 fL) mc ms (va_A wX1 sz)) (hcL : rmL.cells = mc) (hsL : rmL.slots = ms) (hrL : rmL.frames + 1 ≤ 13 ∧ 8 + (6 + 11) + rmL.locals ≤ 502) (hroom : cells + mc ≤ 601024 ∧ slots + ms ≤ 7293034)
    (H8 : ∀ sz, Met l yX8_decimal wsX8_decimal rm8 (gP D y (.ref h8 :: [.int a1, .int a2, .int a3]) w8 sz) (gQ D w8 f8) 0 0 (va_A w8 sz)) (hc8 : rm8.cells = 0) (hs8 : rm8.slots = 0) (hr8 : rm8.frames + 1 ≤ 13 ∧ 8 + (8 + 11) + rm8.locals ≤ 502)
    (hfL : ∀ v w, fL v w → ∃ (k : Int32) (of : Nat → Int64) (wr : va_W), v = some (.int k) ∧ w = (oa, .inl (y 1, 1, .inr (.inl of))) :: wr) (hf8 : ∀ v w, f8 v w → ∃ a9 : Int32, v = some (.int a9))
    (KK : ∀ (k : Int32) (of : Nat → Int64) (wr : va_W) (a9 : Int32) (w9 : va_W), fL (some (.int k)) ((oa, .inl (y 1, 1, .inr (.inl of))) :: wr) → f8 (some (.int a9)) w9 →
      (∀ sz, Met l yX8_thrown wsX8_thrown ({ frames := 0, cells := 0, slots := 0, locals := 0 } : Room) (gP D y [.ref h8] w9 sz) (gR (.int k)) 0 0 (fun _ => False)) ∧ (∃ fs9 : List Value, w9[0]? = some (h8, .inr (6, fs9))) ∧ (k = 0 → of 0 = a9.toInt64) ∧
      ∀ (H : Heap) (locs : List Loc) (ls : Array Slot), va_P D vwCl (w9 ++ (oa, .inl (y 1, 1, .inr (.inl of))) :: wr) H → va_D (lA s) (w9 ++ (oa, .inl (y 1, 1, .inr (.inl of))) :: wr) → va_S (lA s) s.heap H locs → lv_has ls 8 [(0, .ref b), (1, .ref hX1), (2, .ref h8), (3, .ref oa), (4, .int (nI i))] → W p l e room_1 s m #[Value.ref b] below meth c H locs (cells + mc) (slots + ms) Q (F0 m 1823 ls [])) :
    W p l e room_1 s m #[Value.ref b] below meth c H locs cells slots Q (F0 m 1371 ls []) := by
  obtain ⟨⟨hx, hb, hml, hown, hts⟩, ⟨hX, hbl, hL⟩, hK, hE, hN, hfl⟩ := id C
  have hA : ∀ q : Nat, s.heap.size ≤ q → lA s q := fun _ h => h
  refine lv_aload_n hx hb dL_law_1371 rfl (lv_at hl 1 rfl) ?_
  refine g_argL C hS 1 (by decide) (lv_at hl 0 rfl) (lv_at hl 4 rfl) (by omega) e1 dL_law_1372 dL_law_1373 dL_law_1375 dL_law_1376 dL_law_1377 ?_
  refine g_argL C hS 2 (by decide) (lv_at hl 0 rfl) (lv_at hl 4 rfl) (by omega) e2 dL_law_1378 dL_law_1379 dL_law_1381 dL_law_1382 dL_law_1383 ?_
  refine g_argL C hS 3 (by decide) (lv_at hl 0 rfl) (lv_at hl 4 rfl) (by omega) e3 dL_law_1384 dL_law_1385 dL_law_1387 dL_law_1388 dL_law_1389 ?_
  refine lv_aload_n hx hb dL_law_1390 rfl (lv_at hl 3 rfl) ?_
  refine g_callN (ws := w8) (wc := wX1) (vx_runSW (As := [.ref hX1, .int a1, .int a2, .int a3, .ref oa]) (rest := []) ⟨hx, hb, hml, hown, hts⟩ (HL H.size) (vx_cwSW 5 hts gL_law_L_decimal rfl hcL hsL (by decide +kernel) hrL) (gPN_SA (va_P_r hP) (va_D_r hD) hK hE hN hS hA) rfl rfl hl.1 rfl (lv_room (Nat.le_of_ble_eq_true rfl)) dL_law_1391 hroom) hP hD hS hA (fun v w H locs hf hP hD hS => ?_)
  obtain ⟨k, of, wr, rfl, rfl⟩ := hfL v w hf
  refine lv_istore (lv' := [(5, .int k), (0, .ref b), (1, .ref hX1), (2, .ref h8), (3, .ref oa), (4, .int (nI i))]) hx hb dL_law_1394 hl (by decide) rfl (fun ls hl => ?_)
  refine lv_aload_n hx hb dL_law_1396 rfl (lv_at hl 3 rfl) ?_
  refine g_argL C hS 1 (by decide) (lv_at hl 1 rfl) (lv_at hl 5 rfl) (by omega) e1 dL_law_1397 dL_law_1398 dL_law_1400 dL_law_1401 dL_law_1402 ?_
  refine g_argL C hS 2 (by decide) (lv_at hl 1 rfl) (lv_at hl 5 rfl) (by omega) e2 dL_law_1403 dL_law_1404 dL_law_1406 dL_law_1407 dL_law_1408 ?_
  refine g_argL C hS 3 (by decide) (lv_at hl 1 rfl) (lv_at hl 5 rfl) (by omega) e3 dL_law_1409 dL_law_1410 dL_law_1412 dL_law_1413 dL_law_1414 ?_
  have hP2 := va_P_sw hP
  have hD2 := va_D_sw hD
  refine g_callAr (ws := (oa, .inl (y 1, 1, .inr (.inl of))) :: wr) (wc := w8) (va_runV (As := [.int a1, .int a2, .int a3]) (rest := []) ⟨hx, hb, hml, hown, hts⟩ (H8 H.size) (cwV 3 hts gL_law_X8_decimal rfl hc8 hs8 (by decide +kernel) hr8) (gP_VA (va_P_r hP2) (va_D_r hD2) hK 0 he rfl) rfl rfl hl.1 rfl (lv_room (Nat.le_of_ble_eq_true rfl)) dL_law_1415 hroom) hP2 hD2 hS hA (fun v w9 H locs hf9 hP hD hS => ?_)
  obtain ⟨a9, rfl⟩ := hf8 v w9 hf9
  have hP := va_P_sw hP
  have hD := va_D_sw hD
  obtain ⟨hT, ⟨fs9, he9⟩, hcmp, kk⟩ := KK k of wr a9 w9 hf hf9
  refine lv_istore (lv' := [(6, .int a9), (5, .int k), (0, .ref b), (1, .ref hX1), (2, .ref h8), (3, .ref oa), (4, .int (nI i))]) hx hb dL_law_1418 hl (by decide) rfl (fun ls hl => ?_)
  refine lv_aload_n hx hb dL_law_1420 rfl (lv_at hl 4 rfl) ?_
  refine g_callR (v0 := .int k) (va_runV (As := []) (rest := []) ⟨hx, hb, hml, hown, hts⟩ (hT H.size) (cwV 0 hts gL_law_X8_thrown rfl rfl rfl (by decide +kernel) ⟨Nat.le_of_ble_eq_true rfl, Nat.le_of_ble_eq_true rfl⟩) (gP_VA (va_P_r (va_P_sw hP)) (va_D_r (va_D_sw hD)) hK 0 he9 rfl) rfl rfl hl.1 rfl (lv_room (Nat.le_of_ble_eq_true rfl)) dL_law_1421 hroom) ?_
  refine lv_iload hx hb dL_law_1424 (lv_at hl 1 rfl) ?_
  refine lv_icmp_eq (tgt := 1431) hx hb dL_law_1426 (by decide) (fun _ => ?_) (fun h => absurd rfl h)
  refine lv_iload hx hb dL_law_1431 (lv_at hl 1 rfl) ?_
  refine lv_if_ne (tgt := 1448) hx hb dL_law_1433 (by decide) (fun _ => ?_) (fun h0 => ?_)
  · refine lv_goto (tgt := 1823) hx hb dL_law_1448 (by decide) ?_
    exact kk H locs ls hP hD hS (lv_sub hl [2, 3, 4, 5, 6] rfl)
  · refine lv_aload_n hx hb dL_law_1436 rfl (lv_at hl 5 rfl) ?_
    refine lv_iconst (v := 0) hx hb dL_law_1437 (by decide) ?_
    refine g_lald (k := 0) hx hb hK.1 hP w9.length 1 gAt0 rfl (by decide) (by decide) dL_law_1438 ?_
    refine lv_iload hx hb dL_law_1439 (lv_at hl 0 rfl) ?_
    refine lv_i2l (v := a9.toInt64) hx hb dL_law_1441 rfl ?_
    refine g_eq (tgt := 1448) hx hb dL_law_1442 dL_law_1443 (by decide) (fun _ => ?_) (fun h => absurd (hcmp h0) h)
    refine lv_goto (tgt := 1823) hx hb dL_law_1448 (by decide) ?_
    exact kk H locs ls hP hD hS (lv_sub hl [2, 3, 4, 5, 6] rfl)
set_option maxRecDepth 4000 in
theorem lz_quotient (C : lwC p l s m meth c b L xs D y ad) {i : Nat} (hi : i + 7 ≤ L) {hX1 h8 oa : Nat} {a1 : Int32} {a2 : Int32} {a3 : Int32} (e1 : xs (i + 1) = a1) (e2 : xs (i + 2) = a2) (e3 : xs (i + 3) = a3) (hl : lv_has ls 8 [(0, .ref b), (1, .ref hX1), (2, .ref h8), (3, .ref oa), (4, .int (nI i))]) {wX1 w8 : va_W} (hP : va_P D vwCl (w8 ++ wX1) H) (hD : va_D (lA s) (w8 ++ wX1)) (hS : va_S (lA s) s.heap H locs) {fs : List Value} (he : w8[0]? = some (h8, .inr (6, fs)))
    {rmL rm8 : Room} {mc ms : Nat} {fL f8 : Option Value → va_W → Prop} (HL : ∀ sz, Met l yL_quotient wsL_quotient rmL (gPN D y ad [.ref hX1, .int a1, .int a2, .int a3, .ref oa] wX1 sz) (gQn D wX1 fL) mc ms (va_A wX1 sz)) (hcL : rmL.cells = mc) (hsL : rmL.slots = ms) (hrL : rmL.frames + 1 ≤ 13 ∧ 8 + (6 + 11) + rmL.locals ≤ 502) (hroom : cells + mc ≤ 601024 ∧ slots + ms ≤ 7293034)
    (H8 : ∀ sz, Met l yX8_quotient wsX8_quotient rm8 (gP D y (.ref h8 :: [.int a1, .int a2, .int a3]) w8 sz) (gQ D w8 f8) 0 0 (va_A w8 sz)) (hc8 : rm8.cells = 0) (hs8 : rm8.slots = 0) (hr8 : rm8.frames + 1 ≤ 13 ∧ 8 + (22 + 11) + rm8.locals ≤ 502)
    (hfL : ∀ v w, fL v w → ∃ (k : Int32) (of : Nat → Int64) (wr : va_W), v = some (.int k) ∧ w = (oa, .inl (y 1, 1, .inr (.inl of))) :: wr) (hf8 : ∀ v w, f8 v w → ∃ a9 : Int32, v = some (.int a9))
    (KK : ∀ (k : Int32) (of : Nat → Int64) (wr : va_W) (a9 : Int32) (w9 : va_W), fL (some (.int k)) ((oa, .inl (y 1, 1, .inr (.inl of))) :: wr) → f8 (some (.int a9)) w9 →
      (∀ sz, Met l yX8_thrown wsX8_thrown ({ frames := 0, cells := 0, slots := 0, locals := 0 } : Room) (gP D y [.ref h8] w9 sz) (gR (.int k)) 0 0 (fun _ => False)) ∧ (∃ fs9 : List Value, w9[0]? = some (h8, .inr (6, fs9))) ∧ (k = 0 → of 0 = a9.toInt64) ∧
      ∀ (H : Heap) (locs : List Loc) (ls : Array Slot), va_P D vwCl (w9 ++ (oa, .inl (y 1, 1, .inr (.inl of))) :: wr) H → va_D (lA s) (w9 ++ (oa, .inl (y 1, 1, .inr (.inl of))) :: wr) → va_S (lA s) s.heap H locs → lv_has ls 8 [(0, .ref b), (1, .ref hX1), (2, .ref h8), (3, .ref oa), (4, .int (nI i))] → W p l e room_1 s m #[Value.ref b] below meth c H locs (cells + mc) (slots + ms) Q (F0 m 1823 ls [])) :
    W p l e room_1 s m #[Value.ref b] below meth c H locs cells slots Q (F0 m 1451 ls []) := by
  obtain ⟨⟨hx, hb, hml, hown, hts⟩, ⟨hX, hbl, hL⟩, hK, hE, hN, hfl⟩ := id C
  have hA : ∀ q : Nat, s.heap.size ≤ q → lA s q := fun _ h => h
  refine lv_aload_n hx hb dL_law_1451 rfl (lv_at hl 1 rfl) ?_
  refine g_argL C hS 1 (by decide) (lv_at hl 0 rfl) (lv_at hl 4 rfl) (by omega) e1 dL_law_1452 dL_law_1453 dL_law_1455 dL_law_1456 dL_law_1457 ?_
  refine g_argL C hS 2 (by decide) (lv_at hl 0 rfl) (lv_at hl 4 rfl) (by omega) e2 dL_law_1458 dL_law_1459 dL_law_1461 dL_law_1462 dL_law_1463 ?_
  refine g_argL C hS 3 (by decide) (lv_at hl 0 rfl) (lv_at hl 4 rfl) (by omega) e3 dL_law_1464 dL_law_1465 dL_law_1467 dL_law_1468 dL_law_1469 ?_
  refine lv_aload_n hx hb dL_law_1470 rfl (lv_at hl 3 rfl) ?_
  refine g_callN (ws := w8) (wc := wX1) (vx_runSW (As := [.ref hX1, .int a1, .int a2, .int a3, .ref oa]) (rest := []) ⟨hx, hb, hml, hown, hts⟩ (HL H.size) (vx_cwSW 5 hts gL_law_L_quotient rfl hcL hsL (by decide +kernel) hrL) (gPN_SA (va_P_r hP) (va_D_r hD) hK hE hN hS hA) rfl rfl hl.1 rfl (lv_room (Nat.le_of_ble_eq_true rfl)) dL_law_1471 hroom) hP hD hS hA (fun v w H locs hf hP hD hS => ?_)
  obtain ⟨k, of, wr, rfl, rfl⟩ := hfL v w hf
  refine lv_istore (lv' := [(5, .int k), (0, .ref b), (1, .ref hX1), (2, .ref h8), (3, .ref oa), (4, .int (nI i))]) hx hb dL_law_1474 hl (by decide) rfl (fun ls hl => ?_)
  refine lv_aload_n hx hb dL_law_1476 rfl (lv_at hl 3 rfl) ?_
  refine g_argL C hS 1 (by decide) (lv_at hl 1 rfl) (lv_at hl 5 rfl) (by omega) e1 dL_law_1477 dL_law_1478 dL_law_1480 dL_law_1481 dL_law_1482 ?_
  refine g_argL C hS 2 (by decide) (lv_at hl 1 rfl) (lv_at hl 5 rfl) (by omega) e2 dL_law_1483 dL_law_1484 dL_law_1486 dL_law_1487 dL_law_1488 ?_
  refine g_argL C hS 3 (by decide) (lv_at hl 1 rfl) (lv_at hl 5 rfl) (by omega) e3 dL_law_1489 dL_law_1490 dL_law_1492 dL_law_1493 dL_law_1494 ?_
  have hP2 := va_P_sw hP
  have hD2 := va_D_sw hD
  refine g_callAr (ws := (oa, .inl (y 1, 1, .inr (.inl of))) :: wr) (wc := w8) (va_runV (As := [.int a1, .int a2, .int a3]) (rest := []) ⟨hx, hb, hml, hown, hts⟩ (H8 H.size) (cwV 3 hts gL_law_X8_quotient rfl hc8 hs8 (by decide +kernel) hr8) (gP_VA (va_P_r hP2) (va_D_r hD2) hK 0 he rfl) rfl rfl hl.1 rfl (lv_room (Nat.le_of_ble_eq_true rfl)) dL_law_1495 hroom) hP2 hD2 hS hA (fun v w9 H locs hf9 hP hD hS => ?_)
  obtain ⟨a9, rfl⟩ := hf8 v w9 hf9
  have hP := va_P_sw hP
  have hD := va_D_sw hD
  obtain ⟨hT, ⟨fs9, he9⟩, hcmp, kk⟩ := KK k of wr a9 w9 hf hf9
  refine lv_istore (lv' := [(6, .int a9), (5, .int k), (0, .ref b), (1, .ref hX1), (2, .ref h8), (3, .ref oa), (4, .int (nI i))]) hx hb dL_law_1498 hl (by decide) rfl (fun ls hl => ?_)
  refine lv_aload_n hx hb dL_law_1500 rfl (lv_at hl 4 rfl) ?_
  refine g_callR (v0 := .int k) (va_runV (As := []) (rest := []) ⟨hx, hb, hml, hown, hts⟩ (hT H.size) (cwV 0 hts gL_law_X8_thrown rfl rfl rfl (by decide +kernel) ⟨Nat.le_of_ble_eq_true rfl, Nat.le_of_ble_eq_true rfl⟩) (gP_VA (va_P_r (va_P_sw hP)) (va_D_r (va_D_sw hD)) hK 0 he9 rfl) rfl rfl hl.1 rfl (lv_room (Nat.le_of_ble_eq_true rfl)) dL_law_1501 hroom) ?_
  refine lv_iload hx hb dL_law_1504 (lv_at hl 1 rfl) ?_
  refine lv_icmp_eq (tgt := 1511) hx hb dL_law_1506 (by decide) (fun _ => ?_) (fun h => absurd rfl h)
  refine lv_iload hx hb dL_law_1511 (lv_at hl 1 rfl) ?_
  refine lv_if_ne (tgt := 1528) hx hb dL_law_1513 (by decide) (fun _ => ?_) (fun h0 => ?_)
  · refine lv_goto (tgt := 1823) hx hb dL_law_1528 (by decide) ?_
    exact kk H locs ls hP hD hS (lv_sub hl [2, 3, 4, 5, 6] rfl)
  · refine lv_aload_n hx hb dL_law_1516 rfl (lv_at hl 5 rfl) ?_
    refine lv_iconst (v := 0) hx hb dL_law_1517 (by decide) ?_
    refine g_lald (k := 0) hx hb hK.1 hP w9.length 1 gAt0 rfl (by decide) (by decide) dL_law_1518 ?_
    refine lv_iload hx hb dL_law_1519 (lv_at hl 0 rfl) ?_
    refine lv_i2l (v := a9.toInt64) hx hb dL_law_1521 rfl ?_
    refine g_eq (tgt := 1528) hx hb dL_law_1522 dL_law_1523 (by decide) (fun _ => ?_) (fun h => absurd (hcmp h0) h)
    refine lv_goto (tgt := 1823) hx hb dL_law_1528 (by decide) ?_
    exact kk H locs ls hP hD hS (lv_sub hl [2, 3, 4, 5, 6] rfl)
set_option maxRecDepth 4000 in
theorem lz_next (C : lwC p l s m meth c b L xs D y ad) {i : Nat} (hi : i + 7 ≤ L) {hX1 h8 oa : Nat} {a1 : Int32} (e1 : xs (i + 1) = a1) (hl : lv_has ls 8 [(0, .ref b), (1, .ref hX1), (2, .ref h8), (3, .ref oa), (4, .int (nI i))]) {wX1 w8 : va_W} (hP : va_P D vwCl (w8 ++ wX1) H) (hD : va_D (lA s) (w8 ++ wX1)) (hS : va_S (lA s) s.heap H locs) {fs : List Value} (he : w8[0]? = some (h8, .inr (6, fs)))
    {rmL rm8 : Room} {mc ms : Nat} {fL f8 : Option Value → va_W → Prop} (HL : ∀ sz, Met l yL_next wsL_next rmL (gPN D y ad [.ref hX1, .int a1, .ref oa] wX1 sz) (gQn D wX1 fL) mc ms (va_A wX1 sz)) (hcL : rmL.cells = mc) (hsL : rmL.slots = ms) (hrL : rmL.frames + 1 ≤ 13 ∧ 8 + (4 + 11) + rmL.locals ≤ 502) (hroom : cells + mc ≤ 601024 ∧ slots + ms ≤ 7293034)
    (H8 : ∀ sz, Met l yX8_next wsX8_next rm8 (gP D y (.ref h8 :: [.int a1]) w8 sz) (gQ D w8 f8) 0 0 (va_A w8 sz)) (hc8 : rm8.cells = 0) (hs8 : rm8.slots = 0) (hr8 : rm8.frames + 1 ≤ 13 ∧ 8 + (5 + 11) + rm8.locals ≤ 502)
    (hfL : ∀ v w, fL v w → ∃ (k : Int32) (of : Nat → Int64) (wr : va_W), v = some (.int k) ∧ w = (oa, .inl (y 1, 1, .inr (.inl of))) :: wr) (hf8 : ∀ v w, f8 v w → ∃ a9 : Int32, v = some (.int a9))
    (KK : ∀ (k : Int32) (of : Nat → Int64) (wr : va_W) (a9 : Int32) (w9 : va_W), fL (some (.int k)) ((oa, .inl (y 1, 1, .inr (.inl of))) :: wr) → f8 (some (.int a9)) w9 →
      (∀ sz, Met l yX8_thrown wsX8_thrown ({ frames := 0, cells := 0, slots := 0, locals := 0 } : Room) (gP D y [.ref h8] w9 sz) (gR (.int k)) 0 0 (fun _ => False)) ∧ (∃ fs9 : List Value, w9[0]? = some (h8, .inr (6, fs9))) ∧ (k = 0 → of 0 = a9.toInt64) ∧
      ∀ (H : Heap) (locs : List Loc) (ls : Array Slot), va_P D vwCl (w9 ++ (oa, .inl (y 1, 1, .inr (.inl of))) :: wr) H → va_D (lA s) (w9 ++ (oa, .inl (y 1, 1, .inr (.inl of))) :: wr) → va_S (lA s) s.heap H locs → lv_has ls 8 [(0, .ref b), (1, .ref hX1), (2, .ref h8), (3, .ref oa), (4, .int (nI i))] → W p l e room_1 s m #[Value.ref b] below meth c H locs (cells + mc) (slots + ms) Q (F0 m 1823 ls [])) :
    W p l e room_1 s m #[Value.ref b] below meth c H locs cells slots Q (F0 m 1531 ls []) := by
  obtain ⟨⟨hx, hb, hml, hown, hts⟩, ⟨hX, hbl, hL⟩, hK, hE, hN, hfl⟩ := id C
  have hA : ∀ q : Nat, s.heap.size ≤ q → lA s q := fun _ h => h
  refine lv_aload_n hx hb dL_law_1531 rfl (lv_at hl 1 rfl) ?_
  refine g_argL C hS 1 (by decide) (lv_at hl 0 rfl) (lv_at hl 4 rfl) (by omega) e1 dL_law_1532 dL_law_1533 dL_law_1535 dL_law_1536 dL_law_1537 ?_
  refine lv_aload_n hx hb dL_law_1538 rfl (lv_at hl 3 rfl) ?_
  refine g_callN (ws := w8) (wc := wX1) (vx_runSW (As := [.ref hX1, .int a1, .ref oa]) (rest := []) ⟨hx, hb, hml, hown, hts⟩ (HL H.size) (vx_cwSW 3 hts gL_law_L_next rfl hcL hsL (by decide +kernel) hrL) (gPN_SA (va_P_r hP) (va_D_r hD) hK hE hN hS hA) rfl rfl hl.1 rfl (lv_room (Nat.le_of_ble_eq_true rfl)) dL_law_1539 hroom) hP hD hS hA (fun v w H locs hf hP hD hS => ?_)
  obtain ⟨k, of, wr, rfl, rfl⟩ := hfL v w hf
  refine lv_istore (lv' := [(5, .int k), (0, .ref b), (1, .ref hX1), (2, .ref h8), (3, .ref oa), (4, .int (nI i))]) hx hb dL_law_1542 hl (by decide) rfl (fun ls hl => ?_)
  refine lv_aload_n hx hb dL_law_1544 rfl (lv_at hl 3 rfl) ?_
  refine g_argL C hS 1 (by decide) (lv_at hl 1 rfl) (lv_at hl 5 rfl) (by omega) e1 dL_law_1545 dL_law_1546 dL_law_1548 dL_law_1549 dL_law_1550 ?_
  have hP2 := va_P_sw hP
  have hD2 := va_D_sw hD
  refine g_callAr (ws := (oa, .inl (y 1, 1, .inr (.inl of))) :: wr) (wc := w8) (va_runV (As := [.int a1]) (rest := []) ⟨hx, hb, hml, hown, hts⟩ (H8 H.size) (cwV 1 hts gL_law_X8_next rfl hc8 hs8 (by decide +kernel) hr8) (gP_VA (va_P_r hP2) (va_D_r hD2) hK 0 he rfl) rfl rfl hl.1 rfl (lv_room (Nat.le_of_ble_eq_true rfl)) dL_law_1551 hroom) hP2 hD2 hS hA (fun v w9 H locs hf9 hP hD hS => ?_)
  obtain ⟨a9, rfl⟩ := hf8 v w9 hf9
  have hP := va_P_sw hP
  have hD := va_D_sw hD
  obtain ⟨hT, ⟨fs9, he9⟩, hcmp, kk⟩ := KK k of wr a9 w9 hf hf9
  refine lv_istore (lv' := [(6, .int a9), (5, .int k), (0, .ref b), (1, .ref hX1), (2, .ref h8), (3, .ref oa), (4, .int (nI i))]) hx hb dL_law_1554 hl (by decide) rfl (fun ls hl => ?_)
  refine lv_aload_n hx hb dL_law_1556 rfl (lv_at hl 4 rfl) ?_
  refine g_callR (v0 := .int k) (va_runV (As := []) (rest := []) ⟨hx, hb, hml, hown, hts⟩ (hT H.size) (cwV 0 hts gL_law_X8_thrown rfl rfl rfl (by decide +kernel) ⟨Nat.le_of_ble_eq_true rfl, Nat.le_of_ble_eq_true rfl⟩) (gP_VA (va_P_r (va_P_sw hP)) (va_D_r (va_D_sw hD)) hK 0 he9 rfl) rfl rfl hl.1 rfl (lv_room (Nat.le_of_ble_eq_true rfl)) dL_law_1557 hroom) ?_
  refine lv_iload hx hb dL_law_1560 (lv_at hl 1 rfl) ?_
  refine lv_icmp_eq (tgt := 1567) hx hb dL_law_1562 (by decide) (fun _ => ?_) (fun h => absurd rfl h)
  refine lv_iload hx hb dL_law_1567 (lv_at hl 1 rfl) ?_
  refine lv_if_ne (tgt := 1584) hx hb dL_law_1569 (by decide) (fun _ => ?_) (fun h0 => ?_)
  · refine lv_goto (tgt := 1823) hx hb dL_law_1584 (by decide) ?_
    exact kk H locs ls hP hD hS (lv_sub hl [2, 3, 4, 5, 6] rfl)
  · refine lv_aload_n hx hb dL_law_1572 rfl (lv_at hl 5 rfl) ?_
    refine lv_iconst (v := 0) hx hb dL_law_1573 (by decide) ?_
    refine g_lald (k := 0) hx hb hK.1 hP w9.length 1 gAt0 rfl (by decide) (by decide) dL_law_1574 ?_
    refine lv_iload hx hb dL_law_1575 (lv_at hl 0 rfl) ?_
    refine lv_i2l (v := a9.toInt64) hx hb dL_law_1577 rfl ?_
    refine g_eq (tgt := 1584) hx hb dL_law_1578 dL_law_1579 (by decide) (fun _ => ?_) (fun h => absurd (hcmp h0) h)
    refine lv_goto (tgt := 1823) hx hb dL_law_1584 (by decide) ?_
    exact kk H locs ls hP hD hS (lv_sub hl [2, 3, 4, 5, 6] rfl)
set_option maxRecDepth 4000 in
theorem lz_emitted (C : lwC p l s m meth c b L xs D y ad) {i : Nat} (hi : i + 7 ≤ L) {hX1 h8 oa : Nat} {a1 : Int32} (e1 : xs (i + 1) = a1) (hl : lv_has ls 8 [(0, .ref b), (1, .ref hX1), (2, .ref h8), (3, .ref oa), (4, .int (nI i))]) {wX1 w8 : va_W} (hP : va_P D vwCl (w8 ++ wX1) H) (hD : va_D (lA s) (w8 ++ wX1)) (hS : va_S (lA s) s.heap H locs) {fs : List Value} (he : w8[0]? = some (h8, .inr (6, fs)))
    {rmL rm8 : Room} {mc ms : Nat} {fL f8 : Option Value → va_W → Prop} (HL : ∀ sz, Met l yL_emitted wsL_emitted rmL (gPN D y ad [.ref hX1, .int a1, .ref oa] wX1 sz) (gQn D wX1 fL) mc ms (va_A wX1 sz)) (hcL : rmL.cells = mc) (hsL : rmL.slots = ms) (hrL : rmL.frames + 1 ≤ 13 ∧ 8 + (4 + 11) + rmL.locals ≤ 502) (hroom : cells + mc ≤ 601024 ∧ slots + ms ≤ 7293034)
    (H8 : ∀ sz, Met l yX8_emitted wsX8_emitted rm8 (gP D y (.ref h8 :: [.int a1]) w8 sz) (gQ D w8 f8) 0 0 (va_A w8 sz)) (hc8 : rm8.cells = 0) (hs8 : rm8.slots = 0) (hr8 : rm8.frames + 1 ≤ 13 ∧ 8 + (2 + 11) + rm8.locals ≤ 502)
    (hfL : ∀ v w, fL v w → ∃ (k : Int32) (of : Nat → Int64) (wr : va_W), v = some (.int k) ∧ w = (oa, .inl (y 1, 1, .inr (.inl of))) :: wr) (hf8 : ∀ v w, f8 v w → ∃ a9 : Int32, v = some (.int a9))
    (KK : ∀ (k : Int32) (of : Nat → Int64) (wr : va_W) (a9 : Int32) (w9 : va_W), fL (some (.int k)) ((oa, .inl (y 1, 1, .inr (.inl of))) :: wr) → f8 (some (.int a9)) w9 →
      (∀ sz, Met l yX8_thrown wsX8_thrown ({ frames := 0, cells := 0, slots := 0, locals := 0 } : Room) (gP D y [.ref h8] w9 sz) (gR (.int k)) 0 0 (fun _ => False)) ∧ (∃ fs9 : List Value, w9[0]? = some (h8, .inr (6, fs9))) ∧ (k = 0 → of 0 = a9.toInt64) ∧
      ∀ (H : Heap) (locs : List Loc) (ls : Array Slot), va_P D vwCl (w9 ++ (oa, .inl (y 1, 1, .inr (.inl of))) :: wr) H → va_D (lA s) (w9 ++ (oa, .inl (y 1, 1, .inr (.inl of))) :: wr) → va_S (lA s) s.heap H locs → lv_has ls 8 [(0, .ref b), (1, .ref hX1), (2, .ref h8), (3, .ref oa), (4, .int (nI i))] → W p l e room_1 s m #[Value.ref b] below meth c H locs (cells + mc) (slots + ms) Q (F0 m 1823 ls [])) :
    W p l e room_1 s m #[Value.ref b] below meth c H locs cells slots Q (F0 m 1587 ls []) := by
  obtain ⟨⟨hx, hb, hml, hown, hts⟩, ⟨hX, hbl, hL⟩, hK, hE, hN, hfl⟩ := id C
  have hA : ∀ q : Nat, s.heap.size ≤ q → lA s q := fun _ h => h
  refine lv_aload_n hx hb dL_law_1587 rfl (lv_at hl 1 rfl) ?_
  refine g_argL C hS 1 (by decide) (lv_at hl 0 rfl) (lv_at hl 4 rfl) (by omega) e1 dL_law_1588 dL_law_1589 dL_law_1591 dL_law_1592 dL_law_1593 ?_
  refine lv_aload_n hx hb dL_law_1594 rfl (lv_at hl 3 rfl) ?_
  refine g_callN (ws := w8) (wc := wX1) (vx_runSW (As := [.ref hX1, .int a1, .ref oa]) (rest := []) ⟨hx, hb, hml, hown, hts⟩ (HL H.size) (vx_cwSW 3 hts gL_law_L_emitted rfl hcL hsL (by decide +kernel) hrL) (gPN_SA (va_P_r hP) (va_D_r hD) hK hE hN hS hA) rfl rfl hl.1 rfl (lv_room (Nat.le_of_ble_eq_true rfl)) dL_law_1595 hroom) hP hD hS hA (fun v w H locs hf hP hD hS => ?_)
  obtain ⟨k, of, wr, rfl, rfl⟩ := hfL v w hf
  refine lv_istore (lv' := [(5, .int k), (0, .ref b), (1, .ref hX1), (2, .ref h8), (3, .ref oa), (4, .int (nI i))]) hx hb dL_law_1598 hl (by decide) rfl (fun ls hl => ?_)
  refine lv_aload_n hx hb dL_law_1600 rfl (lv_at hl 3 rfl) ?_
  refine g_argL C hS 1 (by decide) (lv_at hl 1 rfl) (lv_at hl 5 rfl) (by omega) e1 dL_law_1601 dL_law_1602 dL_law_1604 dL_law_1605 dL_law_1606 ?_
  have hP2 := va_P_sw hP
  have hD2 := va_D_sw hD
  refine g_callAr (ws := (oa, .inl (y 1, 1, .inr (.inl of))) :: wr) (wc := w8) (va_runV (As := [.int a1]) (rest := []) ⟨hx, hb, hml, hown, hts⟩ (H8 H.size) (cwV 1 hts gL_law_X8_emitted rfl hc8 hs8 (by decide +kernel) hr8) (gP_VA (va_P_r hP2) (va_D_r hD2) hK 0 he rfl) rfl rfl hl.1 rfl (lv_room (Nat.le_of_ble_eq_true rfl)) dL_law_1607 hroom) hP2 hD2 hS hA (fun v w9 H locs hf9 hP hD hS => ?_)
  obtain ⟨a9, rfl⟩ := hf8 v w9 hf9
  have hP := va_P_sw hP
  have hD := va_D_sw hD
  obtain ⟨hT, ⟨fs9, he9⟩, hcmp, kk⟩ := KK k of wr a9 w9 hf hf9
  refine lv_istore (lv' := [(6, .int a9), (5, .int k), (0, .ref b), (1, .ref hX1), (2, .ref h8), (3, .ref oa), (4, .int (nI i))]) hx hb dL_law_1610 hl (by decide) rfl (fun ls hl => ?_)
  refine lv_aload_n hx hb dL_law_1612 rfl (lv_at hl 4 rfl) ?_
  refine g_callR (v0 := .int k) (va_runV (As := []) (rest := []) ⟨hx, hb, hml, hown, hts⟩ (hT H.size) (cwV 0 hts gL_law_X8_thrown rfl rfl rfl (by decide +kernel) ⟨Nat.le_of_ble_eq_true rfl, Nat.le_of_ble_eq_true rfl⟩) (gP_VA (va_P_r (va_P_sw hP)) (va_D_r (va_D_sw hD)) hK 0 he9 rfl) rfl rfl hl.1 rfl (lv_room (Nat.le_of_ble_eq_true rfl)) dL_law_1613 hroom) ?_
  refine lv_iload hx hb dL_law_1616 (lv_at hl 1 rfl) ?_
  refine lv_icmp_eq (tgt := 1623) hx hb dL_law_1618 (by decide) (fun _ => ?_) (fun h => absurd rfl h)
  refine lv_iload hx hb dL_law_1623 (lv_at hl 1 rfl) ?_
  refine lv_if_ne (tgt := 1640) hx hb dL_law_1625 (by decide) (fun _ => ?_) (fun h0 => ?_)
  · refine lv_goto (tgt := 1823) hx hb dL_law_1640 (by decide) ?_
    exact kk H locs ls hP hD hS (lv_sub hl [2, 3, 4, 5, 6] rfl)
  · refine lv_aload_n hx hb dL_law_1628 rfl (lv_at hl 5 rfl) ?_
    refine lv_iconst (v := 0) hx hb dL_law_1629 (by decide) ?_
    refine g_lald (k := 0) hx hb hK.1 hP w9.length 1 gAt0 rfl (by decide) (by decide) dL_law_1630 ?_
    refine lv_iload hx hb dL_law_1631 (lv_at hl 0 rfl) ?_
    refine lv_i2l (v := a9.toInt64) hx hb dL_law_1633 rfl ?_
    refine g_eq (tgt := 1640) hx hb dL_law_1634 dL_law_1635 (by decide) (fun _ => ?_) (fun h => absurd (hcmp h0) h)
    refine lv_goto (tgt := 1823) hx hb dL_law_1640 (by decide) ?_
    exact kk H locs ls hP hD hS (lv_sub hl [2, 3, 4, 5, 6] rfl)
set_option maxRecDepth 4000 in
theorem lz_partial (C : lwC p l s m meth c b L xs D y ad) {i : Nat} (hi : i + 7 ≤ L) {hX1 h8 oa : Nat} {a1 : Int32} (e1 : xs (i + 1) = a1) (hl : lv_has ls 8 [(0, .ref b), (1, .ref hX1), (2, .ref h8), (3, .ref oa), (4, .int (nI i))]) {wX1 w8 : va_W} (hP : va_P D vwCl (w8 ++ wX1) H) (hD : va_D (lA s) (w8 ++ wX1)) (hS : va_S (lA s) s.heap H locs) {fs : List Value} (he : w8[0]? = some (h8, .inr (6, fs)))
    {rmL rm8 : Room} {mc ms : Nat} {fL f8 : Option Value → va_W → Prop} (HL : ∀ sz, Met l yL_partial wsL_partial rmL (gPN D y ad [.ref hX1, .int a1, .ref oa] wX1 sz) (gQn D wX1 fL) mc ms (va_A wX1 sz)) (hcL : rmL.cells = mc) (hsL : rmL.slots = ms) (hrL : rmL.frames + 1 ≤ 13 ∧ 8 + (4 + 11) + rmL.locals ≤ 502) (hroom : cells + mc ≤ 601024 ∧ slots + ms ≤ 7293034)
    (H8 : ∀ sz, Met l yX8_partial wsX8_partial rm8 (gP D y (.ref h8 :: [.int a1]) w8 sz) (gQ D w8 f8) 0 0 (va_A w8 sz)) (hc8 : rm8.cells = 0) (hs8 : rm8.slots = 0) (hr8 : rm8.frames + 1 ≤ 13 ∧ 8 + (2 + 11) + rm8.locals ≤ 502)
    (hfL : ∀ v w, fL v w → ∃ (k : Int32) (of : Nat → Int64) (wr : va_W), v = some (.int k) ∧ w = (oa, .inl (y 1, 1, .inr (.inl of))) :: wr) (hf8 : ∀ v w, f8 v w → ∃ a9 : Int64, v = some (.long a9))
    (KK : ∀ (k : Int32) (of : Nat → Int64) (wr : va_W) (a9 : Int64) (w9 : va_W), fL (some (.int k)) ((oa, .inl (y 1, 1, .inr (.inl of))) :: wr) → f8 (some (.long a9)) w9 →
      (∀ sz, Met l yX8_thrown wsX8_thrown ({ frames := 0, cells := 0, slots := 0, locals := 0 } : Room) (gP D y [.ref h8] w9 sz) (gR (.int k)) 0 0 (fun _ => False)) ∧ (∃ fs9 : List Value, w9[0]? = some (h8, .inr (6, fs9))) ∧ (k = 0 → of 0 = a9) ∧
      ∀ (H : Heap) (locs : List Loc) (ls : Array Slot), va_P D vwCl (w9 ++ (oa, .inl (y 1, 1, .inr (.inl of))) :: wr) H → va_D (lA s) (w9 ++ (oa, .inl (y 1, 1, .inr (.inl of))) :: wr) → va_S (lA s) s.heap H locs → lv_has ls 8 [(0, .ref b), (1, .ref hX1), (2, .ref h8), (3, .ref oa), (4, .int (nI i))] → W p l e room_1 s m #[Value.ref b] below meth c H locs (cells + mc) (slots + ms) Q (F0 m 1823 ls [])) :
    W p l e room_1 s m #[Value.ref b] below meth c H locs cells slots Q (F0 m 1643 ls []) := by
  obtain ⟨⟨hx, hb, hml, hown, hts⟩, ⟨hX, hbl, hL⟩, hK, hE, hN, hfl⟩ := id C
  have hA : ∀ q : Nat, s.heap.size ≤ q → lA s q := fun _ h => h
  refine lv_aload_n hx hb dL_law_1643 rfl (lv_at hl 1 rfl) ?_
  refine g_argL C hS 1 (by decide) (lv_at hl 0 rfl) (lv_at hl 4 rfl) (by omega) e1 dL_law_1644 dL_law_1645 dL_law_1647 dL_law_1648 dL_law_1649 ?_
  refine lv_aload_n hx hb dL_law_1650 rfl (lv_at hl 3 rfl) ?_
  refine g_callN (ws := w8) (wc := wX1) (vx_runSW (As := [.ref hX1, .int a1, .ref oa]) (rest := []) ⟨hx, hb, hml, hown, hts⟩ (HL H.size) (vx_cwSW 3 hts gL_law_L_partial rfl hcL hsL (by decide +kernel) hrL) (gPN_SA (va_P_r hP) (va_D_r hD) hK hE hN hS hA) rfl rfl hl.1 rfl (lv_room (Nat.le_of_ble_eq_true rfl)) dL_law_1651 hroom) hP hD hS hA (fun v w H locs hf hP hD hS => ?_)
  obtain ⟨k, of, wr, rfl, rfl⟩ := hfL v w hf
  refine lv_istore (lv' := [(5, .int k), (0, .ref b), (1, .ref hX1), (2, .ref h8), (3, .ref oa), (4, .int (nI i))]) hx hb dL_law_1654 hl (by decide) rfl (fun ls hl => ?_)
  refine lv_aload_n hx hb dL_law_1656 rfl (lv_at hl 3 rfl) ?_
  refine g_argL C hS 1 (by decide) (lv_at hl 1 rfl) (lv_at hl 5 rfl) (by omega) e1 dL_law_1657 dL_law_1658 dL_law_1660 dL_law_1661 dL_law_1662 ?_
  have hP2 := va_P_sw hP
  have hD2 := va_D_sw hD
  refine g_callAr (ws := (oa, .inl (y 1, 1, .inr (.inl of))) :: wr) (wc := w8) (va_runV (As := [.int a1]) (rest := []) ⟨hx, hb, hml, hown, hts⟩ (H8 H.size) (cwV 1 hts gL_law_X8_partial rfl hc8 hs8 (by decide +kernel) hr8) (gP_VA (va_P_r hP2) (va_D_r hD2) hK 0 he rfl) rfl rfl hl.1 rfl (lv_room (Nat.le_of_ble_eq_true rfl)) dL_law_1663 hroom) hP2 hD2 hS hA (fun v w9 H locs hf9 hP hD hS => ?_)
  obtain ⟨a9, rfl⟩ := hf8 v w9 hf9
  have hP := va_P_sw hP
  have hD := va_D_sw hD
  obtain ⟨hT, ⟨fs9, he9⟩, hcmp, kk⟩ := KK k of wr a9 w9 hf hf9
  refine lv_lstore (lv' := [(6, .long a9), (5, .int k), (0, .ref b), (1, .ref hX1), (2, .ref h8), (3, .ref oa), (4, .int (nI i))]) hx hb dL_law_1666 hl (by decide) rfl (fun ls hl => ?_)
  refine lv_aload_n hx hb dL_law_1668 rfl (lv_at hl 4 rfl) ?_
  refine g_callR (v0 := .int k) (va_runV (As := []) (rest := []) ⟨hx, hb, hml, hown, hts⟩ (hT H.size) (cwV 0 hts gL_law_X8_thrown rfl rfl rfl (by decide +kernel) ⟨Nat.le_of_ble_eq_true rfl, Nat.le_of_ble_eq_true rfl⟩) (gP_VA (va_P_r (va_P_sw hP)) (va_D_r (va_D_sw hD)) hK 0 he9 rfl) rfl rfl hl.1 rfl (lv_room (Nat.le_of_ble_eq_true rfl)) dL_law_1669 hroom) ?_
  refine lv_iload hx hb dL_law_1672 (lv_at hl 1 rfl) ?_
  refine lv_icmp_eq (tgt := 1679) hx hb dL_law_1674 (by decide) (fun _ => ?_) (fun h => absurd rfl h)
  refine lv_iload hx hb dL_law_1679 (lv_at hl 1 rfl) ?_
  refine lv_if_ne (tgt := 1695) hx hb dL_law_1681 (by decide) (fun _ => ?_) (fun h0 => ?_)
  · refine lv_goto (tgt := 1823) hx hb dL_law_1695 (by decide) ?_
    exact kk H locs ls hP hD hS (lv_sub hl [2, 3, 4, 5, 6] rfl)
  · refine lv_aload_n hx hb dL_law_1684 rfl (lv_at hl 5 rfl) ?_
    refine lv_iconst (v := 0) hx hb dL_law_1685 (by decide) ?_
    refine g_lald (k := 0) hx hb hK.1 hP w9.length 1 gAt0 rfl (by decide) (by decide) dL_law_1686 ?_
    refine lv_lload hx hb dL_law_1687 (lv_at hl 0 rfl) ?_
    refine g_eq (tgt := 1695) hx hb dL_law_1689 dL_law_1690 (by decide) (fun _ => ?_) (fun h => absurd (hcmp h0) h)
    refine lv_goto (tgt := 1823) hx hb dL_law_1695 (by decide) ?_
    exact kk H locs ls hP hD hS (lv_sub hl [2, 3, 4, 5, 6] rfl)
set_option maxRecDepth 4000 in
theorem lz_restart (C : lwC p l s m meth c b L xs D y ad) {i : Nat} (hi : i + 7 ≤ L) {hX1 h8 oa : Nat} {a1 : Int32} (e1 : xs (i + 1) = a1) (hl : lv_has ls 8 [(0, .ref b), (1, .ref hX1), (2, .ref h8), (3, .ref oa), (4, .int (nI i))]) {wX1 w8 : va_W} (hP : va_P D vwCl (w8 ++ wX1) H) (hD : va_D (lA s) (w8 ++ wX1)) (hS : va_S (lA s) s.heap H locs) {fs : List Value} (he : w8[0]? = some (h8, .inr (6, fs)))
    {rmL rm8 : Room} {mc ms : Nat} {fL f8 : Option Value → va_W → Prop} (HL : ∀ sz, Met l yL_restart wsL_restart rmL (gPN D y ad [.ref hX1, .int a1, .ref oa] wX1 sz) (gQn D wX1 fL) mc ms (va_A wX1 sz)) (hcL : rmL.cells = mc) (hsL : rmL.slots = ms) (hrL : rmL.frames + 1 ≤ 13 ∧ 8 + (4 + 11) + rmL.locals ≤ 502) (hroom : cells + mc ≤ 601024 ∧ slots + ms ≤ 7293034)
    (H8 : ∀ sz, Met l yX8_restart wsX8_restart rm8 (gP D y (.ref h8 :: [.int a1]) w8 sz) (gQ D w8 f8) 0 0 (va_A w8 sz)) (hc8 : rm8.cells = 0) (hs8 : rm8.slots = 0) (hr8 : rm8.frames + 1 ≤ 13 ∧ 8 + (3 + 11) + rm8.locals ≤ 502)
    (hfL : ∀ v w, fL v w → ∃ (k : Int32) (of : Nat → Int64) (wr : va_W), v = some (.int k) ∧ w = (oa, .inl (y 1, 1, .inr (.inl of))) :: wr) (hf8 : ∀ v w, f8 v w → ∃ a9 : Int32, v = some (.int a9))
    (KK : ∀ (k : Int32) (of : Nat → Int64) (wr : va_W) (a9 : Int32) (w9 : va_W), fL (some (.int k)) ((oa, .inl (y 1, 1, .inr (.inl of))) :: wr) → f8 (some (.int a9)) w9 →
      (∀ sz, Met l yX8_thrown wsX8_thrown ({ frames := 0, cells := 0, slots := 0, locals := 0 } : Room) (gP D y [.ref h8] w9 sz) (gR (.int k)) 0 0 (fun _ => False)) ∧ (∃ fs9 : List Value, w9[0]? = some (h8, .inr (6, fs9))) ∧ (k = 0 → of 0 = a9.toInt64) ∧
      ∀ (H : Heap) (locs : List Loc) (ls : Array Slot), va_P D vwCl (w9 ++ (oa, .inl (y 1, 1, .inr (.inl of))) :: wr) H → va_D (lA s) (w9 ++ (oa, .inl (y 1, 1, .inr (.inl of))) :: wr) → va_S (lA s) s.heap H locs → lv_has ls 8 [(0, .ref b), (1, .ref hX1), (2, .ref h8), (3, .ref oa), (4, .int (nI i))] → W p l e room_1 s m #[Value.ref b] below meth c H locs (cells + mc) (slots + ms) Q (F0 m 1823 ls [])) :
    W p l e room_1 s m #[Value.ref b] below meth c H locs cells slots Q (F0 m 1698 ls []) := by
  obtain ⟨⟨hx, hb, hml, hown, hts⟩, ⟨hX, hbl, hL⟩, hK, hE, hN, hfl⟩ := id C
  have hA : ∀ q : Nat, s.heap.size ≤ q → lA s q := fun _ h => h
  refine lv_aload_n hx hb dL_law_1698 rfl (lv_at hl 1 rfl) ?_
  refine g_argL C hS 1 (by decide) (lv_at hl 0 rfl) (lv_at hl 4 rfl) (by omega) e1 dL_law_1699 dL_law_1700 dL_law_1702 dL_law_1703 dL_law_1704 ?_
  refine lv_aload_n hx hb dL_law_1705 rfl (lv_at hl 3 rfl) ?_
  refine g_callN (ws := w8) (wc := wX1) (vx_runSW (As := [.ref hX1, .int a1, .ref oa]) (rest := []) ⟨hx, hb, hml, hown, hts⟩ (HL H.size) (vx_cwSW 3 hts gL_law_L_restart rfl hcL hsL (by decide +kernel) hrL) (gPN_SA (va_P_r hP) (va_D_r hD) hK hE hN hS hA) rfl rfl hl.1 rfl (lv_room (Nat.le_of_ble_eq_true rfl)) dL_law_1706 hroom) hP hD hS hA (fun v w H locs hf hP hD hS => ?_)
  obtain ⟨k, of, wr, rfl, rfl⟩ := hfL v w hf
  refine lv_istore (lv' := [(5, .int k), (0, .ref b), (1, .ref hX1), (2, .ref h8), (3, .ref oa), (4, .int (nI i))]) hx hb dL_law_1709 hl (by decide) rfl (fun ls hl => ?_)
  refine lv_aload_n hx hb dL_law_1711 rfl (lv_at hl 3 rfl) ?_
  refine g_argL C hS 1 (by decide) (lv_at hl 1 rfl) (lv_at hl 5 rfl) (by omega) e1 dL_law_1712 dL_law_1713 dL_law_1715 dL_law_1716 dL_law_1717 ?_
  have hP2 := va_P_sw hP
  have hD2 := va_D_sw hD
  refine g_callAr (ws := (oa, .inl (y 1, 1, .inr (.inl of))) :: wr) (wc := w8) (va_runV (As := [.int a1]) (rest := []) ⟨hx, hb, hml, hown, hts⟩ (H8 H.size) (cwV 1 hts gL_law_X8_restart rfl hc8 hs8 (by decide +kernel) hr8) (gP_VA (va_P_r hP2) (va_D_r hD2) hK 0 he rfl) rfl rfl hl.1 rfl (lv_room (Nat.le_of_ble_eq_true rfl)) dL_law_1718 hroom) hP2 hD2 hS hA (fun v w9 H locs hf9 hP hD hS => ?_)
  obtain ⟨a9, rfl⟩ := hf8 v w9 hf9
  have hP := va_P_sw hP
  have hD := va_D_sw hD
  obtain ⟨hT, ⟨fs9, he9⟩, hcmp, kk⟩ := KK k of wr a9 w9 hf hf9
  refine lv_istore (lv' := [(6, .int a9), (5, .int k), (0, .ref b), (1, .ref hX1), (2, .ref h8), (3, .ref oa), (4, .int (nI i))]) hx hb dL_law_1721 hl (by decide) rfl (fun ls hl => ?_)
  refine lv_aload_n hx hb dL_law_1723 rfl (lv_at hl 4 rfl) ?_
  refine g_callR (v0 := .int k) (va_runV (As := []) (rest := []) ⟨hx, hb, hml, hown, hts⟩ (hT H.size) (cwV 0 hts gL_law_X8_thrown rfl rfl rfl (by decide +kernel) ⟨Nat.le_of_ble_eq_true rfl, Nat.le_of_ble_eq_true rfl⟩) (gP_VA (va_P_r (va_P_sw hP)) (va_D_r (va_D_sw hD)) hK 0 he9 rfl) rfl rfl hl.1 rfl (lv_room (Nat.le_of_ble_eq_true rfl)) dL_law_1724 hroom) ?_
  refine lv_iload hx hb dL_law_1727 (lv_at hl 1 rfl) ?_
  refine lv_icmp_eq (tgt := 1734) hx hb dL_law_1729 (by decide) (fun _ => ?_) (fun h => absurd rfl h)
  refine lv_iload hx hb dL_law_1734 (lv_at hl 1 rfl) ?_
  refine lv_if_ne (tgt := 1751) hx hb dL_law_1736 (by decide) (fun _ => ?_) (fun h0 => ?_)
  · refine lv_goto (tgt := 1823) hx hb dL_law_1751 (by decide) ?_
    exact kk H locs ls hP hD hS (lv_sub hl [2, 3, 4, 5, 6] rfl)
  · refine lv_aload_n hx hb dL_law_1739 rfl (lv_at hl 5 rfl) ?_
    refine lv_iconst (v := 0) hx hb dL_law_1740 (by decide) ?_
    refine g_lald (k := 0) hx hb hK.1 hP w9.length 1 gAt0 rfl (by decide) (by decide) dL_law_1741 ?_
    refine lv_iload hx hb dL_law_1742 (lv_at hl 0 rfl) ?_
    refine lv_i2l (v := a9.toInt64) hx hb dL_law_1744 rfl ?_
    refine g_eq (tgt := 1751) hx hb dL_law_1745 dL_law_1746 (by decide) (fun _ => ?_) (fun h => absurd (hcmp h0) h)
    refine lv_goto (tgt := 1823) hx hb dL_law_1751 (by decide) ?_
    exact kk H locs ls hP hD hS (lv_sub hl [2, 3, 4, 5, 6] rfl)
set_option maxRecDepth 4000 in
theorem lz_needs (C : lwC p l s m meth c b L xs D y ad) {i : Nat} (hi : i + 7 ≤ L) {hX1 h8 oa : Nat} {a1 : Int32} (e1 : xs (i + 1) = a1) (hl : lv_has ls 8 [(0, .ref b), (1, .ref hX1), (2, .ref h8), (3, .ref oa), (4, .int (nI i))]) {wX1 w8 : va_W} (hP : va_P D vwCl (w8 ++ wX1) H) (hD : va_D (lA s) (w8 ++ wX1)) (hS : va_S (lA s) s.heap H locs) {fs : List Value} (he : w8[0]? = some (h8, .inr (6, fs)))
    {rmL rm8 : Room} {mc ms : Nat} {fL f8 : Option Value → va_W → Prop} (HL : ∀ sz, Met l yL_needs wsL_needs rmL (gPN D y ad [.ref hX1, .int a1, .ref oa] wX1 sz) (gQn D wX1 fL) mc ms (va_A wX1 sz)) (hcL : rmL.cells = mc) (hsL : rmL.slots = ms) (hrL : rmL.frames + 1 ≤ 13 ∧ 8 + (4 + 11) + rmL.locals ≤ 502) (hroom : cells + mc ≤ 601024 ∧ slots + ms ≤ 7293034)
    (H8 : ∀ sz, Met l yX8_needs wsX8_needs rm8 (gP D y (.ref h8 :: [.int a1]) w8 sz) (gQ D w8 f8) 0 0 (va_A w8 sz)) (hc8 : rm8.cells = 0) (hs8 : rm8.slots = 0) (hr8 : rm8.frames + 1 ≤ 13 ∧ 8 + (5 + 11) + rm8.locals ≤ 502)
    (hfL : ∀ v w, fL v w → ∃ (k : Int32) (of : Nat → Int64) (wr : va_W), v = some (.int k) ∧ w = (oa, .inl (y 1, 1, .inr (.inl of))) :: wr) (hf8 : ∀ v w, f8 v w → ∃ a9 : Int32, v = some (.int a9))
    (KK : ∀ (k : Int32) (of : Nat → Int64) (wr : va_W) (a9 : Int32) (w9 : va_W), fL (some (.int k)) ((oa, .inl (y 1, 1, .inr (.inl of))) :: wr) → f8 (some (.int a9)) w9 →
      (∀ sz, Met l yX8_thrown wsX8_thrown ({ frames := 0, cells := 0, slots := 0, locals := 0 } : Room) (gP D y [.ref h8] w9 sz) (gR (.int k)) 0 0 (fun _ => False)) ∧ (∃ fs9 : List Value, w9[0]? = some (h8, .inr (6, fs9))) ∧ (k = 0 → of 0 = a9.toInt64) ∧
      ∀ (H : Heap) (locs : List Loc) (ls : Array Slot), va_P D vwCl (w9 ++ (oa, .inl (y 1, 1, .inr (.inl of))) :: wr) H → va_D (lA s) (w9 ++ (oa, .inl (y 1, 1, .inr (.inl of))) :: wr) → va_S (lA s) s.heap H locs → lv_has ls 8 [(0, .ref b), (1, .ref hX1), (2, .ref h8), (3, .ref oa), (4, .int (nI i))] → W p l e room_1 s m #[Value.ref b] below meth c H locs (cells + mc) (slots + ms) Q (F0 m 1823 ls [])) :
    W p l e room_1 s m #[Value.ref b] below meth c H locs cells slots Q (F0 m 1767 ls []) := by
  obtain ⟨⟨hx, hb, hml, hown, hts⟩, ⟨hX, hbl, hL⟩, hK, hE, hN, hfl⟩ := id C
  have hA : ∀ q : Nat, s.heap.size ≤ q → lA s q := fun _ h => h
  refine lv_aload_n hx hb dL_law_1767 rfl (lv_at hl 1 rfl) ?_
  refine g_argL C hS 1 (by decide) (lv_at hl 0 rfl) (lv_at hl 4 rfl) (by omega) e1 dL_law_1768 dL_law_1769 dL_law_1771 dL_law_1772 dL_law_1773 ?_
  refine lv_aload_n hx hb dL_law_1774 rfl (lv_at hl 3 rfl) ?_
  refine g_callN (ws := w8) (wc := wX1) (vx_runSW (As := [.ref hX1, .int a1, .ref oa]) (rest := []) ⟨hx, hb, hml, hown, hts⟩ (HL H.size) (vx_cwSW 3 hts gL_law_L_needs rfl hcL hsL (by decide +kernel) hrL) (gPN_SA (va_P_r hP) (va_D_r hD) hK hE hN hS hA) rfl rfl hl.1 rfl (lv_room (Nat.le_of_ble_eq_true rfl)) dL_law_1775 hroom) hP hD hS hA (fun v w H locs hf hP hD hS => ?_)
  obtain ⟨k, of, wr, rfl, rfl⟩ := hfL v w hf
  refine lv_istore (lv' := [(5, .int k), (0, .ref b), (1, .ref hX1), (2, .ref h8), (3, .ref oa), (4, .int (nI i))]) hx hb dL_law_1778 hl (by decide) rfl (fun ls hl => ?_)
  refine lv_aload_n hx hb dL_law_1780 rfl (lv_at hl 3 rfl) ?_
  refine g_argL C hS 1 (by decide) (lv_at hl 1 rfl) (lv_at hl 5 rfl) (by omega) e1 dL_law_1781 dL_law_1782 dL_law_1784 dL_law_1785 dL_law_1786 ?_
  have hP2 := va_P_sw hP
  have hD2 := va_D_sw hD
  refine g_callAr (ws := (oa, .inl (y 1, 1, .inr (.inl of))) :: wr) (wc := w8) (va_runV (As := [.int a1]) (rest := []) ⟨hx, hb, hml, hown, hts⟩ (H8 H.size) (cwV 1 hts gL_law_X8_needs rfl hc8 hs8 (by decide +kernel) hr8) (gP_VA (va_P_r hP2) (va_D_r hD2) hK 0 he rfl) rfl rfl hl.1 rfl (lv_room (Nat.le_of_ble_eq_true rfl)) dL_law_1787 hroom) hP2 hD2 hS hA (fun v w9 H locs hf9 hP hD hS => ?_)
  obtain ⟨a9, rfl⟩ := hf8 v w9 hf9
  have hP := va_P_sw hP
  have hD := va_D_sw hD
  obtain ⟨hT, ⟨fs9, he9⟩, hcmp, kk⟩ := KK k of wr a9 w9 hf hf9
  refine lv_istore (lv' := [(6, .int a9), (5, .int k), (0, .ref b), (1, .ref hX1), (2, .ref h8), (3, .ref oa), (4, .int (nI i))]) hx hb dL_law_1790 hl (by decide) rfl (fun ls hl => ?_)
  refine lv_aload_n hx hb dL_law_1792 rfl (lv_at hl 4 rfl) ?_
  refine g_callR (v0 := .int k) (va_runV (As := []) (rest := []) ⟨hx, hb, hml, hown, hts⟩ (hT H.size) (cwV 0 hts gL_law_X8_thrown rfl rfl rfl (by decide +kernel) ⟨Nat.le_of_ble_eq_true rfl, Nat.le_of_ble_eq_true rfl⟩) (gP_VA (va_P_r (va_P_sw hP)) (va_D_r (va_D_sw hD)) hK 0 he9 rfl) rfl rfl hl.1 rfl (lv_room (Nat.le_of_ble_eq_true rfl)) dL_law_1793 hroom) ?_
  refine lv_iload hx hb dL_law_1796 (lv_at hl 1 rfl) ?_
  refine lv_icmp_eq (tgt := 1803) hx hb dL_law_1798 (by decide) (fun _ => ?_) (fun h => absurd rfl h)
  refine lv_iload hx hb dL_law_1803 (lv_at hl 1 rfl) ?_
  refine lv_if_ne (tgt := 1820) hx hb dL_law_1805 (by decide) (fun _ => ?_) (fun h0 => ?_)
  · refine lv_goto (tgt := 1823) hx hb dL_law_1820 (by decide) ?_
    exact kk H locs ls hP hD hS (lv_sub hl [2, 3, 4, 5, 6] rfl)
  · refine lv_aload_n hx hb dL_law_1808 rfl (lv_at hl 5 rfl) ?_
    refine lv_iconst (v := 0) hx hb dL_law_1809 (by decide) ?_
    refine g_lald (k := 0) hx hb hK.1 hP w9.length 1 gAt0 rfl (by decide) (by decide) dL_law_1810 ?_
    refine lv_iload hx hb dL_law_1811 (lv_at hl 0 rfl) ?_
    refine lv_i2l (v := a9.toInt64) hx hb dL_law_1813 rfl ?_
    refine g_eq (tgt := 1820) hx hb dL_law_1814 dL_law_1815 (by decide) (fun _ => ?_) (fun h => absurd (hcmp h0) h)
    refine lv_goto (tgt := 1823) hx hb dL_law_1820 (by decide) ?_
    exact kk H locs ls hP hD hS (lv_sub hl [2, 3, 4, 5, 6] rfl)
end GLL
