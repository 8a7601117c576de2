abbrev lA (s : State) : Nat → Prop := fun q => s.heap.size ≤ q
theorem g_kd1 {args : Array Value} {s : State} {nm : String} {z : Int32} {A : Nat → Prop} (hl : (Cond.laysStatic "Nestlimit$Kind" nm "LNestlimit$Kind;").before args s = true) (hini : (Cond.initialized "Nestlimit$Kind").before args s = true) (hex : (Cond.exactly (.static "Nestlimit$Kind" nm "LNestlimit$Kind;") "Nestlimit$Kind").before args s = true) (hf : (Cond.eq (.field (.static "Nestlimit$Kind" nm "LNestlimit$Kind;") "java/lang/Enum" "ordinal" "I") (.int z)).before args s = true) (hA : ∀ a : Nat, a < s.heap.size → ¬ A a) : ∃ t : Nat, va_Z "Nestlimit$Kind" nm "LNestlimit$Kind;" (.ref t) A s s.heap ∧ va_O "Nestlimit$Kind" t A s s.heap ∧ va_OF "java/lang/Enum" "ordinal" "I" (.int z) t A s s.heap := by
  obtain ⟨ad, h, -⟩ := va_Enof (E := "Nestlimit$Kind") (d := "LNestlimit$Kind;") (nm := [nm]) (F := [("java/lang/Enum", "ordinal", "I", [z])]) (A := A) (args := args) (s := s) (fun i hi => by
      have e : i = 0 := Nat.lt_one_iff.mp hi
      subst e
      exact hl) hini (fun i hi => by
      have e : i = 0 := Nat.lt_one_iff.mp hi
      subst e
      exact hex) (fun q hq i hi => by
      have e : i = 0 := Nat.lt_one_iff.mp hi
      subst e
      rcases List.mem_singleton.mp hq with rfl
      exact hf) (fun i j hi hj hij => absurd ((Nat.lt_one_iff.mp hi).trans (Nat.lt_one_iff.mp hj).symm) hij) hA
  obtain ⟨h1, h2, h3⟩ := h 0 Nat.zero_lt_one
  exact ⟨ad 0, h1, h2, h3 _ (List.mem_singleton.mpr rfl)⟩
set_option maxRecDepth 100000 in
theorem gE_start {s : State} {b : Nat} (hts : ∀ w ∈ lw_tbl, w.before #[Value.ref b] s = true) (hgv : (Jvm.Cond.and given_1 narrow_1).before #[Value.ref b] s = true) : ∃ ad : Nat → Nat, gE ad (lA s) s s.heap := by
  have hs := flat_of_before _ hgv
  have hA : ∀ a : Nat, a < s.heap.size → ¬ lA s a := fun a h => Nat.not_le.mpr h
  obtain ⟨t0, z0, o0, f0⟩ := g_kd1 (nm := "RATIO") (z := 0) (A := lA s) (hts _ (List.mem_of_getElem? (i := 243) (by decide +kernel))) (hts _ (List.mem_of_getElem? (i := 28) (by decide +kernel))) (hs _ (List.mem_of_getElem? (i := 6) (by decide +kernel))) (hs _ (List.mem_of_getElem? (i := 7) (by decide +kernel))) hA
  obtain ⟨t1, z1, o1, f1⟩ := g_kd1 (nm := "SUM") (z := 1) (A := lA s) (hts _ (List.mem_of_getElem? (i := 345) (by decide +kernel))) (hts _ (List.mem_of_getElem? (i := 28) (by decide +kernel))) (hs _ (List.mem_of_getElem? (i := 8) (by decide +kernel))) (hs _ (List.mem_of_getElem? (i := 9) (by decide +kernel))) hA
  obtain ⟨t2, z2, o2, f2⟩ := g_kd1 (nm := "DIFFERENCE") (z := 2) (A := lA s) (hts _ (List.mem_of_getElem? (i := 414) (by decide +kernel))) (hts _ (List.mem_of_getElem? (i := 28) (by decide +kernel))) (hs _ (List.mem_of_getElem? (i := 23) (by decide +kernel))) (hs _ (List.mem_of_getElem? (i := 24) (by decide +kernel))) hA
  obtain ⟨t3, z3, o3, f3⟩ := g_kd1 (nm := "PRODUCT") (z := 3) (A := lA s) (hts _ (List.mem_of_getElem? (i := 420) (by decide +kernel))) (hts _ (List.mem_of_getElem? (i := 28) (by decide +kernel))) (hs _ (List.mem_of_getElem? (i := 27) (by decide +kernel))) (hs _ (List.mem_of_getElem? (i := 28) (by decide +kernel))) hA
  obtain ⟨t4, z4, o4, f4⟩ := g_kd1 (nm := "GREATER") (z := 4) (A := lA s) (hts _ (List.mem_of_getElem? (i := 426) (by decide +kernel))) (hts _ (List.mem_of_getElem? (i := 28) (by decide +kernel))) (hs _ (List.mem_of_getElem? (i := 32) (by decide +kernel))) (hs _ (List.mem_of_getElem? (i := 33) (by decide +kernel))) hA
  obtain ⟨t5, z5, o5, f5⟩ := g_kd1 (nm := "INVERSE") (z := 5) (A := lA s) (hts _ (List.mem_of_getElem? (i := 432) (by decide +kernel))) (hts _ (List.mem_of_getElem? (i := 28) (by decide +kernel))) (hs _ (List.mem_of_getElem? (i := 38) (by decide +kernel))) (hs _ (List.mem_of_getElem? (i := 39) (by decide +kernel))) hA
  obtain ⟨t6, z6, o6, f6⟩ := g_kd1 (nm := "ROOT") (z := 6) (A := lA s) (hts _ (List.mem_of_getElem? (i := 438) (by decide +kernel))) (hts _ (List.mem_of_getElem? (i := 28) (by decide +kernel))) (hs _ (List.mem_of_getElem? (i := 45) (by decide +kernel))) (hs _ (List.mem_of_getElem? (i := 46) (by decide +kernel))) hA
  obtain ⟨t7, z7, o7, f7⟩ := g_kd1 (nm := "EXP") (z := 7) (A := lA s) (hts _ (List.mem_of_getElem? (i := 444) (by decide +kernel))) (hts _ (List.mem_of_getElem? (i := 28) (by decide +kernel))) (hs _ (List.mem_of_getElem? (i := 53) (by decide +kernel))) (hs _ (List.mem_of_getElem? (i := 54) (by decide +kernel))) hA
  obtain ⟨t8, z8, o8, f8⟩ := g_kd1 (nm := "ZERO") (z := 8) (A := lA s) (hts _ (List.mem_of_getElem? (i := 594) (by decide +kernel))) (hts _ (List.mem_of_getElem? (i := 28) (by decide +kernel))) (hs _ (List.mem_of_getElem? (i := 73) (by decide +kernel))) (hs _ (List.mem_of_getElem? (i := 74) (by decide +kernel))) hA
  obtain ⟨t9, e9, T9⟩ := va_Tof (args := #[Value.ref b]) (s := s) (tm := .static "Nestlimit" "TENS" "[J") (ty := .long) (N := 8) (f := gTens) (A := lA s) (by decide) (hs _ (List.mem_of_getElem? (i := 63) (by decide +kernel))) (va_eqt (z := Int32.ofNat 8) (hs _ (List.mem_of_getElem? (i := 64) (by decide +kernel)))) (fun j hj => by
    rcases (show j = 0 ∨ j = 1 ∨ j = 2 ∨ j = 3 ∨ j = 4 ∨ j = 5 ∨ j = 6 ∨ j = 7 by omega) with rfl | rfl | rfl | rfl | rfl | rfl | rfl | rfl
    · exact va_eqtl (t := .elem (.static "Nestlimit" "TENS" "[J") (.int (Int32.ofNat 0))) (z := 1) (hs _ (List.mem_of_getElem? (i := 65) (by decide +kernel)))
    · exact va_eqtl (t := .elem (.static "Nestlimit" "TENS" "[J") (.int (Int32.ofNat 1))) (z := 10) (hs _ (List.mem_of_getElem? (i := 66) (by decide +kernel)))
    · exact va_eqtl (t := .elem (.static "Nestlimit" "TENS" "[J") (.int (Int32.ofNat 2))) (z := 100) (hs _ (List.mem_of_getElem? (i := 67) (by decide +kernel)))
    · exact va_eqtl (t := .elem (.static "Nestlimit" "TENS" "[J") (.int (Int32.ofNat 3))) (z := 1000) (hs _ (List.mem_of_getElem? (i := 68) (by decide +kernel)))
    · exact va_eqtl (t := .elem (.static "Nestlimit" "TENS" "[J") (.int (Int32.ofNat 4))) (z := 10000) (hs _ (List.mem_of_getElem? (i := 69) (by decide +kernel)))
    · exact va_eqtl (t := .elem (.static "Nestlimit" "TENS" "[J") (.int (Int32.ofNat 5))) (z := 100000) (hs _ (List.mem_of_getElem? (i := 70) (by decide +kernel)))
    · exact va_eqtl (t := .elem (.static "Nestlimit" "TENS" "[J") (.int (Int32.ofNat 6))) (z := 1000000) (hs _ (List.mem_of_getElem? (i := 71) (by decide +kernel)))
    · exact va_eqtl (t := .elem (.static "Nestlimit" "TENS" "[J") (.int (Int32.ofNat 7))) (z := 10000000) (hs _ (List.mem_of_getElem? (i := 72) (by decide +kernel)))) hA
  obtain ⟨t10, e10, T10⟩ := va_Tof (args := #[Value.ref b]) (s := s) (tm := .static "Nestlimit$1" "$SwitchMap$Nestlimit$Kind" "[I") (ty := .int) (N := 9) (f := gSw) (A := lA s) (by decide) (hs _ (List.mem_of_getElem? (i := 12) (by decide +kernel))) (va_eqt (z := Int32.ofNat 9) (hs _ (List.mem_of_getElem? (i := 13) (by decide +kernel)))) (fun j hj => by
    rcases (show j = 0 ∨ j = 1 ∨ j = 2 ∨ j = 3 ∨ j = 4 ∨ j = 5 ∨ j = 6 ∨ j = 7 ∨ j = 8 by omega) with rfl | rfl | rfl | rfl | rfl | rfl | rfl | rfl | rfl
    · exact va_eqt (t := .elem (.static "Nestlimit$1" "$SwitchMap$Nestlimit$Kind" "[I") (.int (Int32.ofNat 0))) (z := 0) (hs _ (List.mem_of_getElem? (i := 14) (by decide +kernel)))
    · exact va_eqt (t := .elem (.static "Nestlimit$1" "$SwitchMap$Nestlimit$Kind" "[I") (.int (Int32.ofNat 1))) (z := 1) (hs _ (List.mem_of_getElem? (i := 15) (by decide +kernel)))
    · exact va_eqt (t := .elem (.static "Nestlimit$1" "$SwitchMap$Nestlimit$Kind" "[I") (.int (Int32.ofNat 2))) (z := 2) (hs _ (List.mem_of_getElem? (i := 16) (by decide +kernel)))
    · exact va_eqt (t := .elem (.static "Nestlimit$1" "$SwitchMap$Nestlimit$Kind" "[I") (.int (Int32.ofNat 3))) (z := 3) (hs _ (List.mem_of_getElem? (i := 17) (by decide +kernel)))
    · exact va_eqt (t := .elem (.static "Nestlimit$1" "$SwitchMap$Nestlimit$Kind" "[I") (.int (Int32.ofNat 4))) (z := 4) (hs _ (List.mem_of_getElem? (i := 18) (by decide +kernel)))
    · exact va_eqt (t := .elem (.static "Nestlimit$1" "$SwitchMap$Nestlimit$Kind" "[I") (.int (Int32.ofNat 5))) (z := 5) (hs _ (List.mem_of_getElem? (i := 19) (by decide +kernel)))
    · exact va_eqt (t := .elem (.static "Nestlimit$1" "$SwitchMap$Nestlimit$Kind" "[I") (.int (Int32.ofNat 6))) (z := 6) (hs _ (List.mem_of_getElem? (i := 20) (by decide +kernel)))
    · exact va_eqt (t := .elem (.static "Nestlimit$1" "$SwitchMap$Nestlimit$Kind" "[I") (.int (Int32.ofNat 7))) (z := 7) (hs _ (List.mem_of_getElem? (i := 21) (by decide +kernel)))
    · exact va_eqt (t := .elem (.static "Nestlimit$1" "$SwitchMap$Nestlimit$Kind" "[I") (.int (Int32.ofNat 8))) (z := 0) (hs _ (List.mem_of_getElem? (i := 22) (by decide +kernel)))) hA
  refine ⟨fun i => match i with
    | 0 => t0
    | 1 => t1
    | 2 => t2
    | 3 => t3
    | 4 => t4
    | 5 => t5
    | 6 => t6
    | 7 => t7
    | 8 => t8
    | 9 => t9
    | _ => t10, ⟨vx_Zqof (hts _ (List.mem_of_getElem? (i := 180) (by decide +kernel))) (hts _ (List.mem_of_getElem? (i := 21) (by decide +kernel))) (hs _ (List.mem_of_getElem? (i := 4) (by decide +kernel))) hA, vx_Zqof (hts _ (List.mem_of_getElem? (i := 182) (by decide +kernel))) (hts _ (List.mem_of_getElem? (i := 21) (by decide +kernel))) (hs _ (List.mem_of_getElem? (i := 5) (by decide +kernel))) hA⟩, fun w hw => ?_, fun w hw => ?_, ⟨va_Zof (hts _ (List.mem_of_getElem? (i := 490) (by decide +kernel))) (hts _ (List.mem_of_getElem? (i := 17) (by decide +kernel))) e9 hA, T9⟩, ⟨va_Zof (hts _ (List.mem_of_getElem? (i := 375) (by decide +kernel))) (hts _ (List.mem_of_getElem? (i := 31) (by decide +kernel))) e10 hA, T10⟩, fun i hi => ?_⟩
  · simp only [gXB, List.mem_cons, List.not_mem_nil, or_false] at hw
    rcases hw with rfl | rfl | rfl | rfl | rfl | rfl
    · exact va_Nw.of rfl (hts _ (List.mem_of_getElem? (i := 157) (by decide +kernel)))
    · exact va_Nw.of rfl (hts _ (List.mem_of_getElem? (i := 159) (by decide +kernel)))
    · exact va_Nw.of rfl (hts _ (List.mem_of_getElem? (i := 161) (by decide +kernel)))
    · exact va_Nw.of rfl (hts _ (List.mem_of_getElem? (i := 155) (by decide +kernel)))
    · exact va_Nw.of rfl (hts _ (List.mem_of_getElem? (i := 227) (by decide +kernel)))
    · exact va_Nw.of rfl (hts _ (List.mem_of_getElem? (i := 356) (by decide +kernel)))
  · simp only [gXs, List.mem_cons, List.not_mem_nil, or_false] at hw
    rcases hw with rfl | rfl | rfl | rfl | rfl | rfl | rfl | rfl | rfl | rfl
    · obtain ⟨a, c, cell, k, q1, -⟩ := Cond.exactly_spec (show (Cond.exactly (.string "Nestlimit" 136) "java/lang/String").before #[Value.ref b] s = true from (hs _ (List.mem_of_getElem? (i := 391) (by decide +kernel))))
      exact ⟨a, vk_R.of (hts _ (List.mem_of_getElem? (i := 592) (by decide +kernel))) q1⟩
    · obtain ⟨a, c, cell, k, q1, -⟩ := Cond.exactly_spec (show (Cond.exactly (.string "Nestlimit" 192) "java/lang/String").before #[Value.ref b] s = true from (hs _ (List.mem_of_getElem? (i := 228) (by decide +kernel))))
      exact ⟨a, vk_R.of (hts _ (List.mem_of_getElem? (i := 495) (by decide +kernel))) q1⟩
    · obtain ⟨a, c, cell, k, q1, -⟩ := Cond.exactly_spec (show (Cond.exactly (.string "Nestlimit" 205) "java/lang/String").before #[Value.ref b] s = true from (hs _ (List.mem_of_getElem? (i := 259) (by decide +kernel))))
      exact ⟨a, vk_R.of (hts _ (List.mem_of_getElem? (i := 504) (by decide +kernel))) q1⟩
    · obtain ⟨a, c, cell, k, q1, -⟩ := Cond.exactly_spec (show (Cond.exactly (.string "Nestlimit" 215) "java/lang/String").before #[Value.ref b] s = true from (hs _ (List.mem_of_getElem? (i := 283) (by decide +kernel))))
      exact ⟨a, vk_R.of (hts _ (List.mem_of_getElem? (i := 523) (by decide +kernel))) q1⟩
    · obtain ⟨a, c, cell, k, q1, -⟩ := Cond.exactly_spec (show (Cond.exactly (.string "Nestlimit" 223) "java/lang/String").before #[Value.ref b] s = true from (hs _ (List.mem_of_getElem? (i := 317) (by decide +kernel))))
      exact ⟨a, vk_R.of (hts _ (List.mem_of_getElem? (i := 528) (by decide +kernel))) q1⟩
    · obtain ⟨a, c, cell, k, q1, -⟩ := Cond.exactly_spec (show (Cond.exactly (.string "Nestlimit" 234) "java/lang/String").before #[Value.ref b] s = true from (hs _ (List.mem_of_getElem? (i := 350) (by decide +kernel))))
      exact ⟨a, vk_R.of (hts _ (List.mem_of_getElem? (i := 534) (by decide +kernel))) q1⟩
    · obtain ⟨a, c, cell, k, q1, -⟩ := Cond.exactly_spec (show (Cond.exactly (.string "Nestlimit" 247) "java/lang/String").before #[Value.ref b] s = true from (hs _ (List.mem_of_getElem? (i := 110) (by decide +kernel))))
      exact ⟨a, vk_R.of (hts _ (List.mem_of_getElem? (i := 194) (by decide +kernel))) q1⟩
    · obtain ⟨a, c, cell, k, q1, -⟩ := Cond.exactly_spec (show (Cond.exactly (.string "Nestlimit" 250) "java/lang/String").before #[Value.ref b] s = true from (hs _ (List.mem_of_getElem? (i := 145) (by decide +kernel))))
      exact ⟨a, vk_R.of (hts _ (List.mem_of_getElem? (i := 234) (by decide +kernel))) q1⟩
    · obtain ⟨a, c, cell, k, q1, -⟩ := Cond.exactly_spec (show (Cond.exactly (.string "Nestlimit" 254) "java/lang/String").before #[Value.ref b] s = true from (hs _ (List.mem_of_getElem? (i := 171) (by decide +kernel))))
      exact ⟨a, vk_R.of (hts _ (List.mem_of_getElem? (i := 363) (by decide +kernel))) q1⟩
    · obtain ⟨a, c, cell, k, q1, -⟩ := Cond.exactly_spec (show (Cond.exactly (.string "Nestlimit" 257) "java/lang/String").before #[Value.ref b] s = true from (hs _ (List.mem_of_getElem? (i := 201) (by decide +kernel))))
      exact ⟨a, vk_R.of (hts _ (List.mem_of_getElem? (i := 453) (by decide +kernel))) q1⟩
  · rcases (show i = 0 ∨ i = 1 ∨ i = 2 ∨ i = 3 ∨ i = 4 ∨ i = 5 ∨ i = 6 ∨ i = 7 ∨ i = 8 by omega) with rfl | rfl | rfl | rfl | rfl | rfl | rfl | rfl | rfl
    · exact ⟨z0, o0, f0⟩
    · exact ⟨z1, o1, f1⟩
    · exact ⟨z2, o2, f2⟩
    · exact ⟨z3, o3, f3⟩
    · exact ⟨z4, o4, f4⟩
    · exact ⟨z5, o5, f5⟩
    · exact ⟨z6, o6, f6⟩
    · exact ⟨z7, o7, f7⟩
    · exact ⟨z8, o8, f8⟩
theorem gN_start {s : State} {b : Nat} (hts : ∀ w ∈ lw_tbl, w.before #[Value.ref b] s = true) : gN s := by
  intro w hw
  simp only [gNl, List.mem_cons, List.not_mem_nil, or_false] at hw
  rcases hw with rfl | rfl | rfl | rfl | rfl | rfl | rfl | rfl | rfl
  · exact va_Nw.of rfl (hts _ (List.mem_of_getElem? (i := 46) (by decide +kernel)))
  · exact va_Nw.of rfl (hts _ (List.mem_of_getElem? (i := 86) (by decide +kernel)))
  · exact va_Nw.of rfl (hts _ (List.mem_of_getElem? (i := 308) (by decide +kernel)))
  · exact va_Nw.of rfl (hts _ (List.mem_of_getElem? (i := 386) (by decide +kernel)))
  · exact va_Nw.of rfl (hts _ (List.mem_of_getElem? (i := 387) (by decide +kernel)))
  · exact va_Nw.of rfl (hts _ (List.mem_of_getElem? (i := 397) (by decide +kernel)))
  · exact va_Nw.of rfl (hts _ (List.mem_of_getElem? (i := 400) (by decide +kernel)))
  · exact va_Nw.of rfl (hts _ (List.mem_of_getElem? (i := 588) (by decide +kernel)))
  · exact va_Nw.of rfl (hts _ (List.mem_of_getElem? (i := 517) (by decide +kernel)))
set_option maxRecDepth 100000 in
theorem gNc_start {s : State} {b : Nat} (hgv : (Jvm.Cond.and given_1 narrow_1).before #[Value.ref b] s = true) : gNc s := by
  have hs := flat_of_before _ hgv
  exact ⟨va_Nc.of (hs _ (List.mem_of_getElem? (i := 87) (by decide +kernel))), va_Nc.of (hs _ (List.mem_of_getElem? (i := 88) (by decide +kernel))), va_Nc.of (hs _ (List.mem_of_getElem? (i := 96) (by decide +kernel)))⟩
theorem gK_start {s : State} {b : Nat} (hts : ∀ w ∈ lw_tbl, w.before #[Value.ref b] s = true) : ∃ (D : va_G) (y : Nat → ClassId), gK D y s ∧ va_AO "Nestlimit$Program" s := by
  obtain ⟨c0, i0, k0⟩ := u_known (C := RX1) (T := TX1) (N := 2) (n := 2) hts inX1 (hts _ (List.mem_of_getElem? (i := 85) (by decide +kernel)))
  obtain ⟨c1, i1, k1⟩ := u_known (C := RX2) (T := TX2) (N := 3) (n := 3) hts inX2 (hts _ (List.mem_of_getElem? (i := 45) (by decide +kernel)))
  obtain ⟨c2, i2, k2⟩ := u_known (C := RX4) (T := TX4) (N := 4) (n := 4) hts inX4 (hts _ (List.mem_of_getElem? (i := 566) (by decide +kernel)))
  obtain ⟨c3, i3, k3⟩ := u_known (C := RX5) (T := TX5) (N := 8) (n := 8) hts inX5 (hts _ (List.mem_of_getElem? (i := 241) (by decide +kernel)))
  obtain ⟨c4, i4, k4⟩ := u_known (C := RX6) (T := TX6) (N := 3) (n := 3) hts inX6 (hts _ (List.mem_of_getElem? (i := 67) (by decide +kernel)))
  obtain ⟨c5, i5, k5⟩ := u_known (C := RX7) (T := TX7) (N := 8) (n := 8) hts inX7 (hts _ (List.mem_of_getElem? (i := 35) (by decide +kernel)))
  obtain ⟨ac, ak, ap, a1, a2, a3⟩ := Cond.arrayClass_spec (show (Cond.arrayClass .int).before #[Value.ref b] s = true from (hts _ (List.mem_of_getElem? (i := 639) (by decide +kernel))))
  obtain ⟨gc, gk, gp, g1, g2, g3⟩ := Cond.arrayClass_spec (show (Cond.arrayClass .long).before #[Value.ref b] s = true from (hts _ (List.mem_of_getElem? (i := 83) (by decide +kernel))))
  obtain ⟨zc, zk, zp, z1, z2, z3⟩ := Cond.arrayClass_spec (show (Cond.arrayClass .boolean).before #[Value.ref b] s = true from (hts _ (List.mem_of_getElem? (i := 82) (by decide +kernel))))
  have hO : va_AO "Nestlimit$Program" s := va_AO.of (hts _ (List.mem_of_getElem? (i := 43) (by decide +kernel)))
  obtain ⟨pp, pc, pk, p1, p2, p3, p4, p5⟩ := Cond.arrayOver_spec (va_AO.use (A := #[]) hO)
  refine ⟨(fun k => match k with
    | 0 => c0
    | 1 => c1
    | 2 => c2
    | 3 => c3
    | 4 => c4
    | _ => c5, fun k => match k with
    | 0 => i0
    | 1 => i1
    | 2 => i2
    | 3 => i3
    | 4 => i4
    | _ => i5), (fun k => match k with
    | 0 => ac
    | 1 => gc
    | 2 => zc
    | _ => pc), ⟨⟨fun k q hq => ?_, fun k q hq => ?_⟩, gN_start hts⟩, hO⟩
  · match k, hq with
    | 0, hq => cases hq; exact k0
    | 1, hq => cases hq; exact k1
    | 2, hq => cases hq; exact k2
    | 3, hq => cases hq; exact k3
    | 4, hq => cases hq; exact k4
    | 5, hq => cases hq; exact k5
    | k + 6, hq => simp [vwCl] at hq
  · match k, hq with
    | 0, hq => cases hq; exact ⟨fun N z => ⟨(fun k h => by cases h), ak, a2, ap, a3⟩, a1⟩
    | 1, hq => cases hq; exact ⟨fun N z => ⟨(fun k h => by cases h), gk, g2, gp, g3⟩, g1⟩
    | 2, hq => cases hq; exact ⟨fun N z => ⟨(fun k h => by cases h), zk, z2, zp, z3⟩, z1⟩
    | 3, hq => cases hq; exact ⟨fun N z => ⟨(fun k h => by cases h), pk, p3, pp, p4⟩, pk, pp, p3, p4, p1, p5⟩
    | k + 4, hq => simp [gT] at hq
theorem gPA_blind {D : va_G} {y : Nat → ClassId} {av : List Value} {wc : va_W} {sz : Nat} : FrameBlind (gPA D y av wc sz) := fun a U g mk q => ⟨q.1, q.2.1, q.2.2.1, gK.calling g mk a q.2.2.2.1, q.2.2.2.2.1, va_AO.moved (u := U) (U := U.calling g mk a) (Vm.Alike.refl U.vm) q.2.2.2.2.2⟩
theorem gPA_SA {s : State} {H : Heap} {A : Nat → Prop} {D : va_G} {y : Nat → ClassId} {ws : va_W} {As : List Value} (hP : va_P D vwCl ws H) (hD : va_D A ws) (hK : gK D y s) (hO : va_AO "Nestlimit$Program" s) : PreS s H (gPA D y As ws H.size) As :=
  ⟨gPA_blind, fun U hU hW => ⟨rfl, by rw [hU], by rw [hU]; exact hP, hK.warm hW, hD.weaken (fun _ _ _ _ => trivial), hO.moved hW.alike⟩⟩
