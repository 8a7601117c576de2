section GST
variable {p : Program} {l : Launch} {e : Env} {s : State} {m : MethodId} {below : List Frame} {meth : Method} {c : Code} {H : Heap} {locs : List Loc} {cells slots : Nat} {Q : State → Prop}
variable {ls : Array Slot} {D : va_G} {y : Nat → ClassId} {ad : Nat → Nat} {b L : Nat} {xs : Nat → Int32}
set_option maxHeartbeats 4000000 in
set_option maxRecDepth 100000 in
theorem st_ratio (C : lwC p l s m meth c b L xs D y ad) {i : Nat} (hi : i + 7 ≤ L) {hX1 h8 oa : Nat} {qX q8 : Nat → Nat} (hl : lv_has ls 8 [(0, .ref b), (1, .ref hX1), (2, .ref h8), (3, .ref oa), (4, .int (nI i))]) {ws : va_W} (hW : SimW y ad hX1 qX h8 q8 oa ws) (hP : va_P D vwCl ws H) (hD : va_D (lA s) ws) (hS : va_S (lA s) s.heap H locs) (hroom : cells + 10 ≤ 601024 ∧ slots + 168 ≤ 7293034) (KK : stK p l e s m below meth c Q b D y ad hX1 qX h8 q8 oa i cells slots) : W p l e room_1 s m #[Value.ref b] below meth c H locs cells slots Q (F0 m 152 ls []) := by
  obtain ⟨of, n, b1, l1, r1, b2, l2, r2, b3, l3, r3, uz, ul, uh, f1, g1, f2, g2, pa, kd, on, ot, pt, fb, fl, fh, tb, tl, th, dg, ds, tw, ki, on8, ot8, ab, be, zA, zB, zC, zD, zF, zT, fo, lw, hg, at_, tl8, th8, wo, wl, wh, is_, lo_, hi_, di, su, an, rfl, hSim⟩ := hW
  have hn := hSim.1.1
  rcases q_inC (xs (i + 1)) (-1000) 1000 with ⟨hb1, hp1⟩ | ⟨h1, h2, h3⟩
  · refine lz_ratio C hi rfl rfl hl hP hD hS rfl (fun sz => c_L_ratio_X1a l C.2.2.2.2.2 D y ad sz hX1 qX n b1 l1 r1 b2 l2 r2 b3 l3 r3 uz ul uh f1 g1 f2 g2 pa kd on ot pt fb fl fh tb tl th dg ds (xs (i + 1)) (xs (i + 2)) oa of hb1) rfl rfl ⟨by decide, by decide⟩ ⟨by omega, by omega⟩ (fun sz => c_X8_ratio_1 l D y sz h8 q8 tw n ki on8 ot8 ab be zA zB zC zD zF zT fo lw hg at_ tl8 th8 wo wl wh is_ lo_ hi_ di su an (xs (i + 1)) (xs (i + 2)) (fun z => hp1 z.1)) rfl rfl ⟨by decide, by decide⟩ (fun v w hf => ?_) (fun v w hf => ?_) (fun k9 of9 wr9 a9 w9 hf hf9 => ?_)
    · obtain ⟨rfl, rfl⟩ := hf
      exact ⟨_, _, _, rfl, rfl⟩
    · obtain ⟨rfl, _⟩ := hf
      exact ⟨_, rfl⟩
    · obtain ⟨hk9, hw9⟩ := hf
      obtain ⟨ha9, hv9⟩ := hf9
      subst hv9
      cases hk9
      cases ha9
      refine ⟨fun sz => c_X8_thrown l D y sz _ _ _ _ _ _ _ _ _ _ _ _ _ _ _ _ _ _ _ _ _ _ _ _ _ _ _ _ _ _, ⟨_, rfl⟩, fun z => absurd z (by decide), fun H locs ls hP hD hS hl => ?_⟩
      rw [hw9] at hP hD
      refine W.widen (by omega) (by omega) (KK _ H locs ls ?_ hP hD hS hl)
      exact SimW_mk (hSim)
  · rcases q_inC (xs (i + 2)) 1 1000 with ⟨hb2, hp2⟩ | ⟨h4, h5, h6⟩
    · refine lz_ratio C hi rfl rfl hl hP hD hS rfl (fun sz => c_L_ratio_X1b l C.2.2.2.2.2 D y ad sz hX1 qX n b1 l1 r1 b2 l2 r2 b3 l3 r3 uz ul uh f1 g1 f2 g2 pa kd on ot pt fb fl fh tb tl th dg ds (xs (i + 1)) (xs (i + 2)) oa of h1 h2 hb2) rfl rfl ⟨by decide, by decide⟩ ⟨by omega, by omega⟩ (fun sz => c_X8_ratio_1 l D y sz h8 q8 tw n ki on8 ot8 ab be zA zB zC zD zF zT fo lw hg at_ tl8 th8 wo wl wh is_ lo_ hi_ di su an (xs (i + 1)) (xs (i + 2)) (fun z => hp2 z.2)) rfl rfl ⟨by decide, by decide⟩ (fun v w hf => ?_) (fun v w hf => ?_) (fun k9 of9 wr9 a9 w9 hf hf9 => ?_)
      · obtain ⟨rfl, rfl⟩ := hf
        exact ⟨_, _, _, rfl, rfl⟩
      · obtain ⟨rfl, _⟩ := hf
        exact ⟨_, rfl⟩
      · obtain ⟨hk9, hw9⟩ := hf
        obtain ⟨ha9, hv9⟩ := hf9
        subst hv9
        cases hk9
        cases ha9
        refine ⟨fun sz => c_X8_thrown l D y sz _ _ _ _ _ _ _ _ _ _ _ _ _ _ _ _ _ _ _ _ _ _ _ _ _ _ _ _ _ _, ⟨_, rfl⟩, fun z => absurd z (by decide), fun H locs ls hP hD hS hl => ?_⟩
        rw [hw9] at hP hD
        refine W.widen (by omega) (by omega) (KK _ H locs ls ?_ hP hD hS hl)
        exact SimW_mk (hSim)
    · by_cases h40 : n < 40
      · refine lz_ratio C hi rfl rfl hl hP hD hS rfl (fun sz => c_L_ratio_0 l C.2.2.2.2.2 D y ad sz hX1 qX n b1 l1 r1 b2 l2 r2 b3 l3 r3 uz ul uh f1 g1 f2 g2 pa kd on ot pt fb fl fh tb tl th dg ds (xs (i + 1)) (xs (i + 2)) oa of h1 h2 h4 h5 h40) rfl rfl ⟨by decide, by decide⟩ ⟨by omega, by omega⟩ (fun sz => c_X8_ratio_0 l D y sz h8 q8 tw n ki on8 ot8 ab be zA zB zC zD zF zT fo lw hg at_ tl8 th8 wo wl wh is_ lo_ hi_ di su an (xs (i + 1)) (xs (i + 2)) (fun p => (rtX (xs (i + 1)) (xs (i + 2)) p).1) (fun p => (rtX (xs (i + 1)) (xs (i + 2)) p).2.1) (fun p => (rtX (xs (i + 1)) (xs (i + 2)) p).2.2) h40 h3 h6 (mk0_can (q_rtO h1 h2 h4))) rfl rfl ⟨by decide, by decide⟩ (fun v w hf => ?_) (fun v w hf => ?_) (fun k9 of9 wr9 a9 w9 hf hf9 => ?_)
        · obtain ⟨_, _, _, _, _, _, _, _, _, _, _, _, _, _, _, _, _, _, _, _, _, _, _, rfl, rfl, _⟩ := hf
          exact ⟨_, _, _, rfl, rfl⟩
        · obtain ⟨_, _, _, _, _, _, _, _, _, rfl, _⟩ := hf
          exact ⟨_, rfl⟩
        · obtain ⟨yb1, yl1, yr1, yb2, yl2, yr2, yb3, yl3, yr3, yuz, yul, yuh, yf1, yg1, yf2, yg2, nan, fbn, fln, fhn, tbn, tln, thn, hk9, hw9, pl0, pl1⟩ := hf
          obtain ⟨fo1, lw1, hg1, at1, tl1, th1, is1, lo1, hi1, ha9, hv9, pr0, pr1⟩ := hf9
          subst hv9
          cases hk9
          cases ha9
          have ho9 : of9 0 = _ := (congrFun (g_of9 hw9) 0).trans (updL_at9 of 0 _)
          refine ⟨fun sz => c_X8_thrown l D y sz _ _ _ _ _ _ _ _ _ _ _ _ _ _ _ _ _ _ _ _ _ _ _ _ _ _ _ _ _ _, ⟨_, rfl⟩, fun _ => ho9.trans (rfl), fun H locs ls hP hD hS hl => ?_⟩
          rw [hw9] at hP hD
          refine W.widen (by omega) (by omega) (KK _ H locs ls ?_ hP hD hS hl)
          exact SimW_mk (mk0_sim hSim h40 (q_rtO h1 h2 h4) pl0 pl1 pr0 pr1)
      · refine lz_ratio C hi rfl rfl hl hP hD hS rfl (fun sz => c_L_ratio_X2 l C.2.2.2.2.2 D y ad sz hX1 qX n b1 l1 r1 b2 l2 r2 b3 l3 r3 uz ul uh f1 g1 f2 g2 pa kd on ot pt fb fl fh tb tl th dg ds (xs (i + 1)) (xs (i + 2)) oa of h1 h2 h4 h5 h40 hn) rfl rfl ⟨by decide, by decide⟩ ⟨by omega, by omega⟩ (fun sz => c_X8_ratio_2 l D y sz h8 q8 tw n ki on8 ot8 ab be zA zB zC zD zF zT fo lw hg at_ tl8 th8 wo wl wh is_ lo_ hi_ di su an (xs (i + 1)) (xs (i + 2)) h3 h6 (q_full hn h40)) rfl rfl ⟨by decide, by decide⟩ (fun v w hf => ?_) (fun v w hf => ?_) (fun k9 of9 wr9 a9 w9 hf hf9 => ?_)
        · obtain ⟨rfl, rfl⟩ := hf
          exact ⟨_, _, _, rfl, rfl⟩
        · obtain ⟨rfl, _⟩ := hf
          exact ⟨_, rfl⟩
        · obtain ⟨hk9, hw9⟩ := hf
          obtain ⟨ha9, hv9⟩ := hf9
          subst hv9
          cases hk9
          cases ha9
          refine ⟨fun sz => c_X8_thrown l D y sz _ _ _ _ _ _ _ _ _ _ _ _ _ _ _ _ _ _ _ _ _ _ _ _ _ _ _ _ _ _, ⟨_, rfl⟩, fun z => absurd z (by decide), fun H locs ls hP hD hS hl => ?_⟩
          rw [hw9] at hP hD
          refine W.widen (by omega) (by omega) (KK _ H locs ls ?_ hP hD hS hl)
          exact SimW_mk (hSim)
set_option maxHeartbeats 4000000 in
set_option maxRecDepth 100000 in
theorem st_sum (C : lwC p l s m meth c b L xs D y ad) {i : Nat} (hi : i + 7 ≤ L) {hX1 h8 oa : Nat} {qX q8 : Nat → Nat} (hl : lv_has ls 8 [(0, .ref b), (1, .ref hX1), (2, .ref h8), (3, .ref oa), (4, .int (nI i))]) {ws : va_W} (hW : SimW y ad hX1 qX h8 q8 oa ws) (hP : va_P D vwCl ws H) (hD : va_D (lA s) ws) (hS : va_S (lA s) s.heap H locs) (hroom : cells + 10 ≤ 601024 ∧ slots + 168 ≤ 7293034) (KK : stK p l e s m below meth c Q b D y ad hX1 qX h8 q8 oa i cells slots) : W p l e room_1 s m #[Value.ref b] below meth c H locs cells slots Q (F0 m 220 ls []) := by
  obtain ⟨of, n, b1, l1, r1, b2, l2, r2, b3, l3, r3, uz, ul, uh, f1, g1, f2, g2, pa, kd, on, ot, pt, fb, fl, fh, tb, tl, th, dg, ds, tw, ki, on8, ot8, ab, be, zA, zB, zC, zD, zF, zT, fo, lw, hg, at_, tl8, th8, wo, wl, wh, is_, lo_, hi_, di, su, an, rfl, hSim⟩ := hW
  have hn := hSim.1.1
  rcases q_isP hn (xs (i + 1)) with ⟨k, hk, e1⟩ | ⟨hb1, hp1⟩
  · rcases q_isP hn (xs (i + 2)) with ⟨j, hj, e2⟩ | ⟨hb2, hp2⟩
    · by_cases h40 : n < 40
      · refine lz_sum C hi e1 e2 hl hP hD hS rfl (fun sz => c_L_sum_0 l C.2.2.2.2.2 D y ad sz hX1 qX n b1 l1 r1 b2 l2 r2 b3 l3 r3 uz ul uh f1 g1 f2 g2 pa kd on ot pt fb fl fh tb tl th dg ds k j oa of h40 hk hj) rfl rfl ⟨by decide, by decide⟩ ⟨by omega, by omega⟩ (fun sz => c_X8_sum_0 l D y sz h8 q8 tw n ki on8 ot8 ab be zA zB zC zD zF zT fo lw hg at_ tl8 th8 wo wl wh is_ lo_ hi_ di su an k j (fun p => (mkX fb fl fh 1 k j p).1) (fun p => (mkX fb fl fh 1 k j p).2.1) (fun p => (mkX fb fl fh 1 k j p).2.2) h40 hk hj (q_isPk hn hk) (q_isPk hn hj) (mk2_can hSim (by decide) (by decide) hk hj) (mk2_no hSim hk hj)) rfl rfl ⟨by decide, by decide⟩ (fun v w hf => ?_) (fun v w hf => ?_) (fun k9 of9 wr9 a9 w9 hf hf9 => ?_)
        · obtain ⟨_, _, _, _, _, _, _, _, _, _, _, _, _, _, _, _, _, _, _, _, _, _, _, rfl, rfl, _⟩ := hf
          exact ⟨_, _, _, rfl, rfl⟩
        · obtain ⟨_, _, _, _, _, _, _, _, _, rfl, _⟩ := hf
          exact ⟨_, rfl⟩
        · obtain ⟨yb1, yl1, yr1, yb2, yl2, yr2, yb3, yl3, yr3, yuz, yul, yuh, yf1, yg1, yf2, yg2, nan, fbn, fln, fhn, tbn, tln, thn, hk9, hw9, pl0, pl1⟩ := hf
          obtain ⟨fo1, lw1, hg1, at1, tl1, th1, is1, lo1, hi1, ha9, hv9, pr0, pr1⟩ := hf9
          subst hv9
          cases hk9
          cases ha9
          have ho9 : of9 0 = _ := (congrFun (g_of9 hw9) 0).trans (updL_at9 of 0 _)
          refine ⟨fun sz => c_X8_thrown l D y sz _ _ _ _ _ _ _ _ _ _ _ _ _ _ _ _ _ _ _ _ _ _ _ _ _ _ _ _ _ _, ⟨_, rfl⟩, fun _ => ho9.trans (rfl), fun H locs ls hP hD hS hl => ?_⟩
          rw [hw9] at hP hD
          refine W.widen (by omega) (by omega) (KK _ H locs ls ?_ hP hD hS hl)
          exact SimW_mk (mk2_sim hSim h40 (by decide) (by decide) hk hj pl0 pl1 pr0 pr1)
      · refine lz_sum C hi e1 e2 hl hP hD hS rfl (fun sz => c_L_sum_X2 l C.2.2.2.2.2 D y ad sz hX1 qX n b1 l1 r1 b2 l2 r2 b3 l3 r3 uz ul uh f1 g1 f2 g2 pa kd on ot pt fb fl fh tb tl th dg ds k j oa of hn hk hj h40) rfl rfl ⟨by decide, by decide⟩ ⟨by omega, by omega⟩ (fun sz => c_X8_sum_2 l D y sz h8 q8 tw n ki on8 ot8 ab be zA zB zC zD zF zT fo lw hg at_ tl8 th8 wo wl wh is_ lo_ hi_ di su an (nI k) (nI j) (q_isPk hn hk) (q_isPk hn hj) (q_full hn h40)) rfl rfl ⟨by decide, by decide⟩ (fun v w hf => ?_) (fun v w hf => ?_) (fun k9 of9 wr9 a9 w9 hf hf9 => ?_)
        · obtain ⟨rfl, rfl⟩ := hf
          exact ⟨_, _, _, rfl, rfl⟩
        · obtain ⟨rfl, _⟩ := hf
          exact ⟨_, rfl⟩
        · obtain ⟨hk9, hw9⟩ := hf
          obtain ⟨ha9, hv9⟩ := hf9
          subst hv9
          cases hk9
          cases ha9
          refine ⟨fun sz => c_X8_thrown l D y sz _ _ _ _ _ _ _ _ _ _ _ _ _ _ _ _ _ _ _ _ _ _ _ _ _ _ _ _ _ _, ⟨_, rfl⟩, fun z => absurd z (by decide), fun H locs ls hP hD hS hl => ?_⟩
          rw [hw9] at hP hD
          refine W.widen (by omega) (by omega) (KK _ H locs ls ?_ hP hD hS hl)
          exact SimW_mk (hSim)
    · refine lz_sum C hi e1 rfl hl hP hD hS rfl (fun sz => c_L_sum_X1b l C.2.2.2.2.2 D y ad sz hX1 qX n b1 l1 r1 b2 l2 r2 b3 l3 r3 uz ul uh f1 g1 f2 g2 pa kd on ot pt fb fl fh tb tl th dg ds k (xs (i + 2)) oa of hn hk hb2) rfl rfl ⟨by decide, by decide⟩ ⟨by omega, by omega⟩ (fun sz => c_X8_sum_1 l D y sz h8 q8 tw n ki on8 ot8 ab be zA zB zC zD zF zT fo lw hg at_ tl8 th8 wo wl wh is_ lo_ hi_ di su an (nI k) (xs (i + 2)) (fun z => hp2 z.2)) rfl rfl ⟨by decide, by decide⟩ (fun v w hf => ?_) (fun v w hf => ?_) (fun k9 of9 wr9 a9 w9 hf hf9 => ?_)
      · obtain ⟨rfl, rfl⟩ := hf
        exact ⟨_, _, _, rfl, rfl⟩
      · obtain ⟨rfl, _⟩ := hf
        exact ⟨_, rfl⟩
      · obtain ⟨hk9, hw9⟩ := hf
        obtain ⟨ha9, hv9⟩ := hf9
        subst hv9
        cases hk9
        cases ha9
        refine ⟨fun sz => c_X8_thrown l D y sz _ _ _ _ _ _ _ _ _ _ _ _ _ _ _ _ _ _ _ _ _ _ _ _ _ _ _ _ _ _, ⟨_, rfl⟩, fun z => absurd z (by decide), fun H locs ls hP hD hS hl => ?_⟩
        rw [hw9] at hP hD
        refine W.widen (by omega) (by omega) (KK _ H locs ls ?_ hP hD hS hl)
        exact SimW_mk (hSim)
  · refine lz_sum C hi rfl rfl hl hP hD hS rfl (fun sz => c_L_sum_X1a l C.2.2.2.2.2 D y ad sz hX1 qX n b1 l1 r1 b2 l2 r2 b3 l3 r3 uz ul uh f1 g1 f2 g2 pa kd on ot pt fb fl fh tb tl th dg ds (xs (i + 1)) (xs (i + 2)) oa of hb1) rfl rfl ⟨by decide, by decide⟩ ⟨by omega, by omega⟩ (fun sz => c_X8_sum_1 l D y sz h8 q8 tw n ki on8 ot8 ab be zA zB zC zD zF zT fo lw hg at_ tl8 th8 wo wl wh is_ lo_ hi_ di su an (xs (i + 1)) (xs (i + 2)) (fun z => hp1 z.1)) rfl rfl ⟨by decide, by decide⟩ (fun v w hf => ?_) (fun v w hf => ?_) (fun k9 of9 wr9 a9 w9 hf hf9 => ?_)
    · obtain ⟨rfl, rfl⟩ := hf
      exact ⟨_, _, _, rfl, rfl⟩
    · obtain ⟨rfl, _⟩ := hf
      exact ⟨_, rfl⟩
    · obtain ⟨hk9, hw9⟩ := hf
      obtain ⟨ha9, hv9⟩ := hf9
      subst hv9
      cases hk9
      cases ha9
      refine ⟨fun sz => c_X8_thrown l D y sz _ _ _ _ _ _ _ _ _ _ _ _ _ _ _ _ _ _ _ _ _ _ _ _ _ _ _ _ _ _, ⟨_, rfl⟩, fun z => absurd z (by decide), fun H locs ls hP hD hS hl => ?_⟩
      rw [hw9] at hP hD
      refine W.widen (by omega) (by omega) (KK _ H locs ls ?_ hP hD hS hl)
      exact SimW_mk (hSim)
set_option maxHeartbeats 4000000 in
set_option maxRecDepth 100000 in
theorem st_difference (C : lwC p l s m meth c b L xs D y ad) {i : Nat} (hi : i + 7 ≤ L) {hX1 h8 oa : Nat} {qX q8 : Nat → Nat} (hl : lv_has ls 8 [(0, .ref b), (1, .ref hX1), (2, .ref h8), (3, .ref oa), (4, .int (nI i))]) {ws : va_W} (hW : SimW y ad hX1 qX h8 q8 oa ws) (hP : va_P D vwCl ws H) (hD : va_D (lA s) ws) (hS : va_S (lA s) s.heap H locs) (hroom : cells + 10 ≤ 601024 ∧ slots + 168 ≤ 7293034) (KK : stK p l e s m below meth c Q b D y ad hX1 qX h8 q8 oa i cells slots) : W p l e room_1 s m #[Value.ref b] below meth c H locs cells slots Q (F0 m 288 ls []) := by
  obtain ⟨of, n, b1, l1, r1, b2, l2, r2, b3, l3, r3, uz, ul, uh, f1, g1, f2, g2, pa, kd, on, ot, pt, fb, fl, fh, tb, tl, th, dg, ds, tw, ki, on8, ot8, ab, be, zA, zB, zC, zD, zF, zT, fo, lw, hg, at_, tl8, th8, wo, wl, wh, is_, lo_, hi_, di, su, an, rfl, hSim⟩ := hW
  have hn := hSim.1.1
  rcases q_isP hn (xs (i + 1)) with ⟨k, hk, e1⟩ | ⟨hb1, hp1⟩
  · rcases q_isP hn (xs (i + 2)) with ⟨j, hj, e2⟩ | ⟨hb2, hp2⟩
    · by_cases h40 : n < 40
      · refine lz_difference C hi e1 e2 hl hP hD hS rfl (fun sz => c_L_difference_0 l C.2.2.2.2.2 D y ad sz hX1 qX n b1 l1 r1 b2 l2 r2 b3 l3 r3 uz ul uh f1 g1 f2 g2 pa kd on ot pt fb fl fh tb tl th dg ds k j oa of h40 hk hj) rfl rfl ⟨by decide, by decide⟩ ⟨by omega, by omega⟩ (fun sz => c_X8_difference_0 l D y sz h8 q8 tw n ki on8 ot8 ab be zA zB zC zD zF zT fo lw hg at_ tl8 th8 wo wl wh is_ lo_ hi_ di su an k j (fun p => (mkX fb fl fh 2 k j p).1) (fun p => (mkX fb fl fh 2 k j p).2.1) (fun p => (mkX fb fl fh 2 k j p).2.2) h40 hk hj (q_isPk hn hk) (q_isPk hn hj) (mk2_can hSim (by decide) (by decide) hk hj) (mk2_no hSim hk hj)) rfl rfl ⟨by decide, by decide⟩ (fun v w hf => ?_) (fun v w hf => ?_) (fun k9 of9 wr9 a9 w9 hf hf9 => ?_)
        · obtain ⟨_, _, _, _, _, _, _, _, _, _, _, _, _, _, _, _, _, _, _, _, _, _, _, rfl, rfl, _⟩ := hf
          exact ⟨_, _, _, rfl, rfl⟩
        · obtain ⟨_, _, _, _, _, _, _, _, _, rfl, _⟩ := hf
          exact ⟨_, rfl⟩
        · obtain ⟨yb1, yl1, yr1, yb2, yl2, yr2, yb3, yl3, yr3, yuz, yul, yuh, yf1, yg1, yf2, yg2, nan, fbn, fln, fhn, tbn, tln, thn, hk9, hw9, pl0, pl1⟩ := hf
          obtain ⟨fo1, lw1, hg1, at1, tl1, th1, is1, lo1, hi1, ha9, hv9, pr0, pr1⟩ := hf9
          subst hv9
          cases hk9
          cases ha9
          have ho9 : of9 0 = _ := (congrFun (g_of9 hw9) 0).trans (updL_at9 of 0 _)
          refine ⟨fun sz => c_X8_thrown l D y sz _ _ _ _ _ _ _ _ _ _ _ _ _ _ _ _ _ _ _ _ _ _ _ _ _ _ _ _ _ _, ⟨_, rfl⟩, fun _ => ho9.trans (rfl), fun H locs ls hP hD hS hl => ?_⟩
          rw [hw9] at hP hD
          refine W.widen (by omega) (by omega) (KK _ H locs ls ?_ hP hD hS hl)
          exact SimW_mk (mk2_sim hSim h40 (by decide) (by decide) hk hj pl0 pl1 pr0 pr1)
      · refine lz_difference C hi e1 e2 hl hP hD hS rfl (fun sz => c_L_difference_X2 l C.2.2.2.2.2 D y ad sz hX1 qX n b1 l1 r1 b2 l2 r2 b3 l3 r3 uz ul uh f1 g1 f2 g2 pa kd on ot pt fb fl fh tb tl th dg ds k j oa of hn hk hj h40) rfl rfl ⟨by decide, by decide⟩ ⟨by omega, by omega⟩ (fun sz => c_X8_difference_2 l D y sz h8 q8 tw n ki on8 ot8 ab be zA zB zC zD zF zT fo lw hg at_ tl8 th8 wo wl wh is_ lo_ hi_ di su an (nI k) (nI j) (q_isPk hn hk) (q_isPk hn hj) (q_full hn h40)) rfl rfl ⟨by decide, by decide⟩ (fun v w hf => ?_) (fun v w hf => ?_) (fun k9 of9 wr9 a9 w9 hf hf9 => ?_)
        · obtain ⟨rfl, rfl⟩ := hf
          exact ⟨_, _, _, rfl, rfl⟩
        · obtain ⟨rfl, _⟩ := hf
          exact ⟨_, rfl⟩
        · obtain ⟨hk9, hw9⟩ := hf
          obtain ⟨ha9, hv9⟩ := hf9
          subst hv9
          cases hk9
          cases ha9
          refine ⟨fun sz => c_X8_thrown l D y sz _ _ _ _ _ _ _ _ _ _ _ _ _ _ _ _ _ _ _ _ _ _ _ _ _ _ _ _ _ _, ⟨_, rfl⟩, fun z => absurd z (by decide), fun H locs ls hP hD hS hl => ?_⟩
          rw [hw9] at hP hD
          refine W.widen (by omega) (by omega) (KK _ H locs ls ?_ hP hD hS hl)
          exact SimW_mk (hSim)
    · refine lz_difference C hi e1 rfl hl hP hD hS rfl (fun sz => c_L_difference_X1b l C.2.2.2.2.2 D y ad sz hX1 qX n b1 l1 r1 b2 l2 r2 b3 l3 r3 uz ul uh f1 g1 f2 g2 pa kd on ot pt fb fl fh tb tl th dg ds k (xs (i + 2)) oa of hn hk hb2) rfl rfl ⟨by decide, by decide⟩ ⟨by omega, by omega⟩ (fun sz => c_X8_difference_1 l D y sz h8 q8 tw n ki on8 ot8 ab be zA zB zC zD zF zT fo lw hg at_ tl8 th8 wo wl wh is_ lo_ hi_ di su an (nI k) (xs (i + 2)) (fun z => hp2 z.2)) rfl rfl ⟨by decide, by decide⟩ (fun v w hf => ?_) (fun v w hf => ?_) (fun k9 of9 wr9 a9 w9 hf hf9 => ?_)
      · obtain ⟨rfl, rfl⟩ := hf
        exact ⟨_, _, _, rfl, rfl⟩
      · obtain ⟨rfl, _⟩ := hf
        exact ⟨_, rfl⟩
      · obtain ⟨hk9, hw9⟩ := hf
        obtain ⟨ha9, hv9⟩ := hf9
        subst hv9
        cases hk9
        cases ha9
        refine ⟨fun sz => c_X8_thrown l D y sz _ _ _ _ _ _ _ _ _ _ _ _ _ _ _ _ _ _ _ _ _ _ _ _ _ _ _ _ _ _, ⟨_, rfl⟩, fun z => absurd z (by decide), fun H locs ls hP hD hS hl => ?_⟩
        rw [hw9] at hP hD
        refine W.widen (by omega) (by omega) (KK _ H locs ls ?_ hP hD hS hl)
        exact SimW_mk (hSim)
  · refine lz_difference C hi rfl rfl hl hP hD hS rfl (fun sz => c_L_difference_X1a l C.2.2.2.2.2 D y ad sz hX1 qX n b1 l1 r1 b2 l2 r2 b3 l3 r3 uz ul uh f1 g1 f2 g2 pa kd on ot pt fb fl fh tb tl th dg ds (xs (i + 1)) (xs (i + 2)) oa of hb1) rfl rfl ⟨by decide, by decide⟩ ⟨by omega, by omega⟩ (fun sz => c_X8_difference_1 l D y sz h8 q8 tw n ki on8 ot8 ab be zA zB zC zD zF zT fo lw hg at_ tl8 th8 wo wl wh is_ lo_ hi_ di su an (xs (i + 1)) (xs (i + 2)) (fun z => hp1 z.1)) rfl rfl ⟨by decide, by decide⟩ (fun v w hf => ?_) (fun v w hf => ?_) (fun k9 of9 wr9 a9 w9 hf hf9 => ?_)
    · obtain ⟨rfl, rfl⟩ := hf
      exact ⟨_, _, _, rfl, rfl⟩
    · obtain ⟨rfl, _⟩ := hf
      exact ⟨_, rfl⟩
    · obtain ⟨hk9, hw9⟩ := hf
      obtain ⟨ha9, hv9⟩ := hf9
      subst hv9
      cases hk9
      cases ha9
      refine ⟨fun sz => c_X8_thrown l D y sz _ _ _ _ _ _ _ _ _ _ _ _ _ _ _ _ _ _ _ _ _ _ _ _ _ _ _ _ _ _, ⟨_, rfl⟩, fun z => absurd z (by decide), fun H locs ls hP hD hS hl => ?_⟩
      rw [hw9] at hP hD
      refine W.widen (by omega) (by omega) (KK _ H locs ls ?_ hP hD hS hl)
      exact SimW_mk (hSim)
set_option maxHeartbeats 4000000 in
set_option maxRecDepth 100000 in
theorem st_product (C : lwC p l s m meth c b L xs D y ad) {i : Nat} (hi : i + 7 ≤ L) {hX1 h8 oa : Nat} {qX q8 : Nat → Nat} (hl : lv_has ls 8 [(0, .ref b), (1, .ref hX1), (2, .ref h8), (3, .ref oa), (4, .int (nI i))]) {ws : va_W} (hW : SimW y ad hX1 qX h8 q8 oa ws) (hP : va_P D vwCl ws H) (hD : va_D (lA s) ws) (hS : va_S (lA s) s.heap H locs) (hroom : cells + 10 ≤ 601024 ∧ slots + 168 ≤ 7293034) (KK : stK p l e s m below meth c Q b D y ad hX1 qX h8 q8 oa i cells slots) : W p l e room_1 s m #[Value.ref b] below meth c H locs cells slots Q (F0 m 356 ls []) := by
  obtain ⟨of, n, b1, l1, r1, b2, l2, r2, b3, l3, r3, uz, ul, uh, f1, g1, f2, g2, pa, kd, on, ot, pt, fb, fl, fh, tb, tl, th, dg, ds, tw, ki, on8, ot8, ab, be, zA, zB, zC, zD, zF, zT, fo, lw, hg, at_, tl8, th8, wo, wl, wh, is_, lo_, hi_, di, su, an, rfl, hSim⟩ := hW
  have hn := hSim.1.1
  rcases q_isP hn (xs (i + 1)) with ⟨k, hk, e1⟩ | ⟨hb1, hp1⟩
  · rcases q_isP hn (xs (i + 2)) with ⟨j, hj, e2⟩ | ⟨hb2, hp2⟩
    · by_cases h40 : n < 40
      · refine lz_product C hi e1 e2 hl hP hD hS rfl (fun sz => c_L_product_0 l C.2.2.2.2.2 D y ad sz hX1 qX n b1 l1 r1 b2 l2 r2 b3 l3 r3 uz ul uh f1 g1 f2 g2 pa kd on ot pt fb fl fh tb tl th dg ds k j oa of h40 hk hj) rfl rfl ⟨by decide, by decide⟩ ⟨by omega, by omega⟩ (fun sz => c_X8_product_0 l D y sz h8 q8 tw n ki on8 ot8 ab be zA zB zC zD zF zT fo lw hg at_ tl8 th8 wo wl wh is_ lo_ hi_ di su an k j (fun p => (mkX fb fl fh 3 k j p).1) (fun p => (mkX fb fl fh 3 k j p).2.1) (fun p => (mkX fb fl fh 3 k j p).2.2) h40 hk hj (q_isPk hn hk) (q_isPk hn hj) (mk2_can hSim (by decide) (by decide) hk hj) (mk2_no hSim hk hj)) rfl rfl ⟨by decide, by decide⟩ (fun v w hf => ?_) (fun v w hf => ?_) (fun k9 of9 wr9 a9 w9 hf hf9 => ?_)
        · obtain ⟨_, _, _, _, _, _, _, _, _, _, _, _, _, _, _, _, _, _, _, _, _, _, _, rfl, rfl, _⟩ := hf
          exact ⟨_, _, _, rfl, rfl⟩
        · obtain ⟨_, _, _, _, _, _, _, _, _, rfl, _⟩ := hf
          exact ⟨_, rfl⟩
        · obtain ⟨yb1, yl1, yr1, yb2, yl2, yr2, yb3, yl3, yr3, yuz, yul, yuh, yf1, yg1, yf2, yg2, nan, fbn, fln, fhn, tbn, tln, thn, hk9, hw9, pl0, pl1⟩ := hf
          obtain ⟨fo1, lw1, hg1, at1, tl1, th1, is1, lo1, hi1, ha9, hv9, pr0, pr1⟩ := hf9
          subst hv9
          cases hk9
          cases ha9
          have ho9 : of9 0 = _ := (congrFun (g_of9 hw9) 0).trans (updL_at9 of 0 _)
          refine ⟨fun sz => c_X8_thrown l D y sz _ _ _ _ _ _ _ _ _ _ _ _ _ _ _ _ _ _ _ _ _ _ _ _ _ _ _ _ _ _, ⟨_, rfl⟩, fun _ => ho9.trans (rfl), fun H locs ls hP hD hS hl => ?_⟩
          rw [hw9] at hP hD
          refine W.widen (by omega) (by omega) (KK _ H locs ls ?_ hP hD hS hl)
          exact SimW_mk (mk2_sim hSim h40 (by decide) (by decide) hk hj pl0 pl1 pr0 pr1)
      · refine lz_product C hi e1 e2 hl hP hD hS rfl (fun sz => c_L_product_X2 l C.2.2.2.2.2 D y ad sz hX1 qX n b1 l1 r1 b2 l2 r2 b3 l3 r3 uz ul uh f1 g1 f2 g2 pa kd on ot pt fb fl fh tb tl th dg ds k j oa of hn hk hj h40) rfl rfl ⟨by decide, by decide⟩ ⟨by omega, by omega⟩ (fun sz => c_X8_product_2 l D y sz h8 q8 tw n ki on8 ot8 ab be zA zB zC zD zF zT fo lw hg at_ tl8 th8 wo wl wh is_ lo_ hi_ di su an (nI k) (nI j) (q_isPk hn hk) (q_isPk hn hj) (q_full hn h40)) rfl rfl ⟨by decide, by decide⟩ (fun v w hf => ?_) (fun v w hf => ?_) (fun k9 of9 wr9 a9 w9 hf hf9 => ?_)
        · obtain ⟨rfl, rfl⟩ := hf
          exact ⟨_, _, _, rfl, rfl⟩
        · obtain ⟨rfl, _⟩ := hf
          exact ⟨_, rfl⟩
        · obtain ⟨hk9, hw9⟩ := hf
          obtain ⟨ha9, hv9⟩ := hf9
          subst hv9
          cases hk9
          cases ha9
          refine ⟨fun sz => c_X8_thrown l D y sz _ _ _ _ _ _ _ _ _ _ _ _ _ _ _ _ _ _ _ _ _ _ _ _ _ _ _ _ _ _, ⟨_, rfl⟩, fun z => absurd z (by decide), fun H locs ls hP hD hS hl => ?_⟩
          rw [hw9] at hP hD
          refine W.widen (by omega) (by omega) (KK _ H locs ls ?_ hP hD hS hl)
          exact SimW_mk (hSim)
    · refine lz_product C hi e1 rfl hl hP hD hS rfl (fun sz => c_L_product_X1b l C.2.2.2.2.2 D y ad sz hX1 qX n b1 l1 r1 b2 l2 r2 b3 l3 r3 uz ul uh f1 g1 f2 g2 pa kd on ot pt fb fl fh tb tl th dg ds k (xs (i + 2)) oa of hn hk hb2) rfl rfl ⟨by decide, by decide⟩ ⟨by omega, by omega⟩ (fun sz => c_X8_product_1 l D y sz h8 q8 tw n ki on8 ot8 ab be zA zB zC zD zF zT fo lw hg at_ tl8 th8 wo wl wh is_ lo_ hi_ di su an (nI k) (xs (i + 2)) (fun z => hp2 z.2)) rfl rfl ⟨by decide, by decide⟩ (fun v w hf => ?_) (fun v w hf => ?_) (fun k9 of9 wr9 a9 w9 hf hf9 => ?_)
      · obtain ⟨rfl, rfl⟩ := hf
        exact ⟨_, _, _, rfl, rfl⟩
      · obtain ⟨rfl, _⟩ := hf
        exact ⟨_, rfl⟩
      · obtain ⟨hk9, hw9⟩ := hf
        obtain ⟨ha9, hv9⟩ := hf9
        subst hv9
        cases hk9
        cases ha9
        refine ⟨fun sz => c_X8_thrown l D y sz _ _ _ _ _ _ _ _ _ _ _ _ _ _ _ _ _ _ _ _ _ _ _ _ _ _ _ _ _ _, ⟨_, rfl⟩, fun z => absurd z (by decide), fun H locs ls hP hD hS hl => ?_⟩
        rw [hw9] at hP hD
        refine W.widen (by omega) (by omega) (KK _ H locs ls ?_ hP hD hS hl)
        exact SimW_mk (hSim)
  · refine lz_product C hi rfl rfl hl hP hD hS rfl (fun sz => c_L_product_X1a l C.2.2.2.2.2 D y ad sz hX1 qX n b1 l1 r1 b2 l2 r2 b3 l3 r3 uz ul uh f1 g1 f2 g2 pa kd on ot pt fb fl fh tb tl th dg ds (xs (i + 1)) (xs (i + 2)) oa of hb1) rfl rfl ⟨by decide, by decide⟩ ⟨by omega, by omega⟩ (fun sz => c_X8_product_1 l D y sz h8 q8 tw n ki on8 ot8 ab be zA zB zC zD zF zT fo lw hg at_ tl8 th8 wo wl wh is_ lo_ hi_ di su an (xs (i + 1)) (xs (i + 2)) (fun z => hp1 z.1)) rfl rfl ⟨by decide, by decide⟩ (fun v w hf => ?_) (fun v w hf => ?_) (fun k9 of9 wr9 a9 w9 hf hf9 => ?_)
    · obtain ⟨rfl, rfl⟩ := hf
      exact ⟨_, _, _, rfl, rfl⟩
    · obtain ⟨rfl, _⟩ := hf
      exact ⟨_, rfl⟩
    · obtain ⟨hk9, hw9⟩ := hf
      obtain ⟨ha9, hv9⟩ := hf9
      subst hv9
      cases hk9
      cases ha9
      refine ⟨fun sz => c_X8_thrown l D y sz _ _ _ _ _ _ _ _ _ _ _ _ _ _ _ _ _ _ _ _ _ _ _ _ _ _ _ _ _ _, ⟨_, rfl⟩, fun z => absurd z (by decide), fun H locs ls hP hD hS hl => ?_⟩
      rw [hw9] at hP hD
      refine W.widen (by omega) (by omega) (KK _ H locs ls ?_ hP hD hS hl)
      exact SimW_mk (hSim)
set_option maxHeartbeats 4000000 in
set_option maxRecDepth 100000 in
theorem st_greater (C : lwC p l s m meth c b L xs D y ad) {i : Nat} (hi : i + 7 ≤ L) {hX1 h8 oa : Nat} {qX q8 : Nat → Nat} (hl : lv_has ls 8 [(0, .ref b), (1, .ref hX1), (2, .ref h8), (3, .ref oa), (4, .int (nI i))]) {ws : va_W} (hW : SimW y ad hX1 qX h8 q8 oa ws) (hP : va_P D vwCl ws H) (hD : va_D (lA s) ws) (hS : va_S (lA s) s.heap H locs) (hroom : cells + 10 ≤ 601024 ∧ slots + 168 ≤ 7293034) (KK : stK p l e s m below meth c Q b D y ad hX1 qX h8 q8 oa i cells slots) : W p l e room_1 s m #[Value.ref b] below meth c H locs cells slots Q (F0 m 424 ls []) := by
  obtain ⟨of, n, b1, l1, r1, b2, l2, r2, b3, l3, r3, uz, ul, uh, f1, g1, f2, g2, pa, kd, on, ot, pt, fb, fl, fh, tb, tl, th, dg, ds, tw, ki, on8, ot8, ab, be, zA, zB, zC, zD, zF, zT, fo, lw, hg, at_, tl8, th8, wo, wl, wh, is_, lo_, hi_, di, su, an, rfl, hSim⟩ := hW
  have hn := hSim.1.1
  rcases q_isP hn (xs (i + 1)) with ⟨k, hk, e1⟩ | ⟨hb1, hp1⟩
  · rcases q_isP hn (xs (i + 2)) with ⟨j, hj, e2⟩ | ⟨hb2, hp2⟩
    · by_cases h40 : n < 40
      · refine lz_greater C hi e1 e2 hl hP hD hS rfl (fun sz => c_L_greater_0 l C.2.2.2.2.2 D y ad sz hX1 qX n b1 l1 r1 b2 l2 r2 b3 l3 r3 uz ul uh f1 g1 f2 g2 pa kd on ot pt fb fl fh tb tl th dg ds k j oa of h40 hk hj) rfl rfl ⟨by decide, by decide⟩ ⟨by omega, by omega⟩ (fun sz => c_X8_greater_0 l D y sz h8 q8 tw n ki on8 ot8 ab be zA zB zC zD zF zT fo lw hg at_ tl8 th8 wo wl wh is_ lo_ hi_ di su an k j (fun p => (mkX fb fl fh 4 k j p).1) (fun p => (mkX fb fl fh 4 k j p).2.1) (fun p => (mkX fb fl fh 4 k j p).2.2) h40 hk hj (q_isPk hn hk) (q_isPk hn hj) (mk2_can hSim (by decide) (by decide) hk hj) (mk2_no hSim hk hj)) rfl rfl ⟨by decide, by decide⟩ (fun v w hf => ?_) (fun v w hf => ?_) (fun k9 of9 wr9 a9 w9 hf hf9 => ?_)
        · obtain ⟨_, _, _, _, _, _, _, _, _, _, _, _, _, _, _, _, _, _, _, _, _, _, _, rfl, rfl, _⟩ := hf
          exact ⟨_, _, _, rfl, rfl⟩
        · obtain ⟨_, _, _, _, _, _, _, _, _, rfl, _⟩ := hf
          exact ⟨_, rfl⟩
        · obtain ⟨yb1, yl1, yr1, yb2, yl2, yr2, yb3, yl3, yr3, yuz, yul, yuh, yf1, yg1, yf2, yg2, nan, fbn, fln, fhn, tbn, tln, thn, hk9, hw9, pl0, pl1⟩ := hf
          obtain ⟨fo1, lw1, hg1, at1, tl1, th1, is1, lo1, hi1, ha9, hv9, pr0, pr1⟩ := hf9
          subst hv9
          cases hk9
          cases ha9
          have ho9 : of9 0 = _ := (congrFun (g_of9 hw9) 0).trans (updL_at9 of 0 _)
          refine ⟨fun sz => c_X8_thrown l D y sz _ _ _ _ _ _ _ _ _ _ _ _ _ _ _ _ _ _ _ _ _ _ _ _ _ _ _ _ _ _, ⟨_, rfl⟩, fun _ => ho9.trans (rfl), fun H locs ls hP hD hS hl => ?_⟩
          rw [hw9] at hP hD
          refine W.widen (by omega) (by omega) (KK _ H locs ls ?_ hP hD hS hl)
          exact SimW_mk (mk2_sim hSim h40 (by decide) (by decide) hk hj pl0 pl1 pr0 pr1)
      · refine lz_greater C hi e1 e2 hl hP hD hS rfl (fun sz => c_L_greater_X2 l C.2.2.2.2.2 D y ad sz hX1 qX n b1 l1 r1 b2 l2 r2 b3 l3 r3 uz ul uh f1 g1 f2 g2 pa kd on ot pt fb fl fh tb tl th dg ds k j oa of hn hk hj h40) rfl rfl ⟨by decide, by decide⟩ ⟨by omega, by omega⟩ (fun sz => c_X8_greater_2 l D y sz h8 q8 tw n ki on8 ot8 ab be zA zB zC zD zF zT fo lw hg at_ tl8 th8 wo wl wh is_ lo_ hi_ di su an (nI k) (nI j) (q_isPk hn hk) (q_isPk hn hj) (q_full hn h40)) rfl rfl ⟨by decide, by decide⟩ (fun v w hf => ?_) (fun v w hf => ?_) (fun k9 of9 wr9 a9 w9 hf hf9 => ?_)
        · obtain ⟨rfl, rfl⟩ := hf
          exact ⟨_, _, _, rfl, rfl⟩
        · obtain ⟨rfl, _⟩ := hf
          exact ⟨_, rfl⟩
        · obtain ⟨hk9, hw9⟩ := hf
          obtain ⟨ha9, hv9⟩ := hf9
          subst hv9
          cases hk9
          cases ha9
          refine ⟨fun sz => c_X8_thrown l D y sz _ _ _ _ _ _ _ _ _ _ _ _ _ _ _ _ _ _ _ _ _ _ _ _ _ _ _ _ _ _, ⟨_, rfl⟩, fun z => absurd z (by decide), fun H locs ls hP hD hS hl => ?_⟩
          rw [hw9] at hP hD
          refine W.widen (by omega) (by omega) (KK _ H locs ls ?_ hP hD hS hl)
          exact SimW_mk (hSim)
    · refine lz_greater C hi e1 rfl hl hP hD hS rfl (fun sz => c_L_greater_X1b l C.2.2.2.2.2 D y ad sz hX1 qX n b1 l1 r1 b2 l2 r2 b3 l3 r3 uz ul uh f1 g1 f2 g2 pa kd on ot pt fb fl fh tb tl th dg ds k (xs (i + 2)) oa of hn hk hb2) rfl rfl ⟨by decide, by decide⟩ ⟨by omega, by omega⟩ (fun sz => c_X8_greater_1 l D y sz h8 q8 tw n ki on8 ot8 ab be zA zB zC zD zF zT fo lw hg at_ tl8 th8 wo wl wh is_ lo_ hi_ di su an (nI k) (xs (i + 2)) (fun z => hp2 z.2)) rfl rfl ⟨by decide, by decide⟩ (fun v w hf => ?_) (fun v w hf => ?_) (fun k9 of9 wr9 a9 w9 hf hf9 => ?_)
      · obtain ⟨rfl, rfl⟩ := hf
        exact ⟨_, _, _, rfl, rfl⟩
      · obtain ⟨rfl, _⟩ := hf
        exact ⟨_, rfl⟩
      · obtain ⟨hk9, hw9⟩ := hf
        obtain ⟨ha9, hv9⟩ := hf9
        subst hv9
        cases hk9
        cases ha9
        refine ⟨fun sz => c_X8_thrown l D y sz _ _ _ _ _ _ _ _ _ _ _ _ _ _ _ _ _ _ _ _ _ _ _ _ _ _ _ _ _ _, ⟨_, rfl⟩, fun z => absurd z (by decide), fun H locs ls hP hD hS hl => ?_⟩
        rw [hw9] at hP hD
        refine W.widen (by omega) (by omega) (KK _ H locs ls ?_ hP hD hS hl)
        exact SimW_mk (hSim)
  · refine lz_greater C hi rfl rfl hl hP hD hS rfl (fun sz => c_L_greater_X1a l C.2.2.2.2.2 D y ad sz hX1 qX n b1 l1 r1 b2 l2 r2 b3 l3 r3 uz ul uh f1 g1 f2 g2 pa kd on ot pt fb fl fh tb tl th dg ds (xs (i + 1)) (xs (i + 2)) oa of hb1) rfl rfl ⟨by decide, by decide⟩ ⟨by omega, by omega⟩ (fun sz => c_X8_greater_1 l D y sz h8 q8 tw n ki on8 ot8 ab be zA zB zC zD zF zT fo lw hg at_ tl8 th8 wo wl wh is_ lo_ hi_ di su an (xs (i + 1)) (xs (i + 2)) (fun z => hp1 z.1)) rfl rfl ⟨by decide, by decide⟩ (fun v w hf => ?_) (fun v w hf => ?_) (fun k9 of9 wr9 a9 w9 hf hf9 => ?_)
    · obtain ⟨rfl, rfl⟩ := hf
      exact ⟨_, _, _, rfl, rfl⟩
    · obtain ⟨rfl, _⟩ := hf
      exact ⟨_, rfl⟩
    · obtain ⟨hk9, hw9⟩ := hf
      obtain ⟨ha9, hv9⟩ := hf9
      subst hv9
      cases hk9
      cases ha9
      refine ⟨fun sz => c_X8_thrown l D y sz _ _ _ _ _ _ _ _ _ _ _ _ _ _ _ _ _ _ _ _ _ _ _ _ _ _ _ _ _ _, ⟨_, rfl⟩, fun z => absurd z (by decide), fun H locs ls hP hD hS hl => ?_⟩
      rw [hw9] at hP hD
      refine W.widen (by omega) (by omega) (KK _ H locs ls ?_ hP hD hS hl)
      exact SimW_mk (hSim)
end GST
