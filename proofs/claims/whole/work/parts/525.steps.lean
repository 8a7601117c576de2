section GST
variable {p : Program} {l : Launch} {e : Env} {s : State} {m : MethodId} {below : List Frame} {meth : Method} {c : Code} {H : Heap} {locs : List Loc} {cells slots : Nat} {Q : State → Prop}
variable {ls : Array Slot} {D : va_G} {y : Nat → ClassId} {ad : Nat → Nat} {b L : Nat} {xs : Nat → Int32}
set_option maxHeartbeats 4000000 in
set_option maxRecDepth 100000 in
theorem st_quotient (C : lwC p l s m meth c b L xs D y ad) {i : Nat} (hi : i + 7 ≤ L) {hX1 h8 oa : Nat} {qX q8 : Nat → Nat} (hl : lv_has ls 8 [(0, .ref b), (1, .ref hX1), (2, .ref h8), (3, .ref oa), (4, .int (nI i))]) {ws : va_W} (hW : SimW y ad hX1 qX h8 q8 oa ws) (hP : va_P D vwCl ws H) (hD : va_D (lA s) ws) (hS : va_S (lA s) s.heap H locs) (hroom : cells + 10 ≤ 601024 ∧ slots + 168 ≤ 7293034) (KK : stK p l e s m below meth c Q b D y ad hX1 qX h8 q8 oa i cells slots) : W p l e room_1 s m #[Value.ref b] below meth c H locs cells slots Q (F0 m 1451 ls []) := by
  obtain ⟨of, n, b1, l1, r1, b2, l2, r2, b3, l3, r3, uz, ul, uh, f1, g1, f2, g2, pa, kd, on, ot, pt, fb, fl, fh, tb, tl, th, dg, ds, tw, ki, on8, ot8, ab, be, zA, zB, zC, zD, zF, zT, fo, lw, hg, at_, tl8, th8, wo, wl, wh, is_, lo_, hi_, di, su, an, rfl, hSim⟩ := hW
  have hn := hSim.1.1
  rcases q_isP hn (xs (i + 1)) with ⟨k, hk, e1⟩ | ⟨hb1, hp1⟩
  · rcases q_isPl (xs (i + 2)) with ⟨p, hp, e2⟩ | ⟨hb2, hp2⟩
    · rcases q_inN (xs (i + 3)) (m := 24) (by decide) with ⟨d, hd, e3⟩ | ⟨hb3, hp3⟩
      · have ht := (hSim.2 k hk).2.2.1
        by_cases hf : at_ (25 * k + p) = true
        · have hq := q_qa ht (hSim.2 k hk).2.2.2.1 hp hf d
          by_cases hs : (quR tl8 th8 k p d).1 = true
          · refine lz_quotient C hi e1 e2 e3 hl hP hD hS rfl (fun sz => c_L_quotient_0 l C.2.2.2.2.2 D y ad sz hX1 qX n b1 l1 r1 b2 l2 r2 b3 l3 r3 uz ul uh f1 g1 f2 g2 pa kd on ot pt fb fl fh tb tl th dg ds k p d oa of hn hk hp hd ((q_tl ht hp).1.trans hf) (hq.1.trans hs)) rfl rfl ⟨by decide, by decide⟩ ⟨by omega, by omega⟩ (fun sz => c_X8_quotient_0 l D y sz h8 q8 tw n ki on8 ot8 ab be zA zB zC zD zF zT fo lw hg at_ tl8 th8 wo wl wh is_ lo_ hi_ di su an k p d hn hk hp hd hf hs) rfl rfl ⟨by decide, by decide⟩ (fun v w hf => ?_) (fun v w hf => ?_) (fun k9 of9 wr9 a9 w9 hf hf9 => ?_)
            · obtain ⟨_, _, _, _, _, _, _, _, _, _, _, _, _, _, _, _, rfl, rfl⟩ := hf
              exact ⟨_, _, _, rfl, rfl⟩
            · obtain ⟨rfl, _⟩ := hf
              exact ⟨_, rfl⟩
            · obtain ⟨yb1, yl1, yr1, yb2, yl2, yr2, yb3, yl3, yr3, yuz, yul, yuh, yf1, yg1, yf2, yg2, hk9, hw9⟩ := hf
              obtain ⟨ha9, hv9⟩ := hf9
              subst hv9
              cases hk9
              cases ha9
              have ho9 : of9 0 = _ := (congrFun (g_of9 hw9) 0).trans (updL_at9 of 0 _)
              refine ⟨fun sz => c_X8_thrown l D y sz _ _ _ _ _ _ _ _ _ _ _ _ _ _ _ _ _ _ _ _ _ _ _ _ _ _ _ _ _ _, ⟨_, rfl⟩, fun _ => ho9.trans (congrArg (fun z : Int64 => z.toInt32.toInt64) (hq.2 (hq.1.trans hs))), fun H locs ls hP hD hS hl => ?_⟩
              rw [hw9] at hP hD
              refine W.widen (by omega) (by omega) (KK _ H locs ls ?_ hP hD hS hl)
              exact SimW_mk (hSim)
          · refine lz_quotient C hi e1 e2 e3 hl hP hD hS rfl (fun sz => c_L_quotient_X4 l C.2.2.2.2.2 D y ad sz hX1 qX n b1 l1 r1 b2 l2 r2 b3 l3 r3 uz ul uh f1 g1 f2 g2 pa kd on ot pt fb fl fh tb tl th dg ds k p d oa of hn hk hp hd ((q_tl ht hp).1.trans hf) (fun z => hs (hq.1.symm.trans z))) rfl rfl ⟨by decide, by decide⟩ ⟨by omega, by omega⟩ (fun sz => c_X8_quotient_3b l D y sz h8 q8 tw n ki on8 ot8 ab be zA zB zC zD zF zT fo lw hg at_ tl8 th8 wo wl wh is_ lo_ hi_ di su an k p d hn hk hp hd hf hs) rfl rfl ⟨by decide, by decide⟩ (fun v w hf => ?_) (fun v w hf => ?_) (fun k9 of9 wr9 a9 w9 hf hf9 => ?_)
            · obtain ⟨_, _, _, _, _, _, _, _, _, _, _, _, _, _, _, _, rfl, rfl⟩ := hf
              exact ⟨_, _, _, rfl, rfl⟩
            · obtain ⟨rfl, _⟩ := hf
              exact ⟨_, rfl⟩
            · obtain ⟨yb1, yl1, yr1, yb2, yl2, yr2, yb3, yl3, yr3, yuz, yul, yuh, yf1, yg1, yf2, yg2, hk9, hw9⟩ := hf
              obtain ⟨ha9, hv9⟩ := hf9
              subst hv9
              cases hk9
              cases ha9
              refine ⟨fun sz => c_X8_thrown l D y sz _ _ _ _ _ _ _ _ _ _ _ _ _ _ _ _ _ _ _ _ _ _ _ _ _ _ _ _ _ _, ⟨_, rfl⟩, fun z => absurd z (by decide), fun H locs ls hP hD hS hl => ?_⟩
              rw [hw9] at hP hD
              refine W.widen (by omega) (by omega) (KK _ H locs ls ?_ hP hD hS hl)
              exact SimW_mk (hSim)
        · refine lz_quotient C hi e1 e2 e3 hl hP hD hS rfl (fun sz => c_L_quotient_X3 l C.2.2.2.2.2 D y ad sz hX1 qX n b1 l1 r1 b2 l2 r2 b3 l3 r3 uz ul uh f1 g1 f2 g2 pa kd on ot pt fb fl fh tb tl th dg ds k p d oa of hn hk hp hd (fun z => hf ((q_tl ht hp).1.symm.trans z))) rfl rfl ⟨by decide, by decide⟩ ⟨by omega, by omega⟩ (fun sz => c_X8_quotient_3a l D y sz h8 q8 tw n ki on8 ot8 ab be zA zB zC zD zF zT fo lw hg at_ tl8 th8 wo wl wh is_ lo_ hi_ di su an k p d hn hk hp hd hf) rfl rfl ⟨by decide, by decide⟩ (fun v w hf => ?_) (fun v w hf => ?_) (fun k9 of9 wr9 a9 w9 hf hf9 => ?_)
          · obtain ⟨_, _, _, _, _, _, _, _, _, _, _, _, _, _, _, _, rfl, rfl⟩ := hf
            exact ⟨_, _, _, rfl, rfl⟩
          · obtain ⟨rfl, _⟩ := hf
            exact ⟨_, rfl⟩
          · obtain ⟨yb1, yl1, yr1, yb2, yl2, yr2, yb3, yl3, yr3, yuz, yul, yuh, yf1, yg1, yf2, yg2, hk9, hw9⟩ := hf
            obtain ⟨ha9, hv9⟩ := hf9
            subst hv9
            cases hk9
            cases ha9
            refine ⟨fun sz => c_X8_thrown l D y sz _ _ _ _ _ _ _ _ _ _ _ _ _ _ _ _ _ _ _ _ _ _ _ _ _ _ _ _ _ _, ⟨_, rfl⟩, fun z => absurd z (by decide), fun H locs ls hP hD hS hl => ?_⟩
            rw [hw9] at hP hD
            refine W.widen (by omega) (by omega) (KK _ H locs ls ?_ hP hD hS hl)
            exact SimW_mk (hSim)
      · refine lz_quotient C hi e1 e2 rfl hl hP hD hS rfl (fun sz => c_L_quotient_X2b l C.2.2.2.2.2 D y ad sz hX1 qX n b1 l1 r1 b2 l2 r2 b3 l3 r3 uz ul uh f1 g1 f2 g2 pa kd on ot pt fb fl fh tb tl th dg ds k p (xs (i + 3)) oa of hn hk hp hb3) rfl rfl ⟨by decide, by decide⟩ ⟨by omega, by omega⟩ (fun sz => c_X8_quotient_2 l D y sz h8 q8 tw n ki on8 ot8 ab be zA zB zC zD zF zT fo lw hg at_ tl8 th8 wo wl wh is_ lo_ hi_ di su an k (nI p) (xs (i + 3)) hn hk (fun z => hp3 z.2)) rfl rfl ⟨by decide, by decide⟩ (fun v w hf => ?_) (fun v w hf => ?_) (fun k9 of9 wr9 a9 w9 hf hf9 => ?_)
        · obtain ⟨_, _, _, _, _, _, _, _, _, _, _, _, _, _, _, _, rfl, rfl⟩ := hf
          exact ⟨_, _, _, rfl, rfl⟩
        · obtain ⟨rfl, _⟩ := hf
          exact ⟨_, rfl⟩
        · obtain ⟨yb1, yl1, yr1, yb2, yl2, yr2, yb3, yl3, yr3, yuz, yul, yuh, yf1, yg1, yf2, yg2, hk9, hw9⟩ := hf
          obtain ⟨ha9, hv9⟩ := hf9
          subst hv9
          cases hk9
          cases ha9
          refine ⟨fun sz => c_X8_thrown l D y sz _ _ _ _ _ _ _ _ _ _ _ _ _ _ _ _ _ _ _ _ _ _ _ _ _ _ _ _ _ _, ⟨_, rfl⟩, fun z => absurd z (by decide), fun H locs ls hP hD hS hl => ?_⟩
          rw [hw9] at hP hD
          refine W.widen (by omega) (by omega) (KK _ H locs ls ?_ hP hD hS hl)
          exact SimW_mk (hSim)
    · refine lz_quotient C hi e1 rfl rfl hl hP hD hS rfl (fun sz => c_L_quotient_X2 l C.2.2.2.2.2 D y ad sz hX1 qX n b1 l1 r1 b2 l2 r2 b3 l3 r3 uz ul uh f1 g1 f2 g2 pa kd on ot pt fb fl fh tb tl th dg ds k (xs (i + 2)) (xs (i + 3)) oa of hn hk hb2) rfl rfl ⟨by decide, by decide⟩ ⟨by omega, by omega⟩ (fun sz => c_X8_quotient_2 l D y sz h8 q8 tw n ki on8 ot8 ab be zA zB zC zD zF zT fo lw hg at_ tl8 th8 wo wl wh is_ lo_ hi_ di su an k (xs (i + 2)) (xs (i + 3)) hn hk (fun z => hp2 z.1)) rfl rfl ⟨by decide, by decide⟩ (fun v w hf => ?_) (fun v w hf => ?_) (fun k9 of9 wr9 a9 w9 hf hf9 => ?_)
      · obtain ⟨_, _, _, _, _, _, _, _, _, _, _, _, _, _, _, _, rfl, rfl⟩ := hf
        exact ⟨_, _, _, rfl, rfl⟩
      · obtain ⟨rfl, _⟩ := hf
        exact ⟨_, rfl⟩
      · obtain ⟨yb1, yl1, yr1, yb2, yl2, yr2, yb3, yl3, yr3, yuz, yul, yuh, yf1, yg1, yf2, yg2, hk9, hw9⟩ := hf
        obtain ⟨ha9, hv9⟩ := hf9
        subst hv9
        cases hk9
        cases ha9
        refine ⟨fun sz => c_X8_thrown l D y sz _ _ _ _ _ _ _ _ _ _ _ _ _ _ _ _ _ _ _ _ _ _ _ _ _ _ _ _ _ _, ⟨_, rfl⟩, fun z => absurd z (by decide), fun H locs ls hP hD hS hl => ?_⟩
        rw [hw9] at hP hD
        refine W.widen (by omega) (by omega) (KK _ H locs ls ?_ hP hD hS hl)
        exact SimW_mk (hSim)
  · refine lz_quotient C hi rfl rfl rfl hl hP hD hS rfl (fun sz => c_L_quotient_X1 l C.2.2.2.2.2 D y ad sz hX1 qX n b1 l1 r1 b2 l2 r2 b3 l3 r3 uz ul uh f1 g1 f2 g2 pa kd on ot pt fb fl fh tb tl th dg ds (xs (i + 1)) (xs (i + 2)) (xs (i + 3)) oa of hb1) rfl rfl ⟨by decide, by decide⟩ ⟨by omega, by omega⟩ (fun sz => c_X8_quotient_1 l D y sz h8 q8 tw n ki on8 ot8 ab be zA zB zC zD zF zT fo lw hg at_ tl8 th8 wo wl wh is_ lo_ hi_ di su an (xs (i + 1)) (xs (i + 2)) (xs (i + 3)) hp1) rfl rfl ⟨by decide, by decide⟩ (fun v w hf => ?_) (fun v w hf => ?_) (fun k9 of9 wr9 a9 w9 hf hf9 => ?_)
    · obtain ⟨_, _, _, _, _, _, _, _, _, _, _, _, _, _, _, _, rfl, rfl⟩ := hf
      exact ⟨_, _, _, rfl, rfl⟩
    · obtain ⟨rfl, _⟩ := hf
      exact ⟨_, rfl⟩
    · obtain ⟨yb1, yl1, yr1, yb2, yl2, yr2, yb3, yl3, yr3, yuz, yul, yuh, yf1, yg1, yf2, yg2, hk9, hw9⟩ := hf
      obtain ⟨ha9, hv9⟩ := hf9
      subst hv9
      cases hk9
      cases ha9
      refine ⟨fun sz => c_X8_thrown l D y sz _ _ _ _ _ _ _ _ _ _ _ _ _ _ _ _ _ _ _ _ _ _ _ _ _ _ _ _ _ _, ⟨_, rfl⟩, fun z => absurd z (by decide), fun H locs ls hP hD hS hl => ?_⟩
      rw [hw9] at hP hD
      refine W.widen (by omega) (by omega) (KK _ H locs ls ?_ hP hD hS hl)
      exact SimW_mk (hSim)
set_option maxHeartbeats 4000000 in
set_option maxRecDepth 100000 in
theorem st_next (C : lwC p l s m meth c b L xs D y ad) {i : Nat} (hi : i + 7 ≤ L) {hX1 h8 oa : Nat} {qX q8 : Nat → Nat} (hl : lv_has ls 8 [(0, .ref b), (1, .ref hX1), (2, .ref h8), (3, .ref oa), (4, .int (nI i))]) {ws : va_W} (hW : SimW y ad hX1 qX h8 q8 oa ws) (hP : va_P D vwCl ws H) (hD : va_D (lA s) ws) (hS : va_S (lA s) s.heap H locs) (hroom : cells + 10 ≤ 601024 ∧ slots + 168 ≤ 7293034) (KK : stK p l e s m below meth c Q b D y ad hX1 qX h8 q8 oa i cells slots) : W p l e room_1 s m #[Value.ref b] below meth c H locs cells slots Q (F0 m 1531 ls []) := by
  obtain ⟨of, n, b1, l1, r1, b2, l2, r2, b3, l3, r3, uz, ul, uh, f1, g1, f2, g2, pa, kd, on, ot, pt, fb, fl, fh, tb, tl, th, dg, ds, tw, ki, on8, ot8, ab, be, zA, zB, zC, zD, zF, zT, fo, lw, hg, at_, tl8, th8, wo, wl, wh, is_, lo_, hi_, di, su, an, rfl, hSim⟩ := hW
  have hn := hSim.1.1
  rcases q_isP hn (xs (i + 1)) with ⟨k, hk, e1⟩ | ⟨hb1, hp1⟩
  · obtain ⟨d1, d2, d, hd24, hd2⟩ := (hSim.2 k hk).2.2.2.2
    by_cases hd : d < 24
    · have hnx : nxX (sp_X7_digitAt tb tl th dg ds k) (24 - d) (d + 1) = nxF (fun p => sp_X8_digitAt at_ tl8 th8 di su k p) (24 - d) (d + 1) 2 := q_next (24 - d) (d + 1) (by omega) (fun q hq => q_dig (hSim.2 k hk).2.2.1 d1 d2 hq) 2 rfl
      by_cases hs : nxF (fun p => sp_X8_digitAt at_ tl8 th8 di su k p) (24 - d) (d + 1) 2 = 2
      · refine lz_next C hi e1 hl hP hD hS rfl (fun sz => c_L_next_X3 l C.2.2.2.2.2 D y ad sz hX1 qX n b1 l1 r1 b2 l2 r2 b3 l3 r3 uz ul uh f1 g1 f2 g2 pa kd on ot pt fb fl fh tb tl th dg ds k d oa of hn hk (d1.trans hd2) hd (hnx.trans hs)) rfl rfl ⟨by decide, by decide⟩ ⟨by omega, by omega⟩ (fun sz => c_X8_next_2 l D y sz h8 q8 tw n ki on8 ot8 ab be zA zB zC zD zF zT fo lw hg at_ tl8 th8 wo wl wh is_ lo_ hi_ di su an k d hn hk hd2 hd24 hs) rfl rfl ⟨by decide, by decide⟩ (fun v w hf => ?_) (fun v w hf => ?_) (fun k9 of9 wr9 a9 w9 hf hf9 => ?_)
        · obtain ⟨_, _, _, _, _, _, _, _, _, _, _, _, _, _, _, _, rfl, rfl⟩ := hf
          exact ⟨_, _, _, rfl, rfl⟩
        · obtain ⟨rfl, _⟩ := hf
          exact ⟨_, rfl⟩
        · obtain ⟨yb1, yl1, yr1, yb2, yl2, yr2, yb3, yl3, yr3, yuz, yul, yuh, yf1, yg1, yf2, yg2, hk9, hw9⟩ := hf
          obtain ⟨ha9, hv9⟩ := hf9
          subst hv9
          cases hk9
          cases ha9
          refine ⟨fun sz => c_X8_thrown l D y sz _ _ _ _ _ _ _ _ _ _ _ _ _ _ _ _ _ _ _ _ _ _ _ _ _ _ _ _ _ _, ⟨_, rfl⟩, fun z => absurd z (by decide), fun H locs ls hP hD hS hl => ?_⟩
          rw [hw9] at hP hD
          refine W.widen (by omega) (by omega) (KK _ H locs ls ?_ hP hD hS hl)
          exact SimW_mk (hSim)
      · refine lz_next C hi e1 hl hP hD hS rfl (fun sz => c_L_next_0 l C.2.2.2.2.2 D y ad sz hX1 qX n b1 l1 r1 b2 l2 r2 b3 l3 r3 uz ul uh f1 g1 f2 g2 pa kd on ot pt fb fl fh tb tl th dg ds k d oa of hn hk (d1.trans hd2) hd (fun z => hs (hnx.symm.trans z))) rfl rfl ⟨by decide, by decide⟩ ⟨by omega, by omega⟩ (fun sz => c_X8_next_0 l D y sz h8 q8 tw n ki on8 ot8 ab be zA zB zC zD zF zT fo lw hg at_ tl8 th8 wo wl wh is_ lo_ hi_ di su an k d hn hk hd2 hd24 hs) rfl rfl ⟨by decide, by decide⟩ (fun v w hf => ?_) (fun v w hf => ?_) (fun k9 of9 wr9 a9 w9 hf hf9 => ?_)
        · obtain ⟨_, _, _, _, _, _, _, _, _, _, _, _, _, _, _, _, rfl, rfl⟩ := hf
          exact ⟨_, _, _, rfl, rfl⟩
        · obtain ⟨rfl, _⟩ := hf
          exact ⟨_, rfl⟩
        · obtain ⟨yb1, yl1, yr1, yb2, yl2, yr2, yb3, yl3, yr3, yuz, yul, yuh, yf1, yg1, yf2, yg2, hk9, hw9⟩ := hf
          obtain ⟨ha9, hv9⟩ := hf9
          subst hv9
          cases hk9
          cases ha9
          have ho9 : of9 0 = _ := (congrFun (g_of9 hw9) 0).trans (updL_at9 of 0 _)
          refine ⟨fun sz => c_X8_thrown l D y sz _ _ _ _ _ _ _ _ _ _ _ _ _ _ _ _ _ _ _ _ _ _ _ _ _ _ _ _ _ _, ⟨_, rfl⟩, fun _ => ho9.trans (congrArg Int32.toInt64 hnx), fun H locs ls hP hD hS hl => ?_⟩
          rw [hw9] at hP hD
          refine W.widen (by omega) (by omega) (KK _ H locs ls ?_ hP hD hS hl)
          exact SimW_mk (by rw [hnx, d1, d2]; exact Sim_dig hSim hk (show d + 1 ≤ 24 by omega) (by rw [hd2]; exact nI_1 d))
    · refine lz_next C hi e1 hl hP hD hS rfl (fun sz => c_L_next_X2 l C.2.2.2.2.2 D y ad sz hX1 qX n b1 l1 r1 b2 l2 r2 b3 l3 r3 uz ul uh f1 g1 f2 g2 pa kd on ot pt fb fl fh tb tl th dg ds k oa of hn hk (by rw [d1, hd2]; exact q_n24 hd24 hd)) rfl rfl ⟨by decide, by decide⟩ ⟨by omega, by omega⟩ (fun sz => c_X8_next_2 l D y sz h8 q8 tw n ki on8 ot8 ab be zA zB zC zD zF zT fo lw hg at_ tl8 th8 wo wl wh is_ lo_ hi_ di su an k d hn hk hd2 hd24 (by rw [show d = 24 by omega]; rfl)) rfl rfl ⟨by decide, by decide⟩ (fun v w hf => ?_) (fun v w hf => ?_) (fun k9 of9 wr9 a9 w9 hf hf9 => ?_)
      · obtain ⟨rfl, rfl⟩ := hf
        exact ⟨_, _, _, rfl, rfl⟩
      · obtain ⟨rfl, _⟩ := hf
        exact ⟨_, rfl⟩
      · obtain ⟨hk9, hw9⟩ := hf
        obtain ⟨ha9, hv9⟩ := hf9
        subst hv9
        cases hk9
        cases ha9
        refine ⟨fun sz => c_X8_thrown l D y sz _ _ _ _ _ _ _ _ _ _ _ _ _ _ _ _ _ _ _ _ _ _ _ _ _ _ _ _ _ _, ⟨_, rfl⟩, fun z => absurd z (by decide), fun H locs ls hP hD hS hl => ?_⟩
        rw [hw9] at hP hD
        refine W.widen (by omega) (by omega) (KK _ H locs ls ?_ hP hD hS hl)
        exact SimW_mk (hSim)
  · refine lz_next C hi rfl hl hP hD hS rfl (fun sz => c_L_next_X1 l C.2.2.2.2.2 D y ad sz hX1 qX n b1 l1 r1 b2 l2 r2 b3 l3 r3 uz ul uh f1 g1 f2 g2 pa kd on ot pt fb fl fh tb tl th dg ds (xs (i + 1)) oa of hb1) rfl rfl ⟨by decide, by decide⟩ ⟨by omega, by omega⟩ (fun sz => c_X8_next_1 l D y sz h8 q8 tw n ki on8 ot8 ab be zA zB zC zD zF zT fo lw hg at_ tl8 th8 wo wl wh is_ lo_ hi_ di su an (xs (i + 1)) hp1) rfl rfl ⟨by decide, by decide⟩ (fun v w hf => ?_) (fun v w hf => ?_) (fun k9 of9 wr9 a9 w9 hf hf9 => ?_)
    · obtain ⟨rfl, rfl⟩ := hf
      exact ⟨_, _, _, rfl, rfl⟩
    · obtain ⟨rfl, _⟩ := hf
      exact ⟨_, rfl⟩
    · obtain ⟨hk9, hw9⟩ := hf
      obtain ⟨ha9, hv9⟩ := hf9
      subst hv9
      cases hk9
      cases ha9
      refine ⟨fun sz => c_X8_thrown l D y sz _ _ _ _ _ _ _ _ _ _ _ _ _ _ _ _ _ _ _ _ _ _ _ _ _ _ _ _ _ _, ⟨_, rfl⟩, fun z => absurd z (by decide), fun H locs ls hP hD hS hl => ?_⟩
      rw [hw9] at hP hD
      refine W.widen (by omega) (by omega) (KK _ H locs ls ?_ hP hD hS hl)
      exact SimW_mk (hSim)
set_option maxHeartbeats 4000000 in
set_option maxRecDepth 100000 in
theorem st_emitted (C : lwC p l s m meth c b L xs D y ad) {i : Nat} (hi : i + 7 ≤ L) {hX1 h8 oa : Nat} {qX q8 : Nat → Nat} (hl : lv_has ls 8 [(0, .ref b), (1, .ref hX1), (2, .ref h8), (3, .ref oa), (4, .int (nI i))]) {ws : va_W} (hW : SimW y ad hX1 qX h8 q8 oa ws) (hP : va_P D vwCl ws H) (hD : va_D (lA s) ws) (hS : va_S (lA s) s.heap H locs) (hroom : cells + 10 ≤ 601024 ∧ slots + 168 ≤ 7293034) (KK : stK p l e s m below meth c Q b D y ad hX1 qX h8 q8 oa i cells slots) : W p l e room_1 s m #[Value.ref b] below meth c H locs cells slots Q (F0 m 1587 ls []) := by
  obtain ⟨of, n, b1, l1, r1, b2, l2, r2, b3, l3, r3, uz, ul, uh, f1, g1, f2, g2, pa, kd, on, ot, pt, fb, fl, fh, tb, tl, th, dg, ds, tw, ki, on8, ot8, ab, be, zA, zB, zC, zD, zF, zT, fo, lw, hg, at_, tl8, th8, wo, wl, wh, is_, lo_, hi_, di, su, an, rfl, hSim⟩ := hW
  have hn := hSim.1.1
  rcases q_isP hn (xs (i + 1)) with ⟨k, hk, e1⟩ | ⟨hb1, hp1⟩
  · refine lz_emitted C hi e1 hl hP hD hS rfl (fun sz => c_L_emitted_0 l C.2.2.2.2.2 D y ad sz hX1 qX n b1 l1 r1 b2 l2 r2 b3 l3 r3 uz ul uh f1 g1 f2 g2 pa kd on ot pt fb fl fh tb tl th dg ds k oa of hn hk) rfl rfl ⟨by decide, by decide⟩ ⟨by omega, by omega⟩ (fun sz => c_X8_emitted_0 l D y sz h8 q8 tw n ki on8 ot8 ab be zA zB zC zD zF zT fo lw hg at_ tl8 th8 wo wl wh is_ lo_ hi_ di su an k hn hk) rfl rfl ⟨by decide, by decide⟩ (fun v w hf => ?_) (fun v w hf => ?_) (fun k9 of9 wr9 a9 w9 hf hf9 => ?_)
    · obtain ⟨rfl, rfl⟩ := hf
      exact ⟨_, _, _, rfl, rfl⟩
    · obtain ⟨rfl, _⟩ := hf
      exact ⟨_, rfl⟩
    · obtain ⟨hk9, hw9⟩ := hf
      obtain ⟨ha9, hv9⟩ := hf9
      subst hv9
      cases hk9
      cases ha9
      have ho9 : of9 0 = _ := (congrFun (g_of9 hw9) 0).trans (updL_at9 of 0 _)
      refine ⟨fun sz => c_X8_thrown l D y sz _ _ _ _ _ _ _ _ _ _ _ _ _ _ _ _ _ _ _ _ _ _ _ _ _ _ _ _ _ _, ⟨_, rfl⟩, fun _ => ho9.trans (congrArg Int32.toInt64 (hSim.2 k hk).2.2.2.2.1), fun H locs ls hP hD hS hl => ?_⟩
      rw [hw9] at hP hD
      refine W.widen (by omega) (by omega) (KK _ H locs ls ?_ hP hD hS hl)
      exact SimW_mk (hSim)
  · refine lz_emitted C hi rfl hl hP hD hS rfl (fun sz => c_L_emitted_X1 l C.2.2.2.2.2 D y ad sz hX1 qX n b1 l1 r1 b2 l2 r2 b3 l3 r3 uz ul uh f1 g1 f2 g2 pa kd on ot pt fb fl fh tb tl th dg ds (xs (i + 1)) oa of hb1) rfl rfl ⟨by decide, by decide⟩ ⟨by omega, by omega⟩ (fun sz => c_X8_emitted_1 l D y sz h8 q8 tw n ki on8 ot8 ab be zA zB zC zD zF zT fo lw hg at_ tl8 th8 wo wl wh is_ lo_ hi_ di su an (xs (i + 1)) hp1) rfl rfl ⟨by decide, by decide⟩ (fun v w hf => ?_) (fun v w hf => ?_) (fun k9 of9 wr9 a9 w9 hf hf9 => ?_)
    · obtain ⟨rfl, rfl⟩ := hf
      exact ⟨_, _, _, rfl, rfl⟩
    · obtain ⟨rfl, _⟩ := hf
      exact ⟨_, rfl⟩
    · obtain ⟨hk9, hw9⟩ := hf
      obtain ⟨ha9, hv9⟩ := hf9
      subst hv9
      cases hk9
      cases ha9
      refine ⟨fun sz => c_X8_thrown l D y sz _ _ _ _ _ _ _ _ _ _ _ _ _ _ _ _ _ _ _ _ _ _ _ _ _ _ _ _ _ _, ⟨_, rfl⟩, fun z => absurd z (by decide), fun H locs ls hP hD hS hl => ?_⟩
      rw [hw9] at hP hD
      refine W.widen (by omega) (by omega) (KK _ H locs ls ?_ hP hD hS hl)
      exact SimW_mk (hSim)
set_option maxHeartbeats 4000000 in
set_option maxRecDepth 100000 in
theorem st_partial (C : lwC p l s m meth c b L xs D y ad) {i : Nat} (hi : i + 7 ≤ L) {hX1 h8 oa : Nat} {qX q8 : Nat → Nat} (hl : lv_has ls 8 [(0, .ref b), (1, .ref hX1), (2, .ref h8), (3, .ref oa), (4, .int (nI i))]) {ws : va_W} (hW : SimW y ad hX1 qX h8 q8 oa ws) (hP : va_P D vwCl ws H) (hD : va_D (lA s) ws) (hS : va_S (lA s) s.heap H locs) (hroom : cells + 10 ≤ 601024 ∧ slots + 168 ≤ 7293034) (KK : stK p l e s m below meth c Q b D y ad hX1 qX h8 q8 oa i cells slots) : W p l e room_1 s m #[Value.ref b] below meth c H locs cells slots Q (F0 m 1643 ls []) := by
  obtain ⟨of, n, b1, l1, r1, b2, l2, r2, b3, l3, r3, uz, ul, uh, f1, g1, f2, g2, pa, kd, on, ot, pt, fb, fl, fh, tb, tl, th, dg, ds, tw, ki, on8, ot8, ab, be, zA, zB, zC, zD, zF, zT, fo, lw, hg, at_, tl8, th8, wo, wl, wh, is_, lo_, hi_, di, su, an, rfl, hSim⟩ := hW
  have hn := hSim.1.1
  rcases q_isP hn (xs (i + 1)) with ⟨k, hk, e1⟩ | ⟨hb1, hp1⟩
  · refine lz_partial C hi e1 hl hP hD hS rfl (fun sz => c_L_partial_0 l C.2.2.2.2.2 D y ad sz hX1 qX n b1 l1 r1 b2 l2 r2 b3 l3 r3 uz ul uh f1 g1 f2 g2 pa kd on ot pt fb fl fh tb tl th dg ds k oa of hn hk) rfl rfl ⟨by decide, by decide⟩ ⟨by omega, by omega⟩ (fun sz => c_X8_partial_0 l D y sz h8 q8 tw n ki on8 ot8 ab be zA zB zC zD zF zT fo lw hg at_ tl8 th8 wo wl wh is_ lo_ hi_ di su an k hn hk) rfl rfl ⟨by decide, by decide⟩ (fun v w hf => ?_) (fun v w hf => ?_) (fun k9 of9 wr9 a9 w9 hf hf9 => ?_)
    · obtain ⟨rfl, rfl⟩ := hf
      exact ⟨_, _, _, rfl, rfl⟩
    · obtain ⟨rfl, _⟩ := hf
      exact ⟨_, rfl⟩
    · obtain ⟨hk9, hw9⟩ := hf
      obtain ⟨ha9, hv9⟩ := hf9
      subst hv9
      cases hk9
      cases ha9
      have ho9 : of9 0 = _ := (congrFun (g_of9 hw9) 0).trans (updL_at9 of 0 _)
      refine ⟨fun sz => c_X8_thrown l D y sz _ _ _ _ _ _ _ _ _ _ _ _ _ _ _ _ _ _ _ _ _ _ _ _ _ _ _ _ _ _, ⟨_, rfl⟩, fun _ => ho9.trans ((hSim.2 k hk).2.2.2.2.2.1), fun H locs ls hP hD hS hl => ?_⟩
      rw [hw9] at hP hD
      refine W.widen (by omega) (by omega) (KK _ H locs ls ?_ hP hD hS hl)
      exact SimW_mk (hSim)
  · refine lz_partial C hi rfl hl hP hD hS rfl (fun sz => c_L_partial_X1 l C.2.2.2.2.2 D y ad sz hX1 qX n b1 l1 r1 b2 l2 r2 b3 l3 r3 uz ul uh f1 g1 f2 g2 pa kd on ot pt fb fl fh tb tl th dg ds (xs (i + 1)) oa of hb1) rfl rfl ⟨by decide, by decide⟩ ⟨by omega, by omega⟩ (fun sz => c_X8_partial_1 l D y sz h8 q8 tw n ki on8 ot8 ab be zA zB zC zD zF zT fo lw hg at_ tl8 th8 wo wl wh is_ lo_ hi_ di su an (xs (i + 1)) hp1) rfl rfl ⟨by decide, by decide⟩ (fun v w hf => ?_) (fun v w hf => ?_) (fun k9 of9 wr9 a9 w9 hf hf9 => ?_)
    · obtain ⟨rfl, rfl⟩ := hf
      exact ⟨_, _, _, rfl, rfl⟩
    · obtain ⟨rfl, _⟩ := hf
      exact ⟨_, rfl⟩
    · obtain ⟨hk9, hw9⟩ := hf
      obtain ⟨ha9, hv9⟩ := hf9
      subst hv9
      cases hk9
      cases ha9
      refine ⟨fun sz => c_X8_thrown l D y sz _ _ _ _ _ _ _ _ _ _ _ _ _ _ _ _ _ _ _ _ _ _ _ _ _ _ _ _ _ _, ⟨_, rfl⟩, fun z => absurd z (by decide), fun H locs ls hP hD hS hl => ?_⟩
      rw [hw9] at hP hD
      refine W.widen (by omega) (by omega) (KK _ H locs ls ?_ hP hD hS hl)
      exact SimW_mk (hSim)
set_option maxHeartbeats 4000000 in
set_option maxRecDepth 100000 in
theorem st_restart (C : lwC p l s m meth c b L xs D y ad) {i : Nat} (hi : i + 7 ≤ L) {hX1 h8 oa : Nat} {qX q8 : Nat → Nat} (hl : lv_has ls 8 [(0, .ref b), (1, .ref hX1), (2, .ref h8), (3, .ref oa), (4, .int (nI i))]) {ws : va_W} (hW : SimW y ad hX1 qX h8 q8 oa ws) (hP : va_P D vwCl ws H) (hD : va_D (lA s) ws) (hS : va_S (lA s) s.heap H locs) (hroom : cells + 10 ≤ 601024 ∧ slots + 168 ≤ 7293034) (KK : stK p l e s m below meth c Q b D y ad hX1 qX h8 q8 oa i cells slots) : W p l e room_1 s m #[Value.ref b] below meth c H locs cells slots Q (F0 m 1698 ls []) := by
  obtain ⟨of, n, b1, l1, r1, b2, l2, r2, b3, l3, r3, uz, ul, uh, f1, g1, f2, g2, pa, kd, on, ot, pt, fb, fl, fh, tb, tl, th, dg, ds, tw, ki, on8, ot8, ab, be, zA, zB, zC, zD, zF, zT, fo, lw, hg, at_, tl8, th8, wo, wl, wh, is_, lo_, hi_, di, su, an, rfl, hSim⟩ := hW
  have hn := hSim.1.1
  rcases q_isP hn (xs (i + 1)) with ⟨k, hk, e1⟩ | ⟨hb1, hp1⟩
  · refine lz_restart C hi e1 hl hP hD hS rfl (fun sz => c_L_restart_0 l C.2.2.2.2.2 D y ad sz hX1 qX n b1 l1 r1 b2 l2 r2 b3 l3 r3 uz ul uh f1 g1 f2 g2 pa kd on ot pt fb fl fh tb tl th dg ds k oa of hn hk) rfl rfl ⟨by decide, by decide⟩ ⟨by omega, by omega⟩ (fun sz => c_X8_restart_0 l D y sz h8 q8 tw n ki on8 ot8 ab be zA zB zC zD zF zT fo lw hg at_ tl8 th8 wo wl wh is_ lo_ hi_ di su an k hn hk) rfl rfl ⟨by decide, by decide⟩ (fun v w hf => ?_) (fun v w hf => ?_) (fun k9 of9 wr9 a9 w9 hf hf9 => ?_)
    · obtain ⟨rfl, rfl⟩ := hf
      exact ⟨_, _, _, rfl, rfl⟩
    · obtain ⟨rfl, _⟩ := hf
      exact ⟨_, rfl⟩
    · obtain ⟨hk9, hw9⟩ := hf
      obtain ⟨ha9, hv9⟩ := hf9
      subst hv9
      cases hk9
      cases ha9
      have ho9 : of9 0 = _ := (congrFun (g_of9 hw9) 0).trans (updL_at9 of 0 _)
      refine ⟨fun sz => c_X8_thrown l D y sz _ _ _ _ _ _ _ _ _ _ _ _ _ _ _ _ _ _ _ _ _ _ _ _ _ _ _ _ _ _, ⟨_, rfl⟩, fun _ => ho9.trans (congrArg Int32.toInt64 (hSim.2 k hk).2.2.2.2.1), fun H locs ls hP hD hS hl => ?_⟩
      rw [hw9] at hP hD
      refine W.widen (by omega) (by omega) (KK _ H locs ls ?_ hP hD hS hl)
      exact SimW_mk (Sim_dig hSim hk (show 0 ≤ 24 by omega) rfl)
  · refine lz_restart C hi rfl hl hP hD hS rfl (fun sz => c_L_restart_X1 l C.2.2.2.2.2 D y ad sz hX1 qX n b1 l1 r1 b2 l2 r2 b3 l3 r3 uz ul uh f1 g1 f2 g2 pa kd on ot pt fb fl fh tb tl th dg ds (xs (i + 1)) oa of hb1) rfl rfl ⟨by decide, by decide⟩ ⟨by omega, by omega⟩ (fun sz => c_X8_restart_1 l D y sz h8 q8 tw n ki on8 ot8 ab be zA zB zC zD zF zT fo lw hg at_ tl8 th8 wo wl wh is_ lo_ hi_ di su an (xs (i + 1)) hp1) rfl rfl ⟨by decide, by decide⟩ (fun v w hf => ?_) (fun v w hf => ?_) (fun k9 of9 wr9 a9 w9 hf hf9 => ?_)
    · obtain ⟨rfl, rfl⟩ := hf
      exact ⟨_, _, _, rfl, rfl⟩
    · obtain ⟨rfl, _⟩ := hf
      exact ⟨_, rfl⟩
    · obtain ⟨hk9, hw9⟩ := hf
      obtain ⟨ha9, hv9⟩ := hf9
      subst hv9
      cases hk9
      cases ha9
      refine ⟨fun sz => c_X8_thrown l D y sz _ _ _ _ _ _ _ _ _ _ _ _ _ _ _ _ _ _ _ _ _ _ _ _ _ _ _ _ _ _, ⟨_, rfl⟩, fun z => absurd z (by decide), fun H locs ls hP hD hS hl => ?_⟩
      rw [hw9] at hP hD
      refine W.widen (by omega) (by omega) (KK _ H locs ls ?_ hP hD hS hl)
      exact SimW_mk (hSim)
set_option maxHeartbeats 4000000 in
set_option maxRecDepth 100000 in
theorem st_needs (C : lwC p l s m meth c b L xs D y ad) {i : Nat} (hi : i + 7 ≤ L) {hX1 h8 oa : Nat} {qX q8 : Nat → Nat} (hl : lv_has ls 8 [(0, .ref b), (1, .ref hX1), (2, .ref h8), (3, .ref oa), (4, .int (nI i))]) {ws : va_W} (hW : SimW y ad hX1 qX h8 q8 oa ws) (hP : va_P D vwCl ws H) (hD : va_D (lA s) ws) (hS : va_S (lA s) s.heap H locs) (hroom : cells + 10 ≤ 601024 ∧ slots + 168 ≤ 7293034) (KK : stK p l e s m below meth c Q b D y ad hX1 qX h8 q8 oa i cells slots) : W p l e room_1 s m #[Value.ref b] below meth c H locs cells slots Q (F0 m 1767 ls []) := by
  obtain ⟨of, n, b1, l1, r1, b2, l2, r2, b3, l3, r3, uz, ul, uh, f1, g1, f2, g2, pa, kd, on, ot, pt, fb, fl, fh, tb, tl, th, dg, ds, tw, ki, on8, ot8, ab, be, zA, zB, zC, zD, zF, zT, fo, lw, hg, at_, tl8, th8, wo, wl, wh, is_, lo_, hi_, di, su, an, rfl, hSim⟩ := hW
  have hn := hSim.1.1
  rcases q_isP hn (xs (i + 1)) with ⟨k, hk, e1⟩ | ⟨hb1, hp1⟩
  · refine lz_needs C hi e1 hl hP hD hS rfl (fun sz => c_L_needs_0 l C.2.2.2.2.2 D y ad sz hX1 qX n b1 l1 r1 b2 l2 r2 b3 l3 r3 uz ul uh f1 g1 f2 g2 pa kd on ot pt fb fl fh tb tl th dg ds k oa of hn hk) rfl rfl ⟨by decide, by decide⟩ ⟨by omega, by omega⟩ (fun sz => c_X8_needs_0 l D y sz h8 q8 tw n ki on8 ot8 ab be zA zB zC zD zF zT fo lw hg at_ tl8 th8 wo wl wh is_ lo_ hi_ di su an k hn hk) rfl rfl ⟨by decide, by decide⟩ (fun v w hf => ?_) (fun v w hf => ?_) (fun k9 of9 wr9 a9 w9 hf hf9 => ?_)
    · obtain ⟨rfl, rfl⟩ := hf
      exact ⟨_, _, _, rfl, rfl⟩
    · obtain ⟨rfl, _⟩ := hf
      exact ⟨_, rfl⟩
    · obtain ⟨hk9, hw9⟩ := hf
      obtain ⟨ha9, hv9⟩ := hf9
      subst hv9
      cases hk9
      cases ha9
      have ho9 : of9 0 = _ := (congrFun (g_of9 hw9) 0).trans (updL_at9 of 0 _)
      refine ⟨fun sz => c_X8_thrown l D y sz _ _ _ _ _ _ _ _ _ _ _ _ _ _ _ _ _ _ _ _ _ _ _ _ _ _ _ _ _ _, ⟨_, rfl⟩, fun _ => ho9.trans (congrArg Int32.toInt64 (sm_needs (fun k hk => (hSim.2 k hk).1) hn hk an)), fun H locs ls hP hD hS hl => ?_⟩
      rw [hw9] at hP hD
      refine W.widen (by omega) (by omega) (KK _ H locs ls ?_ hP hD hS hl)
      exact SimW_mk (hSim)
  · refine lz_needs C hi rfl hl hP hD hS rfl (fun sz => c_L_needs_X1 l C.2.2.2.2.2 D y ad sz hX1 qX n b1 l1 r1 b2 l2 r2 b3 l3 r3 uz ul uh f1 g1 f2 g2 pa kd on ot pt fb fl fh tb tl th dg ds (xs (i + 1)) oa of hb1) rfl rfl ⟨by decide, by decide⟩ ⟨by omega, by omega⟩ (fun sz => c_X8_needs_1 l D y sz h8 q8 tw n ki on8 ot8 ab be zA zB zC zD zF zT fo lw hg at_ tl8 th8 wo wl wh is_ lo_ hi_ di su an (xs (i + 1)) hp1) rfl rfl ⟨by decide, by decide⟩ (fun v w hf => ?_) (fun v w hf => ?_) (fun k9 of9 wr9 a9 w9 hf hf9 => ?_)
    · obtain ⟨rfl, rfl⟩ := hf
      exact ⟨_, _, _, rfl, rfl⟩
    · obtain ⟨rfl, _⟩ := hf
      exact ⟨_, rfl⟩
    · obtain ⟨hk9, hw9⟩ := hf
      obtain ⟨ha9, hv9⟩ := hf9
      subst hv9
      cases hk9
      cases ha9
      refine ⟨fun sz => c_X8_thrown l D y sz _ _ _ _ _ _ _ _ _ _ _ _ _ _ _ _ _ _ _ _ _ _ _ _ _ _ _ _ _ _, ⟨_, rfl⟩, fun z => absurd z (by decide), fun H locs ls hP hD hS hl => ?_⟩
      rw [hw9] at hP hD
      refine W.widen (by omega) (by omega) (KK _ H locs ls ?_ hP hD hS hl)
      exact SimW_mk (hSim)
end GST
