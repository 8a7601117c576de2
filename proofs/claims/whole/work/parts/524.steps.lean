section GST
variable {p : Program} {l : Launch} {e : Env} {s : State} {m : MethodId} {below : List Frame} {meth : Method} {c : Code} {H : Heap} {locs : List Loc} {cells slots : Nat} {Q : State → Prop}
variable {ls : Array Slot} {D : va_G} {y : Nat → ClassId} {ad : Nat → Nat} {b L : Nat} {xs : Nat → Int32}
set_option maxHeartbeats 4000000 in
set_option maxRecDepth 100000 in
theorem st_place (C : lwC p l s m meth c b L xs D y ad) {i : Nat} (hi : i + 7 ≤ L) {hX1 h8 oa : Nat} {qX q8 : Nat → Nat} (hl : lv_has ls 8 [(0, .ref b), (1, .ref hX1), (2, .ref h8), (3, .ref oa), (4, .int (nI i))]) {ws : va_W} (hW : SimW y ad hX1 qX h8 q8 oa ws) (hP : va_P D vwCl ws H) (hD : va_D (lA s) ws) (hS : va_S (lA s) s.heap H locs) (hroom : cells + 10 ≤ 601024 ∧ slots + 168 ≤ 7293034) (KK : stK p l e s m below meth c Q b D y ad hX1 qX h8 q8 oa i cells slots) : W p l e room_1 s m #[Value.ref b] below meth c H locs cells slots Q (F0 m 1087 ls []) := by
  obtain ⟨of, n, b1, l1, r1, b2, l2, r2, b3, l3, r3, uz, ul, uh, f1, g1, f2, g2, pa, kd, on, ot, pt, fb, fl, fh, tb, tl, th, dg, ds, tw, ki, on8, ot8, ab, be, zA, zB, zC, zD, zF, zT, fo, lw, hg, at_, tl8, th8, wo, wl, wh, is_, lo_, hi_, di, su, an, rfl, hSim⟩ := hW
  have hn := hSim.1.1
  rcases q_isP hn (xs (i + 1)) with ⟨k, hk, e1⟩ | ⟨hb1, hp1⟩
  · rcases q_isPl (xs (i + 2)) with ⟨f, hf, e2⟩ | ⟨hb2, hp2⟩
    · refine lz_place C hi e1 e2 hl hP hD hS rfl (fun sz => c_L_place_0 l C.2.2.2.2.2 D y ad sz hX1 qX n b1 l1 r1 b2 l2 r2 b3 l3 r3 uz ul uh f1 g1 f2 g2 pa kd on ot pt fb fl fh tb tl th dg ds k f oa of hn hk hf) rfl rfl ⟨by decide, by decide⟩ ⟨by omega, by omega⟩ (fun sz => c_X8_place_0 l D y sz h8 q8 tw n ki on8 ot8 ab be zA zB zC zD zF zT fo lw hg at_ tl8 th8 wo wl wh is_ lo_ hi_ di su an k f hn hk hf) rfl rfl ⟨by decide, by decide⟩ (fun v w hf => ?_) (fun v w hf => ?_) (fun k9 of9 wr9 a9 w9 hf hf9 => ?_)
      · obtain ⟨_, _, _, _, _, _, _, _, _, _, _, _, _, _, _, _, rfl, rfl⟩ := hf
        exact ⟨_, _, _, rfl, rfl⟩
      · obtain ⟨rfl, _⟩ := hf
        exact ⟨_, rfl⟩
      · obtain ⟨yb1, yl1, yr1, yb2, yl2, yr2, yb3, yl3, yr3, yuz, yul, yuh, yf1, yg1, yf2, yg2, hk9, hw9⟩ := hf
        obtain ⟨ha9, hv9⟩ := hf9
        subst hv9
        cases hk9
        cases ha9
        have ho9 : of9 0 = _ := (congrFun (g_of9 hw9) 0).trans (updL_at9 of 0 _)
        refine ⟨fun sz => c_X8_thrown l D y sz _ _ _ _ _ _ _ _ _ _ _ _ _ _ _ _ _ _ _ _ _ _ _ _ _ _ _ _ _ _, ⟨_, rfl⟩, fun _ => ho9.trans (congrArg Int32.toInt64 (q_place (hSim.2 k hk).2.2.1 hf)), fun H locs ls hP hD hS hl => ?_⟩
        rw [hw9] at hP hD
        refine W.widen (by omega) (by omega) (KK _ H locs ls ?_ hP hD hS hl)
        exact SimW_mk (hSim)
    · refine lz_place C hi e1 rfl hl hP hD hS rfl (fun sz => c_L_place_X2 l C.2.2.2.2.2 D y ad sz hX1 qX n b1 l1 r1 b2 l2 r2 b3 l3 r3 uz ul uh f1 g1 f2 g2 pa kd on ot pt fb fl fh tb tl th dg ds k (xs (i + 2)) oa of hn hk hb2) rfl rfl ⟨by decide, by decide⟩ ⟨by omega, by omega⟩ (fun sz => c_X8_place_2 l D y sz h8 q8 tw n ki on8 ot8 ab be zA zB zC zD zF zT fo lw hg at_ tl8 th8 wo wl wh is_ lo_ hi_ di su an k (xs (i + 2)) hn hk hp2) rfl rfl ⟨by decide, by decide⟩ (fun v w hf => ?_) (fun v w hf => ?_) (fun k9 of9 wr9 a9 w9 hf hf9 => ?_)
      · obtain ⟨rfl, rfl⟩ := hf
        exact ⟨_, _, _, rfl, rfl⟩
      · obtain ⟨rfl, _⟩ := hf
        exact ⟨_, rfl⟩
      · obtain ⟨hk9, hw9⟩ := hf
        obtain ⟨ha9, hv9⟩ := hf9
        subst hv9
        cases hk9
        cases ha9
        refine ⟨fun sz => c_X8_thrown l D y sz _ _ _ _ _ _ _ _ _ _ _ _ _ _ _ _ _ _ _ _ _ _ _ _ _ _ _ _ _ _, ⟨_, rfl⟩, fun z => absurd z (by decide), fun H locs ls hP hD hS hl => ?_⟩
        rw [hw9] at hP hD
        refine W.widen (by omega) (by omega) (KK _ H locs ls ?_ hP hD hS hl)
        exact SimW_mk (hSim)
  · refine lz_place C hi rfl rfl hl hP hD hS rfl (fun sz => c_L_place_X1 l C.2.2.2.2.2 D y ad sz hX1 qX n b1 l1 r1 b2 l2 r2 b3 l3 r3 uz ul uh f1 g1 f2 g2 pa kd on ot pt fb fl fh tb tl th dg ds (xs (i + 1)) (xs (i + 2)) oa of hb1) rfl rfl ⟨by decide, by decide⟩ ⟨by omega, by omega⟩ (fun sz => c_X8_place_1 l D y sz h8 q8 tw n ki on8 ot8 ab be zA zB zC zD zF zT fo lw hg at_ tl8 th8 wo wl wh is_ lo_ hi_ di su an (xs (i + 1)) (xs (i + 2)) hp1) rfl rfl ⟨by decide, by decide⟩ (fun v w hf => ?_) (fun v w hf => ?_) (fun k9 of9 wr9 a9 w9 hf hf9 => ?_)
    · obtain ⟨rfl, rfl⟩ := hf
      exact ⟨_, _, _, rfl, rfl⟩
    · obtain ⟨rfl, _⟩ := hf
      exact ⟨_, rfl⟩
    · obtain ⟨hk9, hw9⟩ := hf
      obtain ⟨ha9, hv9⟩ := hf9
      subst hv9
      cases hk9
      cases ha9
      refine ⟨fun sz => c_X8_thrown l D y sz _ _ _ _ _ _ _ _ _ _ _ _ _ _ _ _ _ _ _ _ _ _ _ _ _ _ _ _ _ _, ⟨_, rfl⟩, fun z => absurd z (by decide), fun H locs ls hP hD hS hl => ?_⟩
      rw [hw9] at hP hD
      refine W.widen (by omega) (by omega) (KK _ H locs ls ?_ hP hD hS hl)
      exact SimW_mk (hSim)
set_option maxHeartbeats 4000000 in
set_option maxRecDepth 100000 in
theorem st_compare (C : lwC p l s m meth c b L xs D y ad) {i : Nat} (hi : i + 7 ≤ L) {hX1 h8 oa : Nat} {qX q8 : Nat → Nat} (hl : lv_has ls 8 [(0, .ref b), (1, .ref hX1), (2, .ref h8), (3, .ref oa), (4, .int (nI i))]) {ws : va_W} (hW : SimW y ad hX1 qX h8 q8 oa ws) (hP : va_P D vwCl ws H) (hD : va_D (lA s) ws) (hS : va_S (lA s) s.heap H locs) (hroom : cells + 10 ≤ 601024 ∧ slots + 168 ≤ 7293034) (KK : stK p l e s m below meth c Q b D y ad hX1 qX h8 q8 oa i cells slots) : W p l e room_1 s m #[Value.ref b] below meth c H locs cells slots Q (F0 m 1155 ls []) := by
  obtain ⟨of, n, b1, l1, r1, b2, l2, r2, b3, l3, r3, uz, ul, uh, f1, g1, f2, g2, pa, kd, on, ot, pt, fb, fl, fh, tb, tl, th, dg, ds, tw, ki, on8, ot8, ab, be, zA, zB, zC, zD, zF, zT, fo, lw, hg, at_, tl8, th8, wo, wl, wh, is_, lo_, hi_, di, su, an, rfl, hSim⟩ := hW
  have hn := hSim.1.1
  rcases q_isP hn (xs (i + 1)) with ⟨k, hk, e1⟩ | ⟨hb1, hp1⟩
  · rcases q_isP hn (xs (i + 2)) with ⟨j, hj, e2⟩ | ⟨hb2, hp2⟩
    · rcases q_isPl (xs (i + 3)) with ⟨p, hp, e3⟩ | ⟨hb3, hp3⟩
      · refine lz_compare C hi e1 e2 e3 hl hP hD hS rfl (fun sz => c_L_compare_0 l C.2.2.2.2.2 D y ad sz hX1 qX n b1 l1 r1 b2 l2 r2 b3 l3 r3 uz ul uh f1 g1 f2 g2 pa kd on ot pt fb fl fh tb tl th dg ds k j p oa of hn hk hj hp) rfl rfl ⟨by decide, by decide⟩ ⟨by omega, by omega⟩ (fun sz => c_X8_compare_0 l D y sz h8 q8 tw n ki on8 ot8 ab be zA zB zC zD zF zT fo lw hg at_ tl8 th8 wo wl wh is_ lo_ hi_ di su an k j p hn hk hj hp) rfl rfl ⟨by decide, by decide⟩ (fun v w hf => ?_) (fun v w hf => ?_) (fun k9 of9 wr9 a9 w9 hf hf9 => ?_)
        · obtain ⟨_, _, _, _, _, _, _, _, _, _, _, _, _, _, _, _, rfl, rfl⟩ := hf
          exact ⟨_, _, _, rfl, rfl⟩
        · obtain ⟨rfl, _⟩ := hf
          exact ⟨_, rfl⟩
        · obtain ⟨yb1, yl1, yr1, yb2, yl2, yr2, yb3, yl3, yr3, yuz, yul, yuh, yf1, yg1, yf2, yg2, hk9, hw9⟩ := hf
          obtain ⟨ha9, hv9⟩ := hf9
          subst hv9
          cases hk9
          cases ha9
          have ho9 : of9 0 = _ := (congrFun (g_of9 hw9) 0).trans (updL_at9 of 0 _)
          refine ⟨fun sz => c_X8_thrown l D y sz _ _ _ _ _ _ _ _ _ _ _ _ _ _ _ _ _ _ _ _ _ _ _ _ _ _ _ _ _ _, ⟨_, rfl⟩, fun _ => ho9.trans (congrArg Int32.toInt64 (q_comp (hSim.2 k hk).2.2.1 (hSim.2 j hj).2.2.1 hp)), fun H locs ls hP hD hS hl => ?_⟩
          rw [hw9] at hP hD
          refine W.widen (by omega) (by omega) (KK _ H locs ls ?_ hP hD hS hl)
          exact SimW_mk (hSim)
      · refine lz_compare C hi e1 e2 rfl hl hP hD hS rfl (fun sz => c_L_compare_X2 l C.2.2.2.2.2 D y ad sz hX1 qX n b1 l1 r1 b2 l2 r2 b3 l3 r3 uz ul uh f1 g1 f2 g2 pa kd on ot pt fb fl fh tb tl th dg ds k j (xs (i + 3)) oa of hn hk hj hb3) rfl rfl ⟨by decide, by decide⟩ ⟨by omega, by omega⟩ (fun sz => c_X8_compare_2 l D y sz h8 q8 tw n ki on8 ot8 ab be zA zB zC zD zF zT fo lw hg at_ tl8 th8 wo wl wh is_ lo_ hi_ di su an k j (xs (i + 3)) hn hk hj hp3) rfl rfl ⟨by decide, by decide⟩ (fun v w hf => ?_) (fun v w hf => ?_) (fun k9 of9 wr9 a9 w9 hf hf9 => ?_)
        · obtain ⟨rfl, rfl⟩ := hf
          exact ⟨_, _, _, rfl, rfl⟩
        · obtain ⟨rfl, _⟩ := hf
          exact ⟨_, rfl⟩
        · obtain ⟨hk9, hw9⟩ := hf
          obtain ⟨ha9, hv9⟩ := hf9
          subst hv9
          cases hk9
          cases ha9
          refine ⟨fun sz => c_X8_thrown l D y sz _ _ _ _ _ _ _ _ _ _ _ _ _ _ _ _ _ _ _ _ _ _ _ _ _ _ _ _ _ _, ⟨_, rfl⟩, fun z => absurd z (by decide), fun H locs ls hP hD hS hl => ?_⟩
          rw [hw9] at hP hD
          refine W.widen (by omega) (by omega) (KK _ H locs ls ?_ hP hD hS hl)
          exact SimW_mk (hSim)
    · refine lz_compare C hi e1 rfl rfl hl hP hD hS rfl (fun sz => c_L_compare_X1b l C.2.2.2.2.2 D y ad sz hX1 qX n b1 l1 r1 b2 l2 r2 b3 l3 r3 uz ul uh f1 g1 f2 g2 pa kd on ot pt fb fl fh tb tl th dg ds k (xs (i + 2)) (xs (i + 3)) oa of hn hk hb2) rfl rfl ⟨by decide, by decide⟩ ⟨by omega, by omega⟩ (fun sz => c_X8_compare_1 l D y sz h8 q8 tw n ki on8 ot8 ab be zA zB zC zD zF zT fo lw hg at_ tl8 th8 wo wl wh is_ lo_ hi_ di su an (nI k) (xs (i + 2)) (xs (i + 3)) (fun z => hp2 z.2)) rfl rfl ⟨by decide, by decide⟩ (fun v w hf => ?_) (fun v w hf => ?_) (fun k9 of9 wr9 a9 w9 hf hf9 => ?_)
      · obtain ⟨rfl, rfl⟩ := hf
        exact ⟨_, _, _, rfl, rfl⟩
      · obtain ⟨rfl, _⟩ := hf
        exact ⟨_, rfl⟩
      · obtain ⟨hk9, hw9⟩ := hf
        obtain ⟨ha9, hv9⟩ := hf9
        subst hv9
        cases hk9
        cases ha9
        refine ⟨fun sz => c_X8_thrown l D y sz _ _ _ _ _ _ _ _ _ _ _ _ _ _ _ _ _ _ _ _ _ _ _ _ _ _ _ _ _ _, ⟨_, rfl⟩, fun z => absurd z (by decide), fun H locs ls hP hD hS hl => ?_⟩
        rw [hw9] at hP hD
        refine W.widen (by omega) (by omega) (KK _ H locs ls ?_ hP hD hS hl)
        exact SimW_mk (hSim)
  · refine lz_compare C hi rfl rfl rfl hl hP hD hS rfl (fun sz => c_L_compare_X1a l C.2.2.2.2.2 D y ad sz hX1 qX n b1 l1 r1 b2 l2 r2 b3 l3 r3 uz ul uh f1 g1 f2 g2 pa kd on ot pt fb fl fh tb tl th dg ds (xs (i + 1)) (xs (i + 2)) (xs (i + 3)) oa of hb1) rfl rfl ⟨by decide, by decide⟩ ⟨by omega, by omega⟩ (fun sz => c_X8_compare_1 l D y sz h8 q8 tw n ki on8 ot8 ab be zA zB zC zD zF zT fo lw hg at_ tl8 th8 wo wl wh is_ lo_ hi_ di su an (xs (i + 1)) (xs (i + 2)) (xs (i + 3)) (fun z => hp1 z.1)) rfl rfl ⟨by decide, by decide⟩ (fun v w hf => ?_) (fun v w hf => ?_) (fun k9 of9 wr9 a9 w9 hf hf9 => ?_)
    · obtain ⟨rfl, rfl⟩ := hf
      exact ⟨_, _, _, rfl, rfl⟩
    · obtain ⟨rfl, _⟩ := hf
      exact ⟨_, rfl⟩
    · obtain ⟨hk9, hw9⟩ := hf
      obtain ⟨ha9, hv9⟩ := hf9
      subst hv9
      cases hk9
      cases ha9
      refine ⟨fun sz => c_X8_thrown l D y sz _ _ _ _ _ _ _ _ _ _ _ _ _ _ _ _ _ _ _ _ _ _ _ _ _ _ _ _ _ _, ⟨_, rfl⟩, fun z => absurd z (by decide), fun H locs ls hP hD hS hl => ?_⟩
      rw [hw9] at hP hD
      refine W.widen (by omega) (by omega) (KK _ H locs ls ?_ hP hD hS hl)
      exact SimW_mk (hSim)
set_option maxHeartbeats 4000000 in
set_option maxRecDepth 100000 in
theorem st_decided (C : lwC p l s m meth c b L xs D y ad) {i : Nat} (hi : i + 7 ≤ L) {hX1 h8 oa : Nat} {qX q8 : Nat → Nat} (hl : lv_has ls 8 [(0, .ref b), (1, .ref hX1), (2, .ref h8), (3, .ref oa), (4, .int (nI i))]) {ws : va_W} (hW : SimW y ad hX1 qX h8 q8 oa ws) (hP : va_P D vwCl ws H) (hD : va_D (lA s) ws) (hS : va_S (lA s) s.heap H locs) (hroom : cells + 10 ≤ 601024 ∧ slots + 168 ≤ 7293034) (KK : stK p l e s m below meth c Q b D y ad hX1 qX h8 q8 oa i cells slots) : W p l e room_1 s m #[Value.ref b] below meth c H locs cells slots Q (F0 m 1235 ls []) := by
  obtain ⟨of, n, b1, l1, r1, b2, l2, r2, b3, l3, r3, uz, ul, uh, f1, g1, f2, g2, pa, kd, on, ot, pt, fb, fl, fh, tb, tl, th, dg, ds, tw, ki, on8, ot8, ab, be, zA, zB, zC, zD, zF, zT, fo, lw, hg, at_, tl8, th8, wo, wl, wh, is_, lo_, hi_, di, su, an, rfl, hSim⟩ := hW
  have hn := hSim.1.1
  rcases q_isP hn (xs (i + 1)) with ⟨k, hk, e1⟩ | ⟨hb1, hp1⟩
  · rcases q_isP hn (xs (i + 2)) with ⟨j, hj, e2⟩ | ⟨hb2, hp2⟩
    · refine lz_decided C hi e1 e2 hl hP hD hS rfl (fun sz => c_L_decided_0 l C.2.2.2.2.2 D y ad sz hX1 qX n b1 l1 r1 b2 l2 r2 b3 l3 r3 uz ul uh f1 g1 f2 g2 pa kd on ot pt fb fl fh tb tl th dg ds k j oa of hn hk hj) rfl rfl ⟨by decide, by decide⟩ ⟨by omega, by omega⟩ (fun sz => c_X8_decided_0 l D y sz h8 q8 tw n ki on8 ot8 ab be zA zB zC zD zF zT fo lw hg at_ tl8 th8 wo wl wh is_ lo_ hi_ di su an k j hn hk hj) rfl rfl ⟨by decide, by decide⟩ (fun v w hf => ?_) (fun v w hf => ?_) (fun k9 of9 wr9 a9 w9 hf hf9 => ?_)
      · obtain ⟨_, _, _, _, _, _, _, _, _, _, _, _, _, _, _, _, rfl, rfl⟩ := hf
        exact ⟨_, _, _, rfl, rfl⟩
      · obtain ⟨rfl, _⟩ := hf
        exact ⟨_, rfl⟩
      · obtain ⟨yb1, yl1, yr1, yb2, yl2, yr2, yb3, yl3, yr3, yuz, yul, yuh, yf1, yg1, yf2, yg2, hk9, hw9⟩ := hf
        obtain ⟨ha9, hv9⟩ := hf9
        subst hv9
        cases hk9
        cases ha9
        have ho9 : of9 0 = _ := (congrFun (g_of9 hw9) 0).trans (updL_at9 of 0 _)
        refine ⟨fun sz => c_X8_thrown l D y sz _ _ _ _ _ _ _ _ _ _ _ _ _ _ _ _ _ _ _ _ _ _ _ _ _ _ _ _ _ _, ⟨_, rfl⟩, fun _ => ho9.trans (congrArg Int32.toInt64 (q_dec 25 0 rfl (fun q hq => q_comp (hSim.2 k hk).2.2.1 (hSim.2 j hj).2.2.1 hq))), fun H locs ls hP hD hS hl => ?_⟩
        rw [hw9] at hP hD
        refine W.widen (by omega) (by omega) (KK _ H locs ls ?_ hP hD hS hl)
        exact SimW_mk (hSim)
    · refine lz_decided C hi e1 rfl hl hP hD hS rfl (fun sz => c_L_decided_X1b l C.2.2.2.2.2 D y ad sz hX1 qX n b1 l1 r1 b2 l2 r2 b3 l3 r3 uz ul uh f1 g1 f2 g2 pa kd on ot pt fb fl fh tb tl th dg ds k (xs (i + 2)) oa of hn hk hb2) rfl rfl ⟨by decide, by decide⟩ ⟨by omega, by omega⟩ (fun sz => c_X8_decided_1 l D y sz h8 q8 tw n ki on8 ot8 ab be zA zB zC zD zF zT fo lw hg at_ tl8 th8 wo wl wh is_ lo_ hi_ di su an (nI k) (xs (i + 2)) (fun z => hp2 z.2)) rfl rfl ⟨by decide, by decide⟩ (fun v w hf => ?_) (fun v w hf => ?_) (fun k9 of9 wr9 a9 w9 hf hf9 => ?_)
      · obtain ⟨rfl, rfl⟩ := hf
        exact ⟨_, _, _, rfl, rfl⟩
      · obtain ⟨rfl, _⟩ := hf
        exact ⟨_, rfl⟩
      · obtain ⟨hk9, hw9⟩ := hf
        obtain ⟨ha9, hv9⟩ := hf9
        subst hv9
        cases hk9
        cases ha9
        refine ⟨fun sz => c_X8_thrown l D y sz _ _ _ _ _ _ _ _ _ _ _ _ _ _ _ _ _ _ _ _ _ _ _ _ _ _ _ _ _ _, ⟨_, rfl⟩, fun z => absurd z (by decide), fun H locs ls hP hD hS hl => ?_⟩
        rw [hw9] at hP hD
        refine W.widen (by omega) (by omega) (KK _ H locs ls ?_ hP hD hS hl)
        exact SimW_mk (hSim)
  · refine lz_decided C hi rfl rfl hl hP hD hS rfl (fun sz => c_L_decided_X1a l C.2.2.2.2.2 D y ad sz hX1 qX n b1 l1 r1 b2 l2 r2 b3 l3 r3 uz ul uh f1 g1 f2 g2 pa kd on ot pt fb fl fh tb tl th dg ds (xs (i + 1)) (xs (i + 2)) oa of hb1) rfl rfl ⟨by decide, by decide⟩ ⟨by omega, by omega⟩ (fun sz => c_X8_decided_1 l D y sz h8 q8 tw n ki on8 ot8 ab be zA zB zC zD zF zT fo lw hg at_ tl8 th8 wo wl wh is_ lo_ hi_ di su an (xs (i + 1)) (xs (i + 2)) (fun z => hp1 z.1)) rfl rfl ⟨by decide, by decide⟩ (fun v w hf => ?_) (fun v w hf => ?_) (fun k9 of9 wr9 a9 w9 hf hf9 => ?_)
    · obtain ⟨rfl, rfl⟩ := hf
      exact ⟨_, _, _, rfl, rfl⟩
    · obtain ⟨rfl, _⟩ := hf
      exact ⟨_, rfl⟩
    · obtain ⟨hk9, hw9⟩ := hf
      obtain ⟨ha9, hv9⟩ := hf9
      subst hv9
      cases hk9
      cases ha9
      refine ⟨fun sz => c_X8_thrown l D y sz _ _ _ _ _ _ _ _ _ _ _ _ _ _ _ _ _ _ _ _ _ _ _ _ _ _ _ _ _ _, ⟨_, rfl⟩, fun z => absurd z (by decide), fun H locs ls hP hD hS hl => ?_⟩
      rw [hw9] at hP hD
      refine W.widen (by omega) (by omega) (KK _ H locs ls ?_ hP hD hS hl)
      exact SimW_mk (hSim)
set_option maxHeartbeats 4000000 in
set_option maxRecDepth 100000 in
theorem st_decimals (C : lwC p l s m meth c b L xs D y ad) {i : Nat} (hi : i + 7 ≤ L) {hX1 h8 oa : Nat} {qX q8 : Nat → Nat} (hl : lv_has ls 8 [(0, .ref b), (1, .ref hX1), (2, .ref h8), (3, .ref oa), (4, .int (nI i))]) {ws : va_W} (hW : SimW y ad hX1 qX h8 q8 oa ws) (hP : va_P D vwCl ws H) (hD : va_D (lA s) ws) (hS : va_S (lA s) s.heap H locs) (hroom : cells + 10 ≤ 601024 ∧ slots + 168 ≤ 7293034) (KK : stK p l e s m below meth c Q b D y ad hX1 qX h8 q8 oa i cells slots) : W p l e room_1 s m #[Value.ref b] below meth c H locs cells slots Q (F0 m 1303 ls []) := by
  obtain ⟨of, n, b1, l1, r1, b2, l2, r2, b3, l3, r3, uz, ul, uh, f1, g1, f2, g2, pa, kd, on, ot, pt, fb, fl, fh, tb, tl, th, dg, ds, tw, ki, on8, ot8, ab, be, zA, zB, zC, zD, zF, zT, fo, lw, hg, at_, tl8, th8, wo, wl, wh, is_, lo_, hi_, di, su, an, rfl, hSim⟩ := hW
  have hn := hSim.1.1
  rcases q_isP hn (xs (i + 1)) with ⟨k, hk, e1⟩ | ⟨hb1, hp1⟩
  · rcases q_isPl (xs (i + 2)) with ⟨p, hp, e2⟩ | ⟨hb2, hp2⟩
    · refine lz_decimals C hi e1 e2 hl hP hD hS rfl (fun sz => c_L_decimals_0 l C.2.2.2.2.2 D y ad sz hX1 qX n b1 l1 r1 b2 l2 r2 b3 l3 r3 uz ul uh f1 g1 f2 g2 pa kd on ot pt fb fl fh tb tl th dg ds k p oa of hn hk hp) rfl rfl ⟨by decide, by decide⟩ ⟨by omega, by omega⟩ (fun sz => c_X8_decimals_0 l D y sz h8 q8 tw n ki on8 ot8 ab be zA zB zC zD zF zT fo lw hg at_ tl8 th8 wo wl wh is_ lo_ hi_ di su an k p hn hk hp) rfl rfl ⟨by decide, by decide⟩ (fun v w hf => ?_) (fun v w hf => ?_) (fun k9 of9 wr9 a9 w9 hf hf9 => ?_)
      · obtain ⟨_, _, _, _, _, _, _, _, _, _, _, _, _, _, _, _, rfl, rfl⟩ := hf
        exact ⟨_, _, _, rfl, rfl⟩
      · obtain ⟨rfl, _⟩ := hf
        exact ⟨_, rfl⟩
      · obtain ⟨yb1, yl1, yr1, yb2, yl2, yr2, yb3, yl3, yr3, yuz, yul, yuh, yf1, yg1, yf2, yg2, hk9, hw9⟩ := hf
        obtain ⟨ha9, hv9⟩ := hf9
        subst hv9
        cases hk9
        cases ha9
        have ho9 : of9 0 = _ := (congrFun (g_of9 hw9) 0).trans (updL_at9 of 0 _)
        refine ⟨fun sz => c_X8_thrown l D y sz _ _ _ _ _ _ _ _ _ _ _ _ _ _ _ _ _ _ _ _ _ _ _ _ _ _ _ _ _ _, ⟨_, rfl⟩, fun _ => ho9.trans (congrArg Int32.toInt64 (q_decs (hSim.2 k hk).2.2.1 hp)), fun H locs ls hP hD hS hl => ?_⟩
        rw [hw9] at hP hD
        refine W.widen (by omega) (by omega) (KK _ H locs ls ?_ hP hD hS hl)
        exact SimW_mk (hSim)
    · refine lz_decimals C hi e1 rfl hl hP hD hS rfl (fun sz => c_L_decimals_X2 l C.2.2.2.2.2 D y ad sz hX1 qX n b1 l1 r1 b2 l2 r2 b3 l3 r3 uz ul uh f1 g1 f2 g2 pa kd on ot pt fb fl fh tb tl th dg ds k (xs (i + 2)) oa of hn hk hb2) rfl rfl ⟨by decide, by decide⟩ ⟨by omega, by omega⟩ (fun sz => c_X8_decimals_2 l D y sz h8 q8 tw n ki on8 ot8 ab be zA zB zC zD zF zT fo lw hg at_ tl8 th8 wo wl wh is_ lo_ hi_ di su an k (xs (i + 2)) hn hk hp2) rfl rfl ⟨by decide, by decide⟩ (fun v w hf => ?_) (fun v w hf => ?_) (fun k9 of9 wr9 a9 w9 hf hf9 => ?_)
      · obtain ⟨_, _, _, _, _, _, _, _, _, _, _, _, _, _, _, _, rfl, rfl⟩ := hf
        exact ⟨_, _, _, rfl, rfl⟩
      · obtain ⟨rfl, _⟩ := hf
        exact ⟨_, rfl⟩
      · obtain ⟨yb1, yl1, yr1, yb2, yl2, yr2, yb3, yl3, yr3, yuz, yul, yuh, yf1, yg1, yf2, yg2, hk9, hw9⟩ := hf
        obtain ⟨ha9, hv9⟩ := hf9
        subst hv9
        cases hk9
        cases ha9
        refine ⟨fun sz => c_X8_thrown l D y sz _ _ _ _ _ _ _ _ _ _ _ _ _ _ _ _ _ _ _ _ _ _ _ _ _ _ _ _ _ _, ⟨_, rfl⟩, fun z => absurd z (by decide), fun H locs ls hP hD hS hl => ?_⟩
        rw [hw9] at hP hD
        refine W.widen (by omega) (by omega) (KK _ H locs ls ?_ hP hD hS hl)
        exact SimW_mk (hSim)
  · refine lz_decimals C hi rfl rfl hl hP hD hS rfl (fun sz => c_L_decimals_X1 l C.2.2.2.2.2 D y ad sz hX1 qX n b1 l1 r1 b2 l2 r2 b3 l3 r3 uz ul uh f1 g1 f2 g2 pa kd on ot pt fb fl fh tb tl th dg ds (xs (i + 1)) (xs (i + 2)) oa of hb1) rfl rfl ⟨by decide, by decide⟩ ⟨by omega, by omega⟩ (fun sz => c_X8_decimals_1 l D y sz h8 q8 tw n ki on8 ot8 ab be zA zB zC zD zF zT fo lw hg at_ tl8 th8 wo wl wh is_ lo_ hi_ di su an (xs (i + 1)) (xs (i + 2)) hp1) rfl rfl ⟨by decide, by decide⟩ (fun v w hf => ?_) (fun v w hf => ?_) (fun k9 of9 wr9 a9 w9 hf hf9 => ?_)
    · obtain ⟨_, _, _, _, _, _, _, _, _, _, _, _, _, _, _, _, rfl, rfl⟩ := hf
      exact ⟨_, _, _, rfl, rfl⟩
    · obtain ⟨rfl, _⟩ := hf
      exact ⟨_, rfl⟩
    · obtain ⟨yb1, yl1, yr1, yb2, yl2, yr2, yb3, yl3, yr3, yuz, yul, yuh, yf1, yg1, yf2, yg2, hk9, hw9⟩ := hf
      obtain ⟨ha9, hv9⟩ := hf9
      subst hv9
      cases hk9
      cases ha9
      refine ⟨fun sz => c_X8_thrown l D y sz _ _ _ _ _ _ _ _ _ _ _ _ _ _ _ _ _ _ _ _ _ _ _ _ _ _ _ _ _ _, ⟨_, rfl⟩, fun z => absurd z (by decide), fun H locs ls hP hD hS hl => ?_⟩
      rw [hw9] at hP hD
      refine W.widen (by omega) (by omega) (KK _ H locs ls ?_ hP hD hS hl)
      exact SimW_mk (hSim)
set_option maxHeartbeats 4000000 in
set_option maxRecDepth 100000 in
theorem st_decimal (C : lwC p l s m meth c b L xs D y ad) {i : Nat} (hi : i + 7 ≤ L) {hX1 h8 oa : Nat} {qX q8 : Nat → Nat} (hl : lv_has ls 8 [(0, .ref b), (1, .ref hX1), (2, .ref h8), (3, .ref oa), (4, .int (nI i))]) {ws : va_W} (hW : SimW y ad hX1 qX h8 q8 oa ws) (hP : va_P D vwCl ws H) (hD : va_D (lA s) ws) (hS : va_S (lA s) s.heap H locs) (hroom : cells + 10 ≤ 601024 ∧ slots + 168 ≤ 7293034) (KK : stK p l e s m below meth c Q b D y ad hX1 qX h8 q8 oa i cells slots) : W p l e room_1 s m #[Value.ref b] below meth c H locs cells slots Q (F0 m 1371 ls []) := by
  obtain ⟨of, n, b1, l1, r1, b2, l2, r2, b3, l3, r3, uz, ul, uh, f1, g1, f2, g2, pa, kd, on, ot, pt, fb, fl, fh, tb, tl, th, dg, ds, tw, ki, on8, ot8, ab, be, zA, zB, zC, zD, zF, zT, fo, lw, hg, at_, tl8, th8, wo, wl, wh, is_, lo_, hi_, di, su, an, rfl, hSim⟩ := hW
  have hn := hSim.1.1
  rcases q_isP hn (xs (i + 1)) with ⟨k, hk, e1⟩ | ⟨hb1, hp1⟩
  · rcases q_isPl (xs (i + 2)) with ⟨p, hp, e2⟩ | ⟨hb2, hp2⟩
    · rcases q_inN (xs (i + 3)) (m := 7) (by decide) with ⟨d, hd, e3⟩ | ⟨hb3, hp3⟩
      · have ht := (hSim.2 k hk).2.2.1
        by_cases hs : nI d ≤ suR at_ tl8 th8 k p
        · refine lz_decimal C hi e1 e2 e3 hl hP hD hS rfl (fun sz => c_L_decimal_0 l C.2.2.2.2.2 D y ad sz hX1 qX n b1 l1 r1 b2 l2 r2 b3 l3 r3 uz ul uh f1 g1 f2 g2 pa kd on ot pt fb fl fh tb tl th dg ds k p d oa of hn hk hp hd (by rw [q_decs ht hp]; exact hs)) rfl rfl ⟨by decide, by decide⟩ ⟨by omega, by omega⟩ (fun sz => c_X8_decimal_0 l D y sz h8 q8 tw n ki on8 ot8 ab be zA zB zC zD zF zT fo lw hg at_ tl8 th8 wo wl wh is_ lo_ hi_ di su an k p d hn hk hp hd hs) rfl rfl ⟨by decide, by decide⟩ (fun v w hf => ?_) (fun v w hf => ?_) (fun k9 of9 wr9 a9 w9 hf hf9 => ?_)
          · obtain ⟨_, _, _, _, _, _, _, _, _, _, _, _, _, _, _, _, rfl, rfl⟩ := hf
            exact ⟨_, _, _, rfl, rfl⟩
          · obtain ⟨rfl, _⟩ := hf
            exact ⟨_, rfl⟩
          · obtain ⟨yb1, yl1, yr1, yb2, yl2, yr2, yb3, yl3, yr3, yuz, yul, yuh, yf1, yg1, yf2, yg2, hk9, hw9⟩ := hf
            obtain ⟨ha9, hv9⟩ := hf9
            subst hv9
            cases hk9
            cases ha9
            have ho9 : of9 0 = _ := (congrFun (g_of9 hw9) 0).trans (updL_at9 of 0 _)
            refine ⟨fun sz => c_X8_thrown l D y sz _ _ _ _ _ _ _ _ _ _ _ _ _ _ _ _ _ _ _ _ _ _ _ _ _ _ _ _ _ _, ⟨_, rfl⟩, fun _ => ho9.trans (congrArg Int32.toInt64 (q_decv hp ((q_tl ht hp).2 (q_sd9 hd hs)).1)), fun H locs ls hP hD hS hl => ?_⟩
            rw [hw9] at hP hD
            refine W.widen (by omega) (by omega) (KK _ H locs ls ?_ hP hD hS hl)
            exact SimW_mk (hSim)
        · refine lz_decimal C hi e1 e2 e3 hl hP hD hS rfl (fun sz => c_L_decimal_X3 l C.2.2.2.2.2 D y ad sz hX1 qX n b1 l1 r1 b2 l2 r2 b3 l3 r3 uz ul uh f1 g1 f2 g2 pa kd on ot pt fb fl fh tb tl th dg ds k p d oa of hn hk hp hd (fun z => hs (by rw [q_decs ht hp] at z; exact z))) rfl rfl ⟨by decide, by decide⟩ ⟨by omega, by omega⟩ (fun sz => c_X8_decimal_3 l D y sz h8 q8 tw n ki on8 ot8 ab be zA zB zC zD zF zT fo lw hg at_ tl8 th8 wo wl wh is_ lo_ hi_ di su an k p d hn hk hp hd hs) rfl rfl ⟨by decide, by decide⟩ (fun v w hf => ?_) (fun v w hf => ?_) (fun k9 of9 wr9 a9 w9 hf hf9 => ?_)
          · obtain ⟨_, _, _, _, _, _, _, _, _, _, _, _, _, _, _, _, rfl, rfl⟩ := hf
            exact ⟨_, _, _, rfl, rfl⟩
          · obtain ⟨rfl, _⟩ := hf
            exact ⟨_, rfl⟩
          · obtain ⟨yb1, yl1, yr1, yb2, yl2, yr2, yb3, yl3, yr3, yuz, yul, yuh, yf1, yg1, yf2, yg2, hk9, hw9⟩ := hf
            obtain ⟨ha9, hv9⟩ := hf9
            subst hv9
            cases hk9
            cases ha9
            refine ⟨fun sz => c_X8_thrown l D y sz _ _ _ _ _ _ _ _ _ _ _ _ _ _ _ _ _ _ _ _ _ _ _ _ _ _ _ _ _ _, ⟨_, rfl⟩, fun z => absurd z (by decide), fun H locs ls hP hD hS hl => ?_⟩
            rw [hw9] at hP hD
            refine W.widen (by omega) (by omega) (KK _ H locs ls ?_ hP hD hS hl)
            exact SimW_mk (hSim)
      · refine lz_decimal C hi e1 e2 rfl hl hP hD hS rfl (fun sz => c_L_decimal_X2b l C.2.2.2.2.2 D y ad sz hX1 qX n b1 l1 r1 b2 l2 r2 b3 l3 r3 uz ul uh f1 g1 f2 g2 pa kd on ot pt fb fl fh tb tl th dg ds k p (xs (i + 3)) oa of hn hk hp hb3) rfl rfl ⟨by decide, by decide⟩ ⟨by omega, by omega⟩ (fun sz => c_X8_decimal_2 l D y sz h8 q8 tw n ki on8 ot8 ab be zA zB zC zD zF zT fo lw hg at_ tl8 th8 wo wl wh is_ lo_ hi_ di su an k (nI p) (xs (i + 3)) hn hk (fun z => hp3 z.2)) rfl rfl ⟨by decide, by decide⟩ (fun v w hf => ?_) (fun v w hf => ?_) (fun k9 of9 wr9 a9 w9 hf hf9 => ?_)
        · obtain ⟨_, _, _, _, _, _, _, _, _, _, _, _, _, _, _, _, rfl, rfl⟩ := hf
          exact ⟨_, _, _, rfl, rfl⟩
        · obtain ⟨rfl, _⟩ := hf
          exact ⟨_, rfl⟩
        · obtain ⟨yb1, yl1, yr1, yb2, yl2, yr2, yb3, yl3, yr3, yuz, yul, yuh, yf1, yg1, yf2, yg2, hk9, hw9⟩ := hf
          obtain ⟨ha9, hv9⟩ := hf9
          subst hv9
          cases hk9
          cases ha9
          refine ⟨fun sz => c_X8_thrown l D y sz _ _ _ _ _ _ _ _ _ _ _ _ _ _ _ _ _ _ _ _ _ _ _ _ _ _ _ _ _ _, ⟨_, rfl⟩, fun z => absurd z (by decide), fun H locs ls hP hD hS hl => ?_⟩
          rw [hw9] at hP hD
          refine W.widen (by omega) (by omega) (KK _ H locs ls ?_ hP hD hS hl)
          exact SimW_mk (hSim)
    · refine lz_decimal C hi e1 rfl rfl hl hP hD hS rfl (fun sz => c_L_decimal_X2 l C.2.2.2.2.2 D y ad sz hX1 qX n b1 l1 r1 b2 l2 r2 b3 l3 r3 uz ul uh f1 g1 f2 g2 pa kd on ot pt fb fl fh tb tl th dg ds k (xs (i + 2)) (xs (i + 3)) oa of hn hk hb2) rfl rfl ⟨by decide, by decide⟩ ⟨by omega, by omega⟩ (fun sz => c_X8_decimal_2 l D y sz h8 q8 tw n ki on8 ot8 ab be zA zB zC zD zF zT fo lw hg at_ tl8 th8 wo wl wh is_ lo_ hi_ di su an k (xs (i + 2)) (xs (i + 3)) hn hk (fun z => hp2 z.1)) rfl rfl ⟨by decide, by decide⟩ (fun v w hf => ?_) (fun v w hf => ?_) (fun k9 of9 wr9 a9 w9 hf hf9 => ?_)
      · obtain ⟨_, _, _, _, _, _, _, _, _, _, _, _, _, _, _, _, rfl, rfl⟩ := hf
        exact ⟨_, _, _, rfl, rfl⟩
      · obtain ⟨rfl, _⟩ := hf
        exact ⟨_, rfl⟩
      · obtain ⟨yb1, yl1, yr1, yb2, yl2, yr2, yb3, yl3, yr3, yuz, yul, yuh, yf1, yg1, yf2, yg2, hk9, hw9⟩ := hf
        obtain ⟨ha9, hv9⟩ := hf9
        subst hv9
        cases hk9
        cases ha9
        refine ⟨fun sz => c_X8_thrown l D y sz _ _ _ _ _ _ _ _ _ _ _ _ _ _ _ _ _ _ _ _ _ _ _ _ _ _ _ _ _ _, ⟨_, rfl⟩, fun z => absurd z (by decide), fun H locs ls hP hD hS hl => ?_⟩
        rw [hw9] at hP hD
        refine W.widen (by omega) (by omega) (KK _ H locs ls ?_ hP hD hS hl)
        exact SimW_mk (hSim)
  · refine lz_decimal C hi rfl rfl rfl hl hP hD hS rfl (fun sz => c_L_decimal_X1 l C.2.2.2.2.2 D y ad sz hX1 qX n b1 l1 r1 b2 l2 r2 b3 l3 r3 uz ul uh f1 g1 f2 g2 pa kd on ot pt fb fl fh tb tl th dg ds (xs (i + 1)) (xs (i + 2)) (xs (i + 3)) oa of hb1) rfl rfl ⟨by decide, by decide⟩ ⟨by omega, by omega⟩ (fun sz => c_X8_decimal_1 l D y sz h8 q8 tw n ki on8 ot8 ab be zA zB zC zD zF zT fo lw hg at_ tl8 th8 wo wl wh is_ lo_ hi_ di su an (xs (i + 1)) (xs (i + 2)) (xs (i + 3)) hp1) rfl rfl ⟨by decide, by decide⟩ (fun v w hf => ?_) (fun v w hf => ?_) (fun k9 of9 wr9 a9 w9 hf hf9 => ?_)
    · obtain ⟨_, _, _, _, _, _, _, _, _, _, _, _, _, _, _, _, rfl, rfl⟩ := hf
      exact ⟨_, _, _, rfl, rfl⟩
    · obtain ⟨rfl, _⟩ := hf
      exact ⟨_, rfl⟩
    · obtain ⟨yb1, yl1, yr1, yb2, yl2, yr2, yb3, yl3, yr3, yuz, yul, yuh, yf1, yg1, yf2, yg2, hk9, hw9⟩ := hf
      obtain ⟨ha9, hv9⟩ := hf9
      subst hv9
      cases hk9
      cases ha9
      refine ⟨fun sz => c_X8_thrown l D y sz _ _ _ _ _ _ _ _ _ _ _ _ _ _ _ _ _ _ _ _ _ _ _ _ _ _ _ _ _ _, ⟨_, rfl⟩, fun z => absurd z (by decide), fun H locs ls hP hD hS hl => ?_⟩
      rw [hw9] at hP hD
      refine W.widen (by omega) (by omega) (KK _ H locs ls ?_ hP hD hS hl)
      exact SimW_mk (hSim)
end GST
