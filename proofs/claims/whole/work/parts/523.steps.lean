section GST
variable {p : Program} {l : Launch} {e : Env} {s : State} {m : MethodId} {below : List Frame} {meth : Method} {c : Code} {H : Heap} {locs : List Loc} {cells slots : Nat} {Q : State → Prop}
variable {ls : Array Slot} {D : va_G} {y : Nat → ClassId} {ad : Nat → Nat} {b L : Nat} {xs : Nat → Int32}
set_option maxHeartbeats 4000000 in
set_option maxRecDepth 100000 in
theorem st_raw (C : lwC p l s m meth c b L xs D y ad) {i : Nat} (hi : i + 7 ≤ L) {hX1 h8 oa : Nat} {qX q8 : Nat → Nat} (hl : lv_has ls 8 [(0, .ref b), (1, .ref hX1), (2, .ref h8), (3, .ref oa), (4, .int (nI i))]) {ws : va_W} (hW : SimW y ad hX1 qX h8 q8 oa ws) (hP : va_P D vwCl ws H) (hD : va_D (lA s) ws) (hS : va_S (lA s) s.heap H locs) (hroom : cells + 10 ≤ 601024 ∧ slots + 168 ≤ 7293034) (KK : stK p l e s m below meth c Q b D y ad hX1 qX h8 q8 oa i cells slots) : W p l e room_1 s m #[Value.ref b] below meth c H locs cells slots Q (F0 m 778 ls []) := by
  obtain ⟨of, n, b1, l1, r1, b2, l2, r2, b3, l3, r3, uz, ul, uh, f1, g1, f2, g2, pa, kd, on, ot, pt, fb, fl, fh, tb, tl, th, dg, ds, tw, ki, on8, ot8, ab, be, zA, zB, zC, zD, zF, zT, fo, lw, hg, at_, tl8, th8, wo, wl, wh, is_, lo_, hi_, di, su, an, rfl, hSim⟩ := hW
  have hn := hSim.1.1
  rcases q_isP hn (xs (i + 1)) with ⟨k, hk, e1⟩ | ⟨hb1, hp1⟩
  · rcases q_isPl (xs (i + 2)) with ⟨p, hp, e2⟩ | ⟨hb2, hp2⟩
    · by_cases hf : fo (25 * k + p) = true
      · refine lz_raw C hi e1 e2 rfl rfl hl hP hD hS rfl (fun sz => c_L_raw_0 l C.2.2.2.2.2 D y ad sz hX1 qX n b1 l1 r1 b2 l2 r2 b3 l3 r3 uz ul uh f1 g1 f2 g2 pa kd on ot pt fb fl fh tb tl th dg ds k p (if (xs (i + 3)) = 0 then false else true) oa of hn hk hp ((sm_ld (hSim.2 k hk).2.1 hp).1.trans hf)) rfl rfl ⟨by decide, by decide⟩ ⟨by omega, by omega⟩ (fun sz => c_X8_raw_0 l D y sz h8 q8 tw n ki on8 ot8 ab be zA zB zC zD zF zT fo lw hg at_ tl8 th8 wo wl wh is_ lo_ hi_ di su an k p (if (xs (i + 3)) = 0 then false else true) hn hk hp hf) rfl rfl ⟨by decide, by decide⟩ (fun v w hf => ?_) (fun v w hf => ?_) (fun k9 of9 wr9 a9 w9 hf hf9 => ?_)
        · obtain ⟨_, _, _, _, _, _, _, _, _, _, _, _, _, _, _, _, rfl, rfl⟩ := hf
          exact ⟨_, _, _, rfl, rfl⟩
        · obtain ⟨rfl, _⟩ := hf
          exact ⟨_, rfl⟩
        · obtain ⟨yb1, yl1, yr1, yb2, yl2, yr2, yb3, yl3, yr3, yuz, yul, yuh, yf1, yg1, yf2, yg2, hk9, hw9⟩ := hf
          obtain ⟨ha9, hv9⟩ := hf9
          subst hv9
          cases hk9
          cases ha9
          have ho9 : of9 0 = _ := (congrFun (g_of9 hw9) 0).trans (updL_at9 of 0 _)
          refine ⟨fun sz => c_X8_thrown l D y sz _ _ _ _ _ _ _ _ _ _ _ _ _ _ _ _ _ _ _ _ _ _ _ _ _ _ _ _ _ _, ⟨_, rfl⟩, fun _ => ho9.trans (by rw [((sm_ld (hSim.2 k hk).2.1 hp).2 hf).1, ((sm_ld (hSim.2 k hk).2.1 hp).2 hf).2]; rfl), fun H locs ls hP hD hS hl => ?_⟩
          rw [hw9] at hP hD
          refine W.widen (by omega) (by omega) (KK _ H locs ls ?_ hP hD hS hl)
          exact SimW_mk (hSim)
      · refine lz_raw C hi e1 e2 rfl rfl hl hP hD hS rfl (fun sz => c_L_raw_X3 l C.2.2.2.2.2 D y ad sz hX1 qX n b1 l1 r1 b2 l2 r2 b3 l3 r3 uz ul uh f1 g1 f2 g2 pa kd on ot pt fb fl fh tb tl th dg ds k p (if (xs (i + 3)) = 0 then false else true) oa of hn hk hp (fun z => hf ((sm_ld (hSim.2 k hk).2.1 hp).1.symm.trans z))) rfl rfl ⟨by decide, by decide⟩ ⟨by omega, by omega⟩ (fun sz => c_X8_raw_3 l D y sz h8 q8 tw n ki on8 ot8 ab be zA zB zC zD zF zT fo lw hg at_ tl8 th8 wo wl wh is_ lo_ hi_ di su an k p (if (xs (i + 3)) = 0 then false else true) hn hk hp hf) rfl rfl ⟨by decide, by decide⟩ (fun v w hf => ?_) (fun v w hf => ?_) (fun k9 of9 wr9 a9 w9 hf hf9 => ?_)
        · obtain ⟨_, _, _, _, _, _, _, _, _, _, _, _, _, _, _, _, rfl, rfl⟩ := hf
          exact ⟨_, _, _, rfl, rfl⟩
        · obtain ⟨rfl, _⟩ := hf
          exact ⟨_, rfl⟩
        · obtain ⟨yb1, yl1, yr1, yb2, yl2, yr2, yb3, yl3, yr3, yuz, yul, yuh, yf1, yg1, yf2, yg2, hk9, hw9⟩ := hf
          obtain ⟨ha9, hv9⟩ := hf9
          subst hv9
          cases hk9
          cases ha9
          refine ⟨fun sz => c_X8_thrown l D y sz _ _ _ _ _ _ _ _ _ _ _ _ _ _ _ _ _ _ _ _ _ _ _ _ _ _ _ _ _ _, ⟨_, rfl⟩, fun z => absurd z (by decide), fun H locs ls hP hD hS hl => ?_⟩
          rw [hw9] at hP hD
          refine W.widen (by omega) (by omega) (KK _ H locs ls ?_ hP hD hS hl)
          exact SimW_mk (hSim)
    · refine lz_raw C hi e1 rfl rfl rfl hl hP hD hS rfl (fun sz => c_L_raw_X2 l C.2.2.2.2.2 D y ad sz hX1 qX n b1 l1 r1 b2 l2 r2 b3 l3 r3 uz ul uh f1 g1 f2 g2 pa kd on ot pt fb fl fh tb tl th dg ds k (xs (i + 2)) (if (xs (i + 3)) = 0 then false else true) oa of hn hk hb2) rfl rfl ⟨by decide, by decide⟩ ⟨by omega, by omega⟩ (fun sz => c_X8_raw_2 l D y sz h8 q8 tw n ki on8 ot8 ab be zA zB zC zD zF zT fo lw hg at_ tl8 th8 wo wl wh is_ lo_ hi_ di su an k (xs (i + 2)) (if (xs (i + 3)) = 0 then false else true) hn hk hp2) rfl rfl ⟨by decide, by decide⟩ (fun v w hf => ?_) (fun v w hf => ?_) (fun k9 of9 wr9 a9 w9 hf hf9 => ?_)
      · obtain ⟨_, _, _, _, _, _, _, _, _, _, _, _, _, _, _, _, rfl, rfl⟩ := hf
        exact ⟨_, _, _, rfl, rfl⟩
      · obtain ⟨rfl, _⟩ := hf
        exact ⟨_, rfl⟩
      · obtain ⟨yb1, yl1, yr1, yb2, yl2, yr2, yb3, yl3, yr3, yuz, yul, yuh, yf1, yg1, yf2, yg2, hk9, hw9⟩ := hf
        obtain ⟨ha9, hv9⟩ := hf9
        subst hv9
        cases hk9
        cases ha9
        refine ⟨fun sz => c_X8_thrown l D y sz _ _ _ _ _ _ _ _ _ _ _ _ _ _ _ _ _ _ _ _ _ _ _ _ _ _ _ _ _ _, ⟨_, rfl⟩, fun z => absurd z (by decide), fun H locs ls hP hD hS hl => ?_⟩
        rw [hw9] at hP hD
        refine W.widen (by omega) (by omega) (KK _ H locs ls ?_ hP hD hS hl)
        exact SimW_mk (hSim)
  · refine lz_raw C hi rfl rfl rfl rfl hl hP hD hS rfl (fun sz => c_L_raw_X1 l C.2.2.2.2.2 D y ad sz hX1 qX n b1 l1 r1 b2 l2 r2 b3 l3 r3 uz ul uh f1 g1 f2 g2 pa kd on ot pt fb fl fh tb tl th dg ds (xs (i + 1)) (xs (i + 2)) (if (xs (i + 3)) = 0 then false else true) oa of hb1) rfl rfl ⟨by decide, by decide⟩ ⟨by omega, by omega⟩ (fun sz => c_X8_raw_1 l D y sz h8 q8 tw n ki on8 ot8 ab be zA zB zC zD zF zT fo lw hg at_ tl8 th8 wo wl wh is_ lo_ hi_ di su an (xs (i + 1)) (xs (i + 2)) (if (xs (i + 3)) = 0 then false else true) hp1) rfl rfl ⟨by decide, by decide⟩ (fun v w hf => ?_) (fun v w hf => ?_) (fun k9 of9 wr9 a9 w9 hf hf9 => ?_)
    · obtain ⟨_, _, _, _, _, _, _, _, _, _, _, _, _, _, _, _, rfl, rfl⟩ := hf
      exact ⟨_, _, _, rfl, rfl⟩
    · obtain ⟨rfl, _⟩ := hf
      exact ⟨_, rfl⟩
    · obtain ⟨yb1, yl1, yr1, yb2, yl2, yr2, yb3, yl3, yr3, yuz, yul, yuh, yf1, yg1, yf2, yg2, hk9, hw9⟩ := hf
      obtain ⟨ha9, hv9⟩ := hf9
      subst hv9
      cases hk9
      cases ha9
      refine ⟨fun sz => c_X8_thrown l D y sz _ _ _ _ _ _ _ _ _ _ _ _ _ _ _ _ _ _ _ _ _ _ _ _ _ _ _ _ _ _, ⟨_, rfl⟩, fun z => absurd z (by decide), fun H locs ls hP hD hS hl => ?_⟩
      rw [hw9] at hP hD
      refine W.widen (by omega) (by omega) (KK _ H locs ls ?_ hP hD hS hl)
      exact SimW_mk (hSim)
set_option maxHeartbeats 4000000 in
set_option maxRecDepth 100000 in
theorem st_told (C : lwC p l s m meth c b L xs D y ad) {i : Nat} (hi : i + 7 ≤ L) {hX1 h8 oa : Nat} {qX q8 : Nat → Nat} (hl : lv_has ls 8 [(0, .ref b), (1, .ref hX1), (2, .ref h8), (3, .ref oa), (4, .int (nI i))]) {ws : va_W} (hW : SimW y ad hX1 qX h8 q8 oa ws) (hP : va_P D vwCl ws H) (hD : va_D (lA s) ws) (hS : va_S (lA s) s.heap H locs) (hroom : cells + 10 ≤ 601024 ∧ slots + 168 ≤ 7293034) (KK : stK p l e s m below meth c Q b D y ad hX1 qX h8 q8 oa i cells slots) : W p l e room_1 s m #[Value.ref b] below meth c H locs cells slots Q (F0 m 873 ls []) := by
  obtain ⟨of, n, b1, l1, r1, b2, l2, r2, b3, l3, r3, uz, ul, uh, f1, g1, f2, g2, pa, kd, on, ot, pt, fb, fl, fh, tb, tl, th, dg, ds, tw, ki, on8, ot8, ab, be, zA, zB, zC, zD, zF, zT, fo, lw, hg, at_, tl8, th8, wo, wl, wh, is_, lo_, hi_, di, su, an, rfl, hSim⟩ := hW
  have hn := hSim.1.1
  rcases q_isP hn (xs (i + 1)) with ⟨k, hk, e1⟩ | ⟨hb1, hp1⟩
  · rcases q_isPl (xs (i + 2)) with ⟨p, hp, e2⟩ | ⟨hb2, hp2⟩
    · by_cases hf : at_ (25 * k + p) = true
      · refine lz_told C hi e1 e2 rfl rfl hl hP hD hS rfl (fun sz => c_L_told_0 l C.2.2.2.2.2 D y ad sz hX1 qX n b1 l1 r1 b2 l2 r2 b3 l3 r3 uz ul uh f1 g1 f2 g2 pa kd on ot pt fb fl fh tb tl th dg ds k p (if (xs (i + 3)) = 0 then false else true) oa of hn hk hp ((q_tl (hSim.2 k hk).2.2.1 hp).1.trans hf)) rfl rfl ⟨by decide, by decide⟩ ⟨by omega, by omega⟩ (fun sz => c_X8_told_0 l D y sz h8 q8 tw n ki on8 ot8 ab be zA zB zC zD zF zT fo lw hg at_ tl8 th8 wo wl wh is_ lo_ hi_ di su an k p (if (xs (i + 3)) = 0 then false else true) hn hk hp hf) rfl rfl ⟨by decide, by decide⟩ (fun v w hf => ?_) (fun v w hf => ?_) (fun k9 of9 wr9 a9 w9 hf hf9 => ?_)
        · obtain ⟨_, _, _, _, _, _, _, _, _, _, _, _, _, _, _, _, rfl, rfl⟩ := hf
          exact ⟨_, _, _, rfl, rfl⟩
        · obtain ⟨rfl, _⟩ := hf
          exact ⟨_, rfl⟩
        · obtain ⟨yb1, yl1, yr1, yb2, yl2, yr2, yb3, yl3, yr3, yuz, yul, yuh, yf1, yg1, yf2, yg2, hk9, hw9⟩ := hf
          obtain ⟨ha9, hv9⟩ := hf9
          subst hv9
          cases hk9
          cases ha9
          have ho9 : of9 0 = _ := (congrFun (g_of9 hw9) 0).trans (updL_at9 of 0 _)
          refine ⟨fun sz => c_X8_thrown l D y sz _ _ _ _ _ _ _ _ _ _ _ _ _ _ _ _ _ _ _ _ _ _ _ _ _ _ _ _ _ _, ⟨_, rfl⟩, fun _ => ho9.trans (by rw [((q_tl (hSim.2 k hk).2.2.1 hp).2 hf).1, ((q_tl (hSim.2 k hk).2.2.1 hp).2 hf).2]; rfl), fun H locs ls hP hD hS hl => ?_⟩
          rw [hw9] at hP hD
          refine W.widen (by omega) (by omega) (KK _ H locs ls ?_ hP hD hS hl)
          exact SimW_mk (hSim)
      · refine lz_told C hi e1 e2 rfl rfl hl hP hD hS rfl (fun sz => c_L_told_X3 l C.2.2.2.2.2 D y ad sz hX1 qX n b1 l1 r1 b2 l2 r2 b3 l3 r3 uz ul uh f1 g1 f2 g2 pa kd on ot pt fb fl fh tb tl th dg ds k p (if (xs (i + 3)) = 0 then false else true) oa of hn hk hp (fun z => hf ((q_tl (hSim.2 k hk).2.2.1 hp).1.symm.trans z))) rfl rfl ⟨by decide, by decide⟩ ⟨by omega, by omega⟩ (fun sz => c_X8_told_3 l D y sz h8 q8 tw n ki on8 ot8 ab be zA zB zC zD zF zT fo lw hg at_ tl8 th8 wo wl wh is_ lo_ hi_ di su an k p (if (xs (i + 3)) = 0 then false else true) hn hk hp hf) rfl rfl ⟨by decide, by decide⟩ (fun v w hf => ?_) (fun v w hf => ?_) (fun k9 of9 wr9 a9 w9 hf hf9 => ?_)
        · obtain ⟨_, _, _, _, _, _, _, _, _, _, _, _, _, _, _, _, rfl, rfl⟩ := hf
          exact ⟨_, _, _, rfl, rfl⟩
        · obtain ⟨rfl, _⟩ := hf
          exact ⟨_, rfl⟩
        · obtain ⟨yb1, yl1, yr1, yb2, yl2, yr2, yb3, yl3, yr3, yuz, yul, yuh, yf1, yg1, yf2, yg2, hk9, hw9⟩ := hf
          obtain ⟨ha9, hv9⟩ := hf9
          subst hv9
          cases hk9
          cases ha9
          refine ⟨fun sz => c_X8_thrown l D y sz _ _ _ _ _ _ _ _ _ _ _ _ _ _ _ _ _ _ _ _ _ _ _ _ _ _ _ _ _ _, ⟨_, rfl⟩, fun z => absurd z (by decide), fun H locs ls hP hD hS hl => ?_⟩
          rw [hw9] at hP hD
          refine W.widen (by omega) (by omega) (KK _ H locs ls ?_ hP hD hS hl)
          exact SimW_mk (hSim)
    · refine lz_told C hi e1 rfl rfl rfl hl hP hD hS rfl (fun sz => c_L_told_X2 l C.2.2.2.2.2 D y ad sz hX1 qX n b1 l1 r1 b2 l2 r2 b3 l3 r3 uz ul uh f1 g1 f2 g2 pa kd on ot pt fb fl fh tb tl th dg ds k (xs (i + 2)) (if (xs (i + 3)) = 0 then false else true) oa of hn hk hb2) rfl rfl ⟨by decide, by decide⟩ ⟨by omega, by omega⟩ (fun sz => c_X8_told_2 l D y sz h8 q8 tw n ki on8 ot8 ab be zA zB zC zD zF zT fo lw hg at_ tl8 th8 wo wl wh is_ lo_ hi_ di su an k (xs (i + 2)) (if (xs (i + 3)) = 0 then false else true) hn hk hp2) rfl rfl ⟨by decide, by decide⟩ (fun v w hf => ?_) (fun v w hf => ?_) (fun k9 of9 wr9 a9 w9 hf hf9 => ?_)
      · obtain ⟨_, _, _, _, _, _, _, _, _, _, _, _, _, _, _, _, rfl, rfl⟩ := hf
        exact ⟨_, _, _, rfl, rfl⟩
      · obtain ⟨rfl, _⟩ := hf
        exact ⟨_, rfl⟩
      · obtain ⟨yb1, yl1, yr1, yb2, yl2, yr2, yb3, yl3, yr3, yuz, yul, yuh, yf1, yg1, yf2, yg2, hk9, hw9⟩ := hf
        obtain ⟨ha9, hv9⟩ := hf9
        subst hv9
        cases hk9
        cases ha9
        refine ⟨fun sz => c_X8_thrown l D y sz _ _ _ _ _ _ _ _ _ _ _ _ _ _ _ _ _ _ _ _ _ _ _ _ _ _ _ _ _ _, ⟨_, rfl⟩, fun z => absurd z (by decide), fun H locs ls hP hD hS hl => ?_⟩
        rw [hw9] at hP hD
        refine W.widen (by omega) (by omega) (KK _ H locs ls ?_ hP hD hS hl)
        exact SimW_mk (hSim)
  · refine lz_told C hi rfl rfl rfl rfl hl hP hD hS rfl (fun sz => c_L_told_X1 l C.2.2.2.2.2 D y ad sz hX1 qX n b1 l1 r1 b2 l2 r2 b3 l3 r3 uz ul uh f1 g1 f2 g2 pa kd on ot pt fb fl fh tb tl th dg ds (xs (i + 1)) (xs (i + 2)) (if (xs (i + 3)) = 0 then false else true) oa of hb1) rfl rfl ⟨by decide, by decide⟩ ⟨by omega, by omega⟩ (fun sz => c_X8_told_1 l D y sz h8 q8 tw n ki on8 ot8 ab be zA zB zC zD zF zT fo lw hg at_ tl8 th8 wo wl wh is_ lo_ hi_ di su an (xs (i + 1)) (xs (i + 2)) (if (xs (i + 3)) = 0 then false else true) hp1) rfl rfl ⟨by decide, by decide⟩ (fun v w hf => ?_) (fun v w hf => ?_) (fun k9 of9 wr9 a9 w9 hf hf9 => ?_)
    · obtain ⟨_, _, _, _, _, _, _, _, _, _, _, _, _, _, _, _, rfl, rfl⟩ := hf
      exact ⟨_, _, _, rfl, rfl⟩
    · obtain ⟨rfl, _⟩ := hf
      exact ⟨_, rfl⟩
    · obtain ⟨yb1, yl1, yr1, yb2, yl2, yr2, yb3, yl3, yr3, yuz, yul, yuh, yf1, yg1, yf2, yg2, hk9, hw9⟩ := hf
      obtain ⟨ha9, hv9⟩ := hf9
      subst hv9
      cases hk9
      cases ha9
      refine ⟨fun sz => c_X8_thrown l D y sz _ _ _ _ _ _ _ _ _ _ _ _ _ _ _ _ _ _ _ _ _ _ _ _ _ _ _ _ _ _, ⟨_, rfl⟩, fun z => absurd z (by decide), fun H locs ls hP hD hS hl => ?_⟩
      rw [hw9] at hP hD
      refine W.widen (by omega) (by omega) (KK _ H locs ls ?_ hP hD hS hl)
      exact SimW_mk (hSim)
set_option maxHeartbeats 4000000 in
set_option maxRecDepth 100000 in
theorem st_instead (C : lwC p l s m meth c b L xs D y ad) {i : Nat} (hi : i + 7 ≤ L) {hX1 h8 oa : Nat} {qX q8 : Nat → Nat} (hl : lv_has ls 8 [(0, .ref b), (1, .ref hX1), (2, .ref h8), (3, .ref oa), (4, .int (nI i))]) {ws : va_W} (hW : SimW y ad hX1 qX h8 q8 oa ws) (hP : va_P D vwCl ws H) (hD : va_D (lA s) ws) (hS : va_S (lA s) s.heap H locs) (hroom : cells + 10 ≤ 601024 ∧ slots + 168 ≤ 7293034) (KK : stK p l e s m below meth c Q b D y ad hX1 qX h8 q8 oa i cells slots) : W p l e room_1 s m #[Value.ref b] below meth c H locs cells slots Q (F0 m 968 ls []) := by
  obtain ⟨of, n, b1, l1, r1, b2, l2, r2, b3, l3, r3, uz, ul, uh, f1, g1, f2, g2, pa, kd, on, ot, pt, fb, fl, fh, tb, tl, th, dg, ds, tw, ki, on8, ot8, ab, be, zA, zB, zC, zD, zF, zT, fo, lw, hg9, at_, tl8, th8, wo, wl, wh, is_, lo_, hi_, di, su, an, rfl, hSim⟩ := hW
  have hn := hSim.1.1
  rcases q_isP hn (xs (i + 1)) with ⟨k, hk, e1⟩ | ⟨hb1, hp1⟩
  · rcases q_isP hn (xs (i + 2)) with ⟨g, hg, e2⟩ | ⟨hb2, hp2⟩
    · rcases q_isP hn (xs (i + 3)) with ⟨jo, hjo, e3⟩ | ⟨hb3, hp3⟩
      · rcases q_isPl (xs (i + 4)) with ⟨p, hp, e4⟩ | ⟨hb4, hp4⟩
        · have hS9 := fun (k : Nat) (hk : k < n) => (hSim.2 k hk).1
          have hR9 := fun (k : Nat) (hk : k < n) => (hSim.2 k hk).2.1
          obtain ⟨cW, cX, cY, hc⟩ := gw_ex hS9 hn (show g < 40 by omega) jo p n (Nat.le_refl n)
          have hg0 := (hc g hg).1 rfl
          have hls := gw_ls hS9 hn hg hk (hc k hk)
          have hgw : cW g = fo (25 * jo + p) ∧ (cW g = true → cX g = lw (25 * jo + p) ∧ cY g = hg9 (25 * jo + p)) := by
            obtain ⟨x1, x2⟩ := sm_ld (hR9 jo hjo) hp
            refine ⟨hg0.1.trans x1, fun z => ?_⟩
            obtain ⟨x3, x4⟩ := x2 (x1.symm.trans (hg0.1.symm.trans z))
            exact ⟨hg0.2.1.trans x3, hg0.2.2.trans x4⟩
          have hlo : ∀ o, o < g → ¬ sp_X5_isMadeOf (pt o) (nI g) = true := fun o ho z => by
            have := md_le (sm_C hS9 hn) (sm_M hS9 hn) o (by omega) g ⟨by omega, z⟩
            omega
          have hform : ∀ j, g < j → j < n → sp_X5_isMadeOf (pt j) (nI g) = true → ∃ o1 o2 : Nat, o1 < j ∧ o2 < j ∧ on j = nI o1 ∧ ot j = nI o2 ∧ 1 ≤ kd j ∧ kd j ≤ 7 ∧ inX kd pt fb fl fh cW cX cY g p j o1 o2 := by
            intro j hgj hj hM
            obtain ⟨o1, o2, ho1, ho2, q1, q2, ⟨hd1, hd7⟩, -⟩ := sm_pts hS9 hn hj (show g < 40 by omega) (show j ≠ g by omega) hM
            have c4 := (hc j hj).2.2 (show j ≠ g by omega) hM
            rw [q1, q2, tn9_nI (by omega), tn9_nI (by omega)] at c4
            exact ⟨o1, o2, ho1, ho2, q1, q2, hd1, hd7, c4⟩
          by_cases hw : cW k = true
          · refine lz_instead C hi e1 e2 e3 e4 rfl rfl hl hP hD hS rfl (fun sz => c_L_instead_0 l C.2.2.2.2.2 D y ad sz hX1 qX n b1 l1 r1 b2 l2 r2 b3 l3 r3 uz ul uh f1 g1 f2 g2 pa kd on ot pt fb fl fh tb tl th dg ds k g jo p (if (xs (i + 5)) = 0 then false else true) cW cX cY oa of hn hk hg hjo hp hlo hg0.1 hg0.2.1 hg0.2.2 hform (hls.1.trans hw)) rfl rfl ⟨by decide, by decide⟩ ⟨by omega, by omega⟩ (fun sz => c_X8_instead_0 l D y sz h8 q8 tw n ki on8 ot8 ab be zA zB zC zD zF zT fo lw hg9 at_ tl8 th8 wo wl wh is_ lo_ hi_ di su an k g jo p (if (xs (i + 5)) = 0 then false else true) cW cX cY hn hk hg hjo hp (gw_H hS9 hR9 hn hg hjo hp hc) hgw hw) rfl rfl ⟨by decide, by decide⟩ (fun v w hf => ?_) (fun v w hf => ?_) (fun k9 of9 wr9 a9 w9 hf hf9 => ?_)
            · obtain ⟨_, _, _, _, _, _, _, _, _, _, _, _, _, _, _, _, rfl, rfl⟩ := hf
              exact ⟨_, _, _, rfl, rfl⟩
            · obtain ⟨_, _, _, _, _, _, rfl, _⟩ := hf
              exact ⟨_, rfl⟩
            · obtain ⟨yb1, yl1, yr1, yb2, yl2, yr2, yb3, yl3, yr3, yuz, yul, yuh, yf1, yg1, yf2, yg2, hk9, hw9⟩ := hf
              obtain ⟨wo1, wl1, wh1, is1, lo1, hi1, ha9, hv9⟩ := hf9
              subst hv9
              cases hk9
              cases ha9
              have ho9 : of9 0 = _ := (congrFun (g_of9 hw9) 0).trans (updL_at9 of 0 _)
              refine ⟨fun sz => c_X8_thrown l D y sz _ _ _ _ _ _ _ _ _ _ _ _ _ _ _ _ _ _ _ _ _ _ _ _ _ _ _ _ _ _, ⟨_, rfl⟩, fun _ => ho9.trans (by rw [(hls.2 hw).1, (hls.2 hw).2]; rfl), fun H locs ls hP hD hS hl => ?_⟩
              rw [hw9] at hP hD
              refine W.widen (by omega) (by omega) (KK _ H locs ls ?_ hP hD hS hl)
              exact SimW_mk (hSim)
          · refine lz_instead C hi e1 e2 e3 e4 rfl rfl hl hP hD hS rfl (fun sz => c_L_instead_X3 l C.2.2.2.2.2 D y ad sz hX1 qX n b1 l1 r1 b2 l2 r2 b3 l3 r3 uz ul uh f1 g1 f2 g2 pa kd on ot pt fb fl fh tb tl th dg ds k g jo p (if (xs (i + 5)) = 0 then false else true) cW cX cY oa of hn hk hg hjo hp hlo hg0.1 hg0.2.1 hg0.2.2 hform (fun z => hw (hls.1.symm.trans z))) rfl rfl ⟨by decide, by decide⟩ ⟨by omega, by omega⟩ (fun sz => c_X8_instead_3 l D y sz h8 q8 tw n ki on8 ot8 ab be zA zB zC zD zF zT fo lw hg9 at_ tl8 th8 wo wl wh is_ lo_ hi_ di su an k g jo p (if (xs (i + 5)) = 0 then false else true) cW cX cY hn hk hg hjo hp (gw_H hS9 hR9 hn hg hjo hp hc) hgw hw) rfl rfl ⟨by decide, by decide⟩ (fun v w hf => ?_) (fun v w hf => ?_) (fun k9 of9 wr9 a9 w9 hf hf9 => ?_)
            · obtain ⟨_, _, _, _, _, _, _, _, _, _, _, _, _, _, _, _, rfl, rfl⟩ := hf
              exact ⟨_, _, _, rfl, rfl⟩
            · obtain ⟨_, _, _, _, _, _, rfl, _⟩ := hf
              exact ⟨_, rfl⟩
            · obtain ⟨yb1, yl1, yr1, yb2, yl2, yr2, yb3, yl3, yr3, yuz, yul, yuh, yf1, yg1, yf2, yg2, hk9, hw9⟩ := hf
              obtain ⟨wo1, wl1, wh1, is1, lo1, hi1, ha9, hv9⟩ := hf9
              subst hv9
              cases hk9
              cases ha9
              refine ⟨fun sz => c_X8_thrown l D y sz _ _ _ _ _ _ _ _ _ _ _ _ _ _ _ _ _ _ _ _ _ _ _ _ _ _ _ _ _ _, ⟨_, rfl⟩, fun z => absurd z (by decide), fun H locs ls hP hD hS hl => ?_⟩
              rw [hw9] at hP hD
              refine W.widen (by omega) (by omega) (KK _ H locs ls ?_ hP hD hS hl)
              exact SimW_mk (hSim)
        · refine lz_instead C hi e1 e2 e3 rfl rfl rfl hl hP hD hS rfl (fun sz => c_L_instead_X2 l C.2.2.2.2.2 D y ad sz hX1 qX n b1 l1 r1 b2 l2 r2 b3 l3 r3 uz ul uh f1 g1 f2 g2 pa kd on ot pt fb fl fh tb tl th dg ds k g jo (xs (i + 4)) (if (xs (i + 5)) = 0 then false else true) oa of hn hk hg hjo hb4) rfl rfl ⟨by decide, by decide⟩ ⟨by omega, by omega⟩ (fun sz => c_X8_instead_2 l D y sz h8 q8 tw n ki on8 ot8 ab be zA zB zC zD zF zT fo lw hg9 at_ tl8 th8 wo wl wh is_ lo_ hi_ di su an k g jo (xs (i + 4)) (if (xs (i + 5)) = 0 then false else true) hn hk hg hjo hp4) rfl rfl ⟨by decide, by decide⟩ (fun v w hf => ?_) (fun v w hf => ?_) (fun k9 of9 wr9 a9 w9 hf hf9 => ?_)
          · obtain ⟨rfl, rfl⟩ := hf
            exact ⟨_, _, _, rfl, rfl⟩
          · obtain ⟨rfl, _⟩ := hf
            exact ⟨_, rfl⟩
          · obtain ⟨hk9, hw9⟩ := hf
            obtain ⟨ha9, hv9⟩ := hf9
            subst hv9
            cases hk9
            cases ha9
            refine ⟨fun sz => c_X8_thrown l D y sz _ _ _ _ _ _ _ _ _ _ _ _ _ _ _ _ _ _ _ _ _ _ _ _ _ _ _ _ _ _, ⟨_, rfl⟩, fun z => absurd z (by decide), fun H locs ls hP hD hS hl => ?_⟩
            rw [hw9] at hP hD
            refine W.widen (by omega) (by omega) (KK _ H locs ls ?_ hP hD hS hl)
            exact SimW_mk (hSim)
      · refine lz_instead C hi e1 e2 rfl rfl rfl rfl hl hP hD hS rfl (fun sz => c_L_instead_X1c l C.2.2.2.2.2 D y ad sz hX1 qX n b1 l1 r1 b2 l2 r2 b3 l3 r3 uz ul uh f1 g1 f2 g2 pa kd on ot pt fb fl fh tb tl th dg ds k g (xs (i + 3)) (xs (i + 4)) (if (xs (i + 5)) = 0 then false else true) oa of hn hk hg hb3) rfl rfl ⟨by decide, by decide⟩ ⟨by omega, by omega⟩ (fun sz => c_X8_instead_1 l D y sz h8 q8 tw n ki on8 ot8 ab be zA zB zC zD zF zT fo lw hg9 at_ tl8 th8 wo wl wh is_ lo_ hi_ di su an (nI k) (nI g) (xs (i + 3)) (xs (i + 4)) (if (xs (i + 5)) = 0 then false else true) (fun z => hp3 z.2.2)) rfl rfl ⟨by decide, by decide⟩ (fun v w hf => ?_) (fun v w hf => ?_) (fun k9 of9 wr9 a9 w9 hf hf9 => ?_)
        · obtain ⟨rfl, rfl⟩ := hf
          exact ⟨_, _, _, rfl, rfl⟩
        · obtain ⟨rfl, _⟩ := hf
          exact ⟨_, rfl⟩
        · obtain ⟨hk9, hw9⟩ := hf
          obtain ⟨ha9, hv9⟩ := hf9
          subst hv9
          cases hk9
          cases ha9
          refine ⟨fun sz => c_X8_thrown l D y sz _ _ _ _ _ _ _ _ _ _ _ _ _ _ _ _ _ _ _ _ _ _ _ _ _ _ _ _ _ _, ⟨_, rfl⟩, fun z => absurd z (by decide), fun H locs ls hP hD hS hl => ?_⟩
          rw [hw9] at hP hD
          refine W.widen (by omega) (by omega) (KK _ H locs ls ?_ hP hD hS hl)
          exact SimW_mk (hSim)
    · refine lz_instead C hi e1 rfl rfl rfl rfl rfl hl hP hD hS rfl (fun sz => c_L_instead_X1b l C.2.2.2.2.2 D y ad sz hX1 qX n b1 l1 r1 b2 l2 r2 b3 l3 r3 uz ul uh f1 g1 f2 g2 pa kd on ot pt fb fl fh tb tl th dg ds k (xs (i + 2)) (xs (i + 3)) (xs (i + 4)) (if (xs (i + 5)) = 0 then false else true) oa of hn hk hb2) rfl rfl ⟨by decide, by decide⟩ ⟨by omega, by omega⟩ (fun sz => c_X8_instead_1 l D y sz h8 q8 tw n ki on8 ot8 ab be zA zB zC zD zF zT fo lw hg9 at_ tl8 th8 wo wl wh is_ lo_ hi_ di su an (nI k) (xs (i + 2)) (xs (i + 3)) (xs (i + 4)) (if (xs (i + 5)) = 0 then false else true) (fun z => hp2 z.2.1)) rfl rfl ⟨by decide, by decide⟩ (fun v w hf => ?_) (fun v w hf => ?_) (fun k9 of9 wr9 a9 w9 hf hf9 => ?_)
      · obtain ⟨rfl, rfl⟩ := hf
        exact ⟨_, _, _, rfl, rfl⟩
      · obtain ⟨rfl, _⟩ := hf
        exact ⟨_, rfl⟩
      · obtain ⟨hk9, hw9⟩ := hf
        obtain ⟨ha9, hv9⟩ := hf9
        subst hv9
        cases hk9
        cases ha9
        refine ⟨fun sz => c_X8_thrown l D y sz _ _ _ _ _ _ _ _ _ _ _ _ _ _ _ _ _ _ _ _ _ _ _ _ _ _ _ _ _ _, ⟨_, rfl⟩, fun z => absurd z (by decide), fun H locs ls hP hD hS hl => ?_⟩
        rw [hw9] at hP hD
        refine W.widen (by omega) (by omega) (KK _ H locs ls ?_ hP hD hS hl)
        exact SimW_mk (hSim)
  · refine lz_instead C hi rfl rfl rfl rfl rfl rfl hl hP hD hS rfl (fun sz => c_L_instead_X1a l C.2.2.2.2.2 D y ad sz hX1 qX n b1 l1 r1 b2 l2 r2 b3 l3 r3 uz ul uh f1 g1 f2 g2 pa kd on ot pt fb fl fh tb tl th dg ds (xs (i + 1)) (xs (i + 2)) (xs (i + 3)) (xs (i + 4)) (if (xs (i + 5)) = 0 then false else true) oa of hb1) rfl rfl ⟨by decide, by decide⟩ ⟨by omega, by omega⟩ (fun sz => c_X8_instead_1 l D y sz h8 q8 tw n ki on8 ot8 ab be zA zB zC zD zF zT fo lw hg9 at_ tl8 th8 wo wl wh is_ lo_ hi_ di su an (xs (i + 1)) (xs (i + 2)) (xs (i + 3)) (xs (i + 4)) (if (xs (i + 5)) = 0 then false else true) (fun z => hp1 z.1)) rfl rfl ⟨by decide, by decide⟩ (fun v w hf => ?_) (fun v w hf => ?_) (fun k9 of9 wr9 a9 w9 hf hf9 => ?_)
    · obtain ⟨rfl, rfl⟩ := hf
      exact ⟨_, _, _, rfl, rfl⟩
    · obtain ⟨rfl, _⟩ := hf
      exact ⟨_, rfl⟩
    · obtain ⟨hk9, hw9⟩ := hf
      obtain ⟨ha9, hv9⟩ := hf9
      subst hv9
      cases hk9
      cases ha9
      refine ⟨fun sz => c_X8_thrown l D y sz _ _ _ _ _ _ _ _ _ _ _ _ _ _ _ _ _ _ _ _ _ _ _ _ _ _ _ _ _ _, ⟨_, rfl⟩, fun z => absurd z (by decide), fun H locs ls hP hD hS hl => ?_⟩
      rw [hw9] at hP hD
      refine W.widen (by omega) (by omega) (KK _ H locs ls ?_ hP hD hS hl)
      exact SimW_mk (hSim)
end GST
