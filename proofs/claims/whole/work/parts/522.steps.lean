section GST
variable {p : Program} {l : Launch} {e : Env} {s : State} {m : MethodId} {below : List Frame} {meth : Method} {c : Code} {H : Heap} {locs : List Loc} {cells slots : Nat} {Q : State → Prop}
variable {ls : Array Slot} {D : va_G} {y : Nat → ClassId} {ad : Nat → Nat} {b L : Nat} {xs : Nat → Int32}
set_option maxHeartbeats 4000000 in
set_option maxRecDepth 100000 in
theorem st_inverse (C : lwC p l s m meth c b L xs D y ad) {i : Nat} (hi : i + 7 ≤ L) {hX1 h8 oa : Nat} {qX q8 : Nat → Nat} (hl : lv_has ls 8 [(0, .ref b), (1, .ref hX1), (2, .ref h8), (3, .ref oa), (4, .int (nI i))]) {ws : va_W} (hW : SimW y ad hX1 qX h8 q8 oa ws) (hP : va_P D vwCl ws H) (hD : va_D (lA s) ws) (hS : va_S (lA s) s.heap H locs) (hroom : cells + 10 ≤ 601024 ∧ slots + 168 ≤ 7293034) (KK : stK p l e s m below meth c Q b D y ad hX1 qX h8 q8 oa i cells slots) : W p l e room_1 s m #[Value.ref b] below meth c H locs cells slots Q (F0 m 492 ls []) := by
  obtain ⟨of, n, b1, l1, r1, b2, l2, r2, b3, l3, r3, uz, ul, uh, f1, g1, f2, g2, pa, kd, on, ot, pt, fb, fl, fh, tb, tl, th, dg, ds, tw, ki, on8, ot8, ab, be, zA, zB, zC, zD, zF, zT, fo, lw, hg, at_, tl8, th8, wo, wl, wh, is_, lo_, hi_, di, su, an, rfl, hSim⟩ := hW
  have hn := hSim.1.1
  rcases q_isP hn (xs (i + 1)) with ⟨k, hk, e1⟩ | ⟨hb1, hp1⟩
  · by_cases h40 : n < 40
    · refine lz_inverse C hi e1 hl hP hD hS rfl (fun sz => c_L_inverse_0 l C.2.2.2.2.2 D y ad sz hX1 qX n b1 l1 r1 b2 l2 r2 b3 l3 r3 uz ul uh f1 g1 f2 g2 pa kd on ot pt fb fl fh tb tl th dg ds k oa of h40 hk) rfl rfl ⟨by decide, by decide⟩ ⟨by omega, by omega⟩ (fun sz => c_X8_inverse_0 l D y sz h8 q8 tw n ki on8 ot8 ab be zA zB zC zD zF zT fo lw hg at_ tl8 th8 wo wl wh is_ lo_ hi_ di su an k (fun p => (mkX fb fl fh 5 k k p).1) (fun p => (mkX fb fl fh 5 k k p).2.1) (fun p => (mkX fb fl fh 5 k k p).2.2) h40 hk (q_isPk hn hk) (mk1_can hSim (by decide) (by decide) hk) (mk1_no hSim hk)) rfl rfl ⟨by decide, by decide⟩ (fun v w hf => ?_) (fun v w hf => ?_) (fun k9 of9 wr9 a9 w9 hf hf9 => ?_)
      · obtain ⟨_, _, _, _, _, _, _, _, _, _, _, _, _, _, _, _, _, _, _, _, _, _, _, rfl, rfl, _⟩ := hf
        exact ⟨_, _, _, rfl, rfl⟩
      · obtain ⟨_, _, _, _, _, _, _, _, _, rfl, _⟩ := hf
        exact ⟨_, rfl⟩
      · obtain ⟨yb1, yl1, yr1, yb2, yl2, yr2, yb3, yl3, yr3, yuz, yul, yuh, yf1, yg1, yf2, yg2, nan, fbn, fln, fhn, tbn, tln, thn, hk9, hw9, pl0, pl1⟩ := hf
        obtain ⟨fo1, lw1, hg1, at1, tl1, th1, is1, lo1, hi1, ha9, hv9, pr0, pr1⟩ := hf9
        subst hv9
        cases hk9
        cases ha9
        have ho9 : of9 0 = _ := (congrFun (g_of9 hw9) 0).trans (updL_at9 of 0 _)
        refine ⟨fun sz => c_X8_thrown l D y sz _ _ _ _ _ _ _ _ _ _ _ _ _ _ _ _ _ _ _ _ _ _ _ _ _ _ _ _ _ _, ⟨_, rfl⟩, fun _ => ho9.trans (rfl), fun H locs ls hP hD hS hl => ?_⟩
        rw [hw9] at hP hD
        refine W.widen (by omega) (by omega) (KK _ H locs ls ?_ hP hD hS hl)
        exact SimW_mk (mk1_sim hSim h40 (by decide) (by decide) hk pl0 pl1 pr0 pr1)
    · refine lz_inverse C hi e1 hl hP hD hS rfl (fun sz => c_L_inverse_X2 l C.2.2.2.2.2 D y ad sz hX1 qX n b1 l1 r1 b2 l2 r2 b3 l3 r3 uz ul uh f1 g1 f2 g2 pa kd on ot pt fb fl fh tb tl th dg ds k oa of hn hk h40) rfl rfl ⟨by decide, by decide⟩ ⟨by omega, by omega⟩ (fun sz => c_X8_inverse_2 l D y sz h8 q8 tw n ki on8 ot8 ab be zA zB zC zD zF zT fo lw hg at_ tl8 th8 wo wl wh is_ lo_ hi_ di su an (nI k) (q_isPk hn hk) (q_full hn h40)) rfl rfl ⟨by decide, by decide⟩ (fun v w hf => ?_) (fun v w hf => ?_) (fun k9 of9 wr9 a9 w9 hf hf9 => ?_)
      · obtain ⟨rfl, rfl⟩ := hf
        exact ⟨_, _, _, rfl, rfl⟩
      · obtain ⟨rfl, _⟩ := hf
        exact ⟨_, rfl⟩
      · obtain ⟨hk9, hw9⟩ := hf
        obtain ⟨ha9, hv9⟩ := hf9
        subst hv9
        cases hk9
        cases ha9
        refine ⟨fun sz => c_X8_thrown l D y sz _ _ _ _ _ _ _ _ _ _ _ _ _ _ _ _ _ _ _ _ _ _ _ _ _ _ _ _ _ _, ⟨_, rfl⟩, fun z => absurd z (by decide), fun H locs ls hP hD hS hl => ?_⟩
        rw [hw9] at hP hD
        refine W.widen (by omega) (by omega) (KK _ H locs ls ?_ hP hD hS hl)
        exact SimW_mk (hSim)
  · refine lz_inverse C hi rfl hl hP hD hS rfl (fun sz => c_L_inverse_X1a l C.2.2.2.2.2 D y ad sz hX1 qX n b1 l1 r1 b2 l2 r2 b3 l3 r3 uz ul uh f1 g1 f2 g2 pa kd on ot pt fb fl fh tb tl th dg ds (xs (i + 1)) oa of hb1) rfl rfl ⟨by decide, by decide⟩ ⟨by omega, by omega⟩ (fun sz => c_X8_inverse_1 l D y sz h8 q8 tw n ki on8 ot8 ab be zA zB zC zD zF zT fo lw hg at_ tl8 th8 wo wl wh is_ lo_ hi_ di su an (xs (i + 1)) hp1) rfl rfl ⟨by decide, by decide⟩ (fun v w hf => ?_) (fun v w hf => ?_) (fun k9 of9 wr9 a9 w9 hf hf9 => ?_)
    · obtain ⟨rfl, rfl⟩ := hf
      exact ⟨_, _, _, rfl, rfl⟩
    · obtain ⟨rfl, _⟩ := hf
      exact ⟨_, rfl⟩
    · obtain ⟨hk9, hw9⟩ := hf
      obtain ⟨ha9, hv9⟩ := hf9
      subst hv9
      cases hk9
      cases ha9
      refine ⟨fun sz => c_X8_thrown l D y sz _ _ _ _ _ _ _ _ _ _ _ _ _ _ _ _ _ _ _ _ _ _ _ _ _ _ _ _ _ _, ⟨_, rfl⟩, fun z => absurd z (by decide), fun H locs ls hP hD hS hl => ?_⟩
      rw [hw9] at hP hD
      refine W.widen (by omega) (by omega) (KK _ H locs ls ?_ hP hD hS hl)
      exact SimW_mk (hSim)
set_option maxHeartbeats 4000000 in
set_option maxRecDepth 100000 in
theorem st_root (C : lwC p l s m meth c b L xs D y ad) {i : Nat} (hi : i + 7 ≤ L) {hX1 h8 oa : Nat} {qX q8 : Nat → Nat} (hl : lv_has ls 8 [(0, .ref b), (1, .ref hX1), (2, .ref h8), (3, .ref oa), (4, .int (nI i))]) {ws : va_W} (hW : SimW y ad hX1 qX h8 q8 oa ws) (hP : va_P D vwCl ws H) (hD : va_D (lA s) ws) (hS : va_S (lA s) s.heap H locs) (hroom : cells + 10 ≤ 601024 ∧ slots + 168 ≤ 7293034) (KK : stK p l e s m below meth c Q b D y ad hX1 qX h8 q8 oa i cells slots) : W p l e room_1 s m #[Value.ref b] below meth c H locs cells slots Q (F0 m 548 ls []) := by
  obtain ⟨of, n, b1, l1, r1, b2, l2, r2, b3, l3, r3, uz, ul, uh, f1, g1, f2, g2, pa, kd, on, ot, pt, fb, fl, fh, tb, tl, th, dg, ds, tw, ki, on8, ot8, ab, be, zA, zB, zC, zD, zF, zT, fo, lw, hg, at_, tl8, th8, wo, wl, wh, is_, lo_, hi_, di, su, an, rfl, hSim⟩ := hW
  have hn := hSim.1.1
  rcases q_isP hn (xs (i + 1)) with ⟨k, hk, e1⟩ | ⟨hb1, hp1⟩
  · by_cases h40 : n < 40
    · refine lz_root C hi e1 hl hP hD hS rfl (fun sz => c_L_root_0 l C.2.2.2.2.2 D y ad sz hX1 qX n b1 l1 r1 b2 l2 r2 b3 l3 r3 uz ul uh f1 g1 f2 g2 pa kd on ot pt fb fl fh tb tl th dg ds k oa of h40 hk) rfl rfl ⟨by decide, by decide⟩ ⟨by omega, by omega⟩ (fun sz => c_X8_root_0 l D y sz h8 q8 tw n ki on8 ot8 ab be zA zB zC zD zF zT fo lw hg at_ tl8 th8 wo wl wh is_ lo_ hi_ di su an k (fun p => (mkX fb fl fh 6 k k p).1) (fun p => (mkX fb fl fh 6 k k p).2.1) (fun p => (mkX fb fl fh 6 k k p).2.2) h40 hk (q_isPk hn hk) (mk1_can hSim (by decide) (by decide) hk) (mk1_no hSim hk)) rfl rfl ⟨by decide, by decide⟩ (fun v w hf => ?_) (fun v w hf => ?_) (fun k9 of9 wr9 a9 w9 hf hf9 => ?_)
      · obtain ⟨_, _, _, _, _, _, _, _, _, _, _, _, _, _, _, _, _, _, _, _, _, _, _, rfl, rfl, _⟩ := hf
        exact ⟨_, _, _, rfl, rfl⟩
      · obtain ⟨_, _, _, _, _, _, _, _, _, rfl, _⟩ := hf
        exact ⟨_, rfl⟩
      · obtain ⟨yb1, yl1, yr1, yb2, yl2, yr2, yb3, yl3, yr3, yuz, yul, yuh, yf1, yg1, yf2, yg2, nan, fbn, fln, fhn, tbn, tln, thn, hk9, hw9, pl0, pl1⟩ := hf
        obtain ⟨fo1, lw1, hg1, at1, tl1, th1, is1, lo1, hi1, ha9, hv9, pr0, pr1⟩ := hf9
        subst hv9
        cases hk9
        cases ha9
        have ho9 : of9 0 = _ := (congrFun (g_of9 hw9) 0).trans (updL_at9 of 0 _)
        refine ⟨fun sz => c_X8_thrown l D y sz _ _ _ _ _ _ _ _ _ _ _ _ _ _ _ _ _ _ _ _ _ _ _ _ _ _ _ _ _ _, ⟨_, rfl⟩, fun _ => ho9.trans (rfl), fun H locs ls hP hD hS hl => ?_⟩
        rw [hw9] at hP hD
        refine W.widen (by omega) (by omega) (KK _ H locs ls ?_ hP hD hS hl)
        exact SimW_mk (mk1_sim hSim h40 (by decide) (by decide) hk pl0 pl1 pr0 pr1)
    · refine lz_root C hi e1 hl hP hD hS rfl (fun sz => c_L_root_X2 l C.2.2.2.2.2 D y ad sz hX1 qX n b1 l1 r1 b2 l2 r2 b3 l3 r3 uz ul uh f1 g1 f2 g2 pa kd on ot pt fb fl fh tb tl th dg ds k oa of hn hk h40) rfl rfl ⟨by decide, by decide⟩ ⟨by omega, by omega⟩ (fun sz => c_X8_root_2 l D y sz h8 q8 tw n ki on8 ot8 ab be zA zB zC zD zF zT fo lw hg at_ tl8 th8 wo wl wh is_ lo_ hi_ di su an (nI k) (q_isPk hn hk) (q_full hn h40)) rfl rfl ⟨by decide, by decide⟩ (fun v w hf => ?_) (fun v w hf => ?_) (fun k9 of9 wr9 a9 w9 hf hf9 => ?_)
      · obtain ⟨rfl, rfl⟩ := hf
        exact ⟨_, _, _, rfl, rfl⟩
      · obtain ⟨rfl, _⟩ := hf
        exact ⟨_, rfl⟩
      · obtain ⟨hk9, hw9⟩ := hf
        obtain ⟨ha9, hv9⟩ := hf9
        subst hv9
        cases hk9
        cases ha9
        refine ⟨fun sz => c_X8_thrown l D y sz _ _ _ _ _ _ _ _ _ _ _ _ _ _ _ _ _ _ _ _ _ _ _ _ _ _ _ _ _ _, ⟨_, rfl⟩, fun z => absurd z (by decide), fun H locs ls hP hD hS hl => ?_⟩
        rw [hw9] at hP hD
        refine W.widen (by omega) (by omega) (KK _ H locs ls ?_ hP hD hS hl)
        exact SimW_mk (hSim)
  · refine lz_root C hi rfl hl hP hD hS rfl (fun sz => c_L_root_X1a l C.2.2.2.2.2 D y ad sz hX1 qX n b1 l1 r1 b2 l2 r2 b3 l3 r3 uz ul uh f1 g1 f2 g2 pa kd on ot pt fb fl fh tb tl th dg ds (xs (i + 1)) oa of hb1) rfl rfl ⟨by decide, by decide⟩ ⟨by omega, by omega⟩ (fun sz => c_X8_root_1 l D y sz h8 q8 tw n ki on8 ot8 ab be zA zB zC zD zF zT fo lw hg at_ tl8 th8 wo wl wh is_ lo_ hi_ di su an (xs (i + 1)) hp1) rfl rfl ⟨by decide, by decide⟩ (fun v w hf => ?_) (fun v w hf => ?_) (fun k9 of9 wr9 a9 w9 hf hf9 => ?_)
    · obtain ⟨rfl, rfl⟩ := hf
      exact ⟨_, _, _, rfl, rfl⟩
    · obtain ⟨rfl, _⟩ := hf
      exact ⟨_, rfl⟩
    · obtain ⟨hk9, hw9⟩ := hf
      obtain ⟨ha9, hv9⟩ := hf9
      subst hv9
      cases hk9
      cases ha9
      refine ⟨fun sz => c_X8_thrown l D y sz _ _ _ _ _ _ _ _ _ _ _ _ _ _ _ _ _ _ _ _ _ _ _ _ _ _ _ _ _ _, ⟨_, rfl⟩, fun z => absurd z (by decide), fun H locs ls hP hD hS hl => ?_⟩
      rw [hw9] at hP hD
      refine W.widen (by omega) (by omega) (KK _ H locs ls ?_ hP hD hS hl)
      exact SimW_mk (hSim)
set_option maxHeartbeats 4000000 in
set_option maxRecDepth 100000 in
theorem st_exp (C : lwC p l s m meth c b L xs D y ad) {i : Nat} (hi : i + 7 ≤ L) {hX1 h8 oa : Nat} {qX q8 : Nat → Nat} (hl : lv_has ls 8 [(0, .ref b), (1, .ref hX1), (2, .ref h8), (3, .ref oa), (4, .int (nI i))]) {ws : va_W} (hW : SimW y ad hX1 qX h8 q8 oa ws) (hP : va_P D vwCl ws H) (hD : va_D (lA s) ws) (hS : va_S (lA s) s.heap H locs) (hroom : cells + 10 ≤ 601024 ∧ slots + 168 ≤ 7293034) (KK : stK p l e s m below meth c Q b D y ad hX1 qX h8 q8 oa i cells slots) : W p l e room_1 s m #[Value.ref b] below meth c H locs cells slots Q (F0 m 604 ls []) := by
  obtain ⟨of, n, b1, l1, r1, b2, l2, r2, b3, l3, r3, uz, ul, uh, f1, g1, f2, g2, pa, kd, on, ot, pt, fb, fl, fh, tb, tl, th, dg, ds, tw, ki, on8, ot8, ab, be, zA, zB, zC, zD, zF, zT, fo, lw, hg, at_, tl8, th8, wo, wl, wh, is_, lo_, hi_, di, su, an, rfl, hSim⟩ := hW
  have hn := hSim.1.1
  rcases q_isP hn (xs (i + 1)) with ⟨k, hk, e1⟩ | ⟨hb1, hp1⟩
  · by_cases h40 : n < 40
    · refine lz_exp C hi e1 hl hP hD hS rfl (fun sz => c_L_exp_0 l C.2.2.2.2.2 D y ad sz hX1 qX n b1 l1 r1 b2 l2 r2 b3 l3 r3 uz ul uh f1 g1 f2 g2 pa kd on ot pt fb fl fh tb tl th dg ds k oa of h40 hk) rfl rfl ⟨by decide, by decide⟩ ⟨by omega, by omega⟩ (fun sz => c_X8_exp_0 l D y sz h8 q8 tw n ki on8 ot8 ab be zA zB zC zD zF zT fo lw hg at_ tl8 th8 wo wl wh is_ lo_ hi_ di su an k (fun p => (mkX fb fl fh 7 k k p).1) (fun p => (mkX fb fl fh 7 k k p).2.1) (fun p => (mkX fb fl fh 7 k k p).2.2) h40 hk (q_isPk hn hk) (mk1_can hSim (by decide) (by decide) hk) (mk1_no hSim hk)) rfl rfl ⟨by decide, by decide⟩ (fun v w hf => ?_) (fun v w hf => ?_) (fun k9 of9 wr9 a9 w9 hf hf9 => ?_)
      · obtain ⟨_, _, _, _, _, _, _, _, _, _, _, _, _, _, _, _, _, _, _, _, _, _, _, rfl, rfl, _⟩ := hf
        exact ⟨_, _, _, rfl, rfl⟩
      · obtain ⟨_, _, _, _, _, _, _, _, _, rfl, _⟩ := hf
        exact ⟨_, rfl⟩
      · obtain ⟨yb1, yl1, yr1, yb2, yl2, yr2, yb3, yl3, yr3, yuz, yul, yuh, yf1, yg1, yf2, yg2, nan, fbn, fln, fhn, tbn, tln, thn, hk9, hw9, pl0, pl1⟩ := hf
        obtain ⟨fo1, lw1, hg1, at1, tl1, th1, is1, lo1, hi1, ha9, hv9, pr0, pr1⟩ := hf9
        subst hv9
        cases hk9
        cases ha9
        have ho9 : of9 0 = _ := (congrFun (g_of9 hw9) 0).trans (updL_at9 of 0 _)
        refine ⟨fun sz => c_X8_thrown l D y sz _ _ _ _ _ _ _ _ _ _ _ _ _ _ _ _ _ _ _ _ _ _ _ _ _ _ _ _ _ _, ⟨_, rfl⟩, fun _ => ho9.trans (rfl), fun H locs ls hP hD hS hl => ?_⟩
        rw [hw9] at hP hD
        refine W.widen (by omega) (by omega) (KK _ H locs ls ?_ hP hD hS hl)
        exact SimW_mk (mk1_sim hSim h40 (by decide) (by decide) hk pl0 pl1 pr0 pr1)
    · refine lz_exp C hi e1 hl hP hD hS rfl (fun sz => c_L_exp_X2 l C.2.2.2.2.2 D y ad sz hX1 qX n b1 l1 r1 b2 l2 r2 b3 l3 r3 uz ul uh f1 g1 f2 g2 pa kd on ot pt fb fl fh tb tl th dg ds k oa of hn hk h40) rfl rfl ⟨by decide, by decide⟩ ⟨by omega, by omega⟩ (fun sz => c_X8_exp_2 l D y sz h8 q8 tw n ki on8 ot8 ab be zA zB zC zD zF zT fo lw hg at_ tl8 th8 wo wl wh is_ lo_ hi_ di su an (nI k) (q_isPk hn hk) (q_full hn h40)) rfl rfl ⟨by decide, by decide⟩ (fun v w hf => ?_) (fun v w hf => ?_) (fun k9 of9 wr9 a9 w9 hf hf9 => ?_)
      · obtain ⟨rfl, rfl⟩ := hf
        exact ⟨_, _, _, rfl, rfl⟩
      · obtain ⟨rfl, _⟩ := hf
        exact ⟨_, rfl⟩
      · obtain ⟨hk9, hw9⟩ := hf
        obtain ⟨ha9, hv9⟩ := hf9
        subst hv9
        cases hk9
        cases ha9
        refine ⟨fun sz => c_X8_thrown l D y sz _ _ _ _ _ _ _ _ _ _ _ _ _ _ _ _ _ _ _ _ _ _ _ _ _ _ _ _ _ _, ⟨_, rfl⟩, fun z => absurd z (by decide), fun H locs ls hP hD hS hl => ?_⟩
        rw [hw9] at hP hD
        refine W.widen (by omega) (by omega) (KK _ H locs ls ?_ hP hD hS hl)
        exact SimW_mk (hSim)
  · refine lz_exp C hi rfl hl hP hD hS rfl (fun sz => c_L_exp_X1a l C.2.2.2.2.2 D y ad sz hX1 qX n b1 l1 r1 b2 l2 r2 b3 l3 r3 uz ul uh f1 g1 f2 g2 pa kd on ot pt fb fl fh tb tl th dg ds (xs (i + 1)) oa of hb1) rfl rfl ⟨by decide, by decide⟩ ⟨by omega, by omega⟩ (fun sz => c_X8_exp_1 l D y sz h8 q8 tw n ki on8 ot8 ab be zA zB zC zD zF zT fo lw hg at_ tl8 th8 wo wl wh is_ lo_ hi_ di su an (xs (i + 1)) hp1) rfl rfl ⟨by decide, by decide⟩ (fun v w hf => ?_) (fun v w hf => ?_) (fun k9 of9 wr9 a9 w9 hf hf9 => ?_)
    · obtain ⟨rfl, rfl⟩ := hf
      exact ⟨_, _, _, rfl, rfl⟩
    · obtain ⟨rfl, _⟩ := hf
      exact ⟨_, rfl⟩
    · obtain ⟨hk9, hw9⟩ := hf
      obtain ⟨ha9, hv9⟩ := hf9
      subst hv9
      cases hk9
      cases ha9
      refine ⟨fun sz => c_X8_thrown l D y sz _ _ _ _ _ _ _ _ _ _ _ _ _ _ _ _ _ _ _ _ _ _ _ _ _ _ _ _ _ _, ⟨_, rfl⟩, fun z => absurd z (by decide), fun H locs ls hP hD hS hl => ?_⟩
      rw [hw9] at hP hD
      refine W.widen (by omega) (by omega) (KK _ H locs ls ?_ hP hD hS hl)
      exact SimW_mk (hSim)
set_option maxHeartbeats 4000000 in
set_option maxRecDepth 100000 in
theorem st_zero (C : lwC p l s m meth c b L xs D y ad) {i : Nat} (hi : i + 7 ≤ L) {hX1 h8 oa : Nat} {qX q8 : Nat → Nat} (hl : lv_has ls 8 [(0, .ref b), (1, .ref hX1), (2, .ref h8), (3, .ref oa), (4, .int (nI i))]) {ws : va_W} (hW : SimW y ad hX1 qX h8 q8 oa ws) (hP : va_P D vwCl ws H) (hD : va_D (lA s) ws) (hS : va_S (lA s) s.heap H locs) (hroom : cells + 10 ≤ 601024 ∧ slots + 168 ≤ 7293034) (KK : stK p l e s m below meth c Q b D y ad hX1 qX h8 q8 oa i cells slots) : W p l e room_1 s m #[Value.ref b] below meth c H locs cells slots Q (F0 m 660 ls []) := by
  obtain ⟨of, n, b1, l1, r1, b2, l2, r2, b3, l3, r3, uz, ul, uh, f1, g1, f2, g2, pa, kd, on, ot, pt, fb, fl, fh, tb, tl, th, dg, ds, tw, ki, on8, ot8, ab, be, zA, zB, zC, zD, zF, zT, fo, lw, hg, at_, tl8, th8, wo, wl, wh, is_, lo_, hi_, di, su, an, rfl, hSim⟩ := hW
  have hn := hSim.1.1
  rcases q_inC (xs (i + 1)) (-9) 9 with ⟨gb0, gp0⟩ | ⟨g01, g02, g03⟩
  · refine lz_zero C hi rfl rfl rfl rfl rfl rfl hl hP hD hS rfl (fun sz => c_L_zero_X1a l C.2.2.2.2.2 D y ad sz hX1 qX n b1 l1 r1 b2 l2 r2 b3 l3 r3 uz ul uh f1 g1 f2 g2 pa kd on ot pt fb fl fh tb tl th dg ds (xs (i + 1)) (xs (i + 2)) (xs (i + 3)) (xs (i + 4)) (xs (i + 5)) (xs (i + 6)) oa of gb0) rfl rfl ⟨by decide, by decide⟩ ⟨by omega, by omega⟩ (fun sz => c_X8_zero_1 l D y sz h8 q8 tw n ki on8 ot8 ab be zA zB zC zD zF zT fo lw hg at_ tl8 th8 wo wl wh is_ lo_ hi_ di su an (xs (i + 1)) (xs (i + 2)) (xs (i + 3)) (xs (i + 4)) (xs (i + 5)) (xs (i + 6)) (fun z => gp0 z.1)) rfl rfl ⟨by decide, by decide⟩ (fun v w hf => ?_) (fun v w hf => ?_) (fun k9 of9 wr9 a9 w9 hf hf9 => ?_)
    · obtain ⟨rfl, rfl⟩ := hf
      exact ⟨_, _, _, rfl, rfl⟩
    · obtain ⟨rfl, _⟩ := hf
      exact ⟨_, rfl⟩
    · obtain ⟨hk9, hw9⟩ := hf
      obtain ⟨ha9, hv9⟩ := hf9
      subst hv9
      cases hk9
      cases ha9
      refine ⟨fun sz => c_X8_thrown l D y sz _ _ _ _ _ _ _ _ _ _ _ _ _ _ _ _ _ _ _ _ _ _ _ _ _ _ _ _ _ _, ⟨_, rfl⟩, fun z => absurd z (by decide), fun H locs ls hP hD hS hl => ?_⟩
      rw [hw9] at hP hD
      refine W.widen (by omega) (by omega) (KK _ H locs ls ?_ hP hD hS hl)
      exact SimW_mk (hSim)
  · rcases q_inC (xs (i + 2)) (-9) 9 with ⟨gb1, gp1⟩ | ⟨g11, g12, g13⟩
    · refine lz_zero C hi rfl rfl rfl rfl rfl rfl hl hP hD hS rfl (fun sz => c_L_zero_X1b l C.2.2.2.2.2 D y ad sz hX1 qX n b1 l1 r1 b2 l2 r2 b3 l3 r3 uz ul uh f1 g1 f2 g2 pa kd on ot pt fb fl fh tb tl th dg ds (xs (i + 1)) (xs (i + 2)) (xs (i + 3)) (xs (i + 4)) (xs (i + 5)) (xs (i + 6)) oa of g01 g02 gb1) rfl rfl ⟨by decide, by decide⟩ ⟨by omega, by omega⟩ (fun sz => c_X8_zero_1 l D y sz h8 q8 tw n ki on8 ot8 ab be zA zB zC zD zF zT fo lw hg at_ tl8 th8 wo wl wh is_ lo_ hi_ di su an (xs (i + 1)) (xs (i + 2)) (xs (i + 3)) (xs (i + 4)) (xs (i + 5)) (xs (i + 6)) (fun z => gp1 z.2.1)) rfl rfl ⟨by decide, by decide⟩ (fun v w hf => ?_) (fun v w hf => ?_) (fun k9 of9 wr9 a9 w9 hf hf9 => ?_)
      · obtain ⟨rfl, rfl⟩ := hf
        exact ⟨_, _, _, rfl, rfl⟩
      · obtain ⟨rfl, _⟩ := hf
        exact ⟨_, rfl⟩
      · obtain ⟨hk9, hw9⟩ := hf
        obtain ⟨ha9, hv9⟩ := hf9
        subst hv9
        cases hk9
        cases ha9
        refine ⟨fun sz => c_X8_thrown l D y sz _ _ _ _ _ _ _ _ _ _ _ _ _ _ _ _ _ _ _ _ _ _ _ _ _ _ _ _ _ _, ⟨_, rfl⟩, fun z => absurd z (by decide), fun H locs ls hP hD hS hl => ?_⟩
        rw [hw9] at hP hD
        refine W.widen (by omega) (by omega) (KK _ H locs ls ?_ hP hD hS hl)
        exact SimW_mk (hSim)
    · rcases q_inC (xs (i + 3)) (-9) 9 with ⟨gb2, gp2⟩ | ⟨g21, g22, g23⟩
      · refine lz_zero C hi rfl rfl rfl rfl rfl rfl hl hP hD hS rfl (fun sz => c_L_zero_X1c0 l C.2.2.2.2.2 D y ad sz hX1 qX n b1 l1 r1 b2 l2 r2 b3 l3 r3 uz ul uh f1 g1 f2 g2 pa kd on ot pt fb fl fh tb tl th dg ds (xs (i + 1)) (xs (i + 2)) (xs (i + 3)) (xs (i + 4)) (xs (i + 5)) (xs (i + 6)) oa of g01 g02 g11 g12 gb2) rfl rfl ⟨by decide, by decide⟩ ⟨by omega, by omega⟩ (fun sz => c_X8_zero_1 l D y sz h8 q8 tw n ki on8 ot8 ab be zA zB zC zD zF zT fo lw hg at_ tl8 th8 wo wl wh is_ lo_ hi_ di su an (xs (i + 1)) (xs (i + 2)) (xs (i + 3)) (xs (i + 4)) (xs (i + 5)) (xs (i + 6)) (fun z => gp2 z.2.2.1)) rfl rfl ⟨by decide, by decide⟩ (fun v w hf => ?_) (fun v w hf => ?_) (fun k9 of9 wr9 a9 w9 hf hf9 => ?_)
        · obtain ⟨rfl, rfl⟩ := hf
          exact ⟨_, _, _, rfl, rfl⟩
        · obtain ⟨rfl, _⟩ := hf
          exact ⟨_, rfl⟩
        · obtain ⟨hk9, hw9⟩ := hf
          obtain ⟨ha9, hv9⟩ := hf9
          subst hv9
          cases hk9
          cases ha9
          refine ⟨fun sz => c_X8_thrown l D y sz _ _ _ _ _ _ _ _ _ _ _ _ _ _ _ _ _ _ _ _ _ _ _ _ _ _ _ _ _ _, ⟨_, rfl⟩, fun z => absurd z (by decide), fun H locs ls hP hD hS hl => ?_⟩
          rw [hw9] at hP hD
          refine W.widen (by omega) (by omega) (KK _ H locs ls ?_ hP hD hS hl)
          exact SimW_mk (hSim)
      · rcases q_inC (xs (i + 4)) (-9) 9 with ⟨gb3, gp3⟩ | ⟨g31, g32, g33⟩
        · refine lz_zero C hi rfl rfl rfl rfl rfl rfl hl hP hD hS rfl (fun sz => c_L_zero_X1d0 l C.2.2.2.2.2 D y ad sz hX1 qX n b1 l1 r1 b2 l2 r2 b3 l3 r3 uz ul uh f1 g1 f2 g2 pa kd on ot pt fb fl fh tb tl th dg ds (xs (i + 1)) (xs (i + 2)) (xs (i + 3)) (xs (i + 4)) (xs (i + 5)) (xs (i + 6)) oa of g01 g02 g11 g12 g21 g22 gb3) rfl rfl ⟨by decide, by decide⟩ ⟨by omega, by omega⟩ (fun sz => c_X8_zero_1 l D y sz h8 q8 tw n ki on8 ot8 ab be zA zB zC zD zF zT fo lw hg at_ tl8 th8 wo wl wh is_ lo_ hi_ di su an (xs (i + 1)) (xs (i + 2)) (xs (i + 3)) (xs (i + 4)) (xs (i + 5)) (xs (i + 6)) (fun z => gp3 z.2.2.2.1)) rfl rfl ⟨by decide, by decide⟩ (fun v w hf => ?_) (fun v w hf => ?_) (fun k9 of9 wr9 a9 w9 hf hf9 => ?_)
          · obtain ⟨rfl, rfl⟩ := hf
            exact ⟨_, _, _, rfl, rfl⟩
          · obtain ⟨rfl, _⟩ := hf
            exact ⟨_, rfl⟩
          · obtain ⟨hk9, hw9⟩ := hf
            obtain ⟨ha9, hv9⟩ := hf9
            subst hv9
            cases hk9
            cases ha9
            refine ⟨fun sz => c_X8_thrown l D y sz _ _ _ _ _ _ _ _ _ _ _ _ _ _ _ _ _ _ _ _ _ _ _ _ _ _ _ _ _ _, ⟨_, rfl⟩, fun z => absurd z (by decide), fun H locs ls hP hD hS hl => ?_⟩
            rw [hw9] at hP hD
            refine W.widen (by omega) (by omega) (KK _ H locs ls ?_ hP hD hS hl)
            exact SimW_mk (hSim)
        · rcases q_inC (xs (i + 5)) (-4) 3 with ⟨gb4, gp4⟩ | ⟨g41, g42, g43⟩
          · refine lz_zero C hi rfl rfl rfl rfl rfl rfl hl hP hD hS rfl (fun sz => c_L_zero_X1fr l C.2.2.2.2.2 D y ad sz hX1 qX n b1 l1 r1 b2 l2 r2 b3 l3 r3 uz ul uh f1 g1 f2 g2 pa kd on ot pt fb fl fh tb tl th dg ds (xs (i + 1)) (xs (i + 2)) (xs (i + 3)) (xs (i + 4)) (xs (i + 5)) (xs (i + 6)) oa of g01 g02 g11 g12 g21 g22 g31 g32 gb4) rfl rfl ⟨by decide, by decide⟩ ⟨by omega, by omega⟩ (fun sz => c_X8_zero_1 l D y sz h8 q8 tw n ki on8 ot8 ab be zA zB zC zD zF zT fo lw hg at_ tl8 th8 wo wl wh is_ lo_ hi_ di su an (xs (i + 1)) (xs (i + 2)) (xs (i + 3)) (xs (i + 4)) (xs (i + 5)) (xs (i + 6)) (fun z => gp4 z.2.2.2.2.1)) rfl rfl ⟨by decide, by decide⟩ (fun v w hf => ?_) (fun v w hf => ?_) (fun k9 of9 wr9 a9 w9 hf hf9 => ?_)
            · obtain ⟨rfl, rfl⟩ := hf
              exact ⟨_, _, _, rfl, rfl⟩
            · obtain ⟨rfl, _⟩ := hf
              exact ⟨_, rfl⟩
            · obtain ⟨hk9, hw9⟩ := hf
              obtain ⟨ha9, hv9⟩ := hf9
              subst hv9
              cases hk9
              cases ha9
              refine ⟨fun sz => c_X8_thrown l D y sz _ _ _ _ _ _ _ _ _ _ _ _ _ _ _ _ _ _ _ _ _ _ _ _ _ _ _ _ _ _, ⟨_, rfl⟩, fun z => absurd z (by decide), fun H locs ls hP hD hS hl => ?_⟩
              rw [hw9] at hP hD
              refine W.widen (by omega) (by omega) (KK _ H locs ls ?_ hP hD hS hl)
              exact SimW_mk (hSim)
          · rcases q_inC (xs (i + 6)) 0 2 with ⟨gb5, gp5⟩ | ⟨g51, g52, g53⟩
            · refine lz_zero C hi rfl rfl rfl rfl rfl rfl hl hP hD hS rfl (fun sz => c_L_zero_X1hv l C.2.2.2.2.2 D y ad sz hX1 qX n b1 l1 r1 b2 l2 r2 b3 l3 r3 uz ul uh f1 g1 f2 g2 pa kd on ot pt fb fl fh tb tl th dg ds (xs (i + 1)) (xs (i + 2)) (xs (i + 3)) (xs (i + 4)) (xs (i + 5)) (xs (i + 6)) oa of g01 g02 g11 g12 g21 g22 g31 g32 g41 g42 gb5) rfl rfl ⟨by decide, by decide⟩ ⟨by omega, by omega⟩ (fun sz => c_X8_zero_1 l D y sz h8 q8 tw n ki on8 ot8 ab be zA zB zC zD zF zT fo lw hg at_ tl8 th8 wo wl wh is_ lo_ hi_ di su an (xs (i + 1)) (xs (i + 2)) (xs (i + 3)) (xs (i + 4)) (xs (i + 5)) (xs (i + 6)) (fun z => gp5 z.2.2.2.2.2)) rfl rfl ⟨by decide, by decide⟩ (fun v w hf => ?_) (fun v w hf => ?_) (fun k9 of9 wr9 a9 w9 hf hf9 => ?_)
              · obtain ⟨rfl, rfl⟩ := hf
                exact ⟨_, _, _, rfl, rfl⟩
              · obtain ⟨rfl, _⟩ := hf
                exact ⟨_, rfl⟩
              · obtain ⟨hk9, hw9⟩ := hf
                obtain ⟨ha9, hv9⟩ := hf9
                subst hv9
                cases hk9
                cases ha9
                refine ⟨fun sz => c_X8_thrown l D y sz _ _ _ _ _ _ _ _ _ _ _ _ _ _ _ _ _ _ _ _ _ _ _ _ _ _ _ _ _ _, ⟨_, rfl⟩, fun z => absurd z (by decide), fun H locs ls hP hD hS hl => ?_⟩
                rw [hw9] at hP hD
                refine W.widen (by omega) (by omega) (KK _ H locs ls ?_ hP hD hS hl)
                exact SimW_mk (hSim)
            · obtain ⟨u, hu, eu⟩ : ∃ u, u < 3 ∧ xs (i + 6) = nI u := (q_inN (xs (i + 6)) (m := 2) (by decide)).elim (fun h => h) (fun h => absurd g53 h.2)
              have hz9 := q_zs hu g01 g02 g11 g12 g21 g22 g31 g32 g41 g42
              by_cases h40 : n < 40
              · by_cases hun : unl (sp_X8_plain (xs (i + 1)) (xs (i + 2)) (xs (i + 3)) (xs (i + 4)) (xs (i + 5))) (sp_X8_plain (xs (i + 1)) (xs (i + 2)) (xs (i + 3)) (xs (i + 4)) ((xs (i + 5)) + (1 <<< ((xs (i + 6)) &&& 31)))) = true
                · refine lz_zero C hi rfl rfl rfl rfl rfl eu hl hP hD hS rfl (fun sz => c_L_zero_0 l C.2.2.2.2.2 D y ad sz hX1 qX n b1 l1 r1 b2 l2 r2 b3 l3 r3 uz ul uh f1 g1 f2 g2 pa kd on ot pt fb fl fh tb tl th dg ds (xs (i + 1)) (xs (i + 2)) (xs (i + 3)) (xs (i + 4)) (xs (i + 5)) u oa of g01 g02 g11 g12 g21 g22 g31 g32 g41 g42 hu h40 (hz9.1.mpr (by rw [← eu]; exact hun))) rfl rfl ⟨by decide, by decide⟩ ⟨by omega, by omega⟩ (fun sz => c_X8_zero_0 l D y sz h8 q8 tw n ki on8 ot8 ab be zA zB zC zD zF zT fo lw hg at_ tl8 th8 wo wl wh is_ lo_ hi_ di su an (xs (i + 1)) (xs (i + 2)) (xs (i + 3)) (xs (i + 4)) (xs (i + 5)) (nI u) (fun p => (fzX (xs (i + 1)).toInt64 (xs (i + 2)).toInt64 (xs (i + 3)).toInt64 (xs (i + 4)).toInt64 (xs (i + 5)) u p).1) (fun p => (fzX (xs (i + 1)).toInt64 (xs (i + 2)).toInt64 (xs (i + 3)).toInt64 (xs (i + 4)).toInt64 (xs (i + 5)) u p).2.1) (fun p => (fzX (xs (i + 1)).toInt64 (xs (i + 2)).toInt64 (xs (i + 3)).toInt64 (xs (i + 4)).toInt64 (xs (i + 5)) u p).2.2) h40 g03 g13 g23 g33 g43 (by rw [← eu]; exact g53) (by rw [← eu]; exact hun) (mk8_can (hz9.2 (by rw [← eu]; exact hun)))) rfl rfl ⟨by decide, by decide⟩ (fun v w hf => ?_) (fun v w hf => ?_) (fun k9 of9 wr9 a9 w9 hf hf9 => ?_)
                  · obtain ⟨_, _, _, _, _, _, _, _, _, _, _, _, _, _, _, _, _, _, _, _, _, _, _, rfl, rfl, _⟩ := hf
                    exact ⟨_, _, _, rfl, rfl⟩
                  · obtain ⟨_, _, _, _, _, _, _, _, _, rfl, _⟩ := hf
                    exact ⟨_, rfl⟩
                  · obtain ⟨yb1, yl1, yr1, yb2, yl2, yr2, yb3, yl3, yr3, yuz, yul, yuh, yf1, yg1, yf2, yg2, nan, fbn, fln, fhn, tbn, tln, thn, hk9, hw9, pl0, pl1⟩ := hf
                    obtain ⟨fo1, lw1, hg1, at1, tl1, th1, is1, lo1, hi1, ha9, hv9, pr0, pr1⟩ := hf9
                    subst hv9
                    cases hk9
                    cases ha9
                    have ho9 : of9 0 = _ := (congrFun (g_of9 hw9) 0).trans (updL_at9 of 0 _)
                    refine ⟨fun sz => c_X8_thrown l D y sz _ _ _ _ _ _ _ _ _ _ _ _ _ _ _ _ _ _ _ _ _ _ _ _ _ _ _ _ _ _, ⟨_, rfl⟩, fun _ => ho9.trans (rfl), fun H locs ls hP hD hS hl => ?_⟩
                    rw [hw9] at hP hD
                    refine W.widen (by omega) (by omega) (KK _ H locs ls ?_ hP hD hS hl)
                    exact SimW_mk (mk8_sim hSim h40 (hz9.2 (by rw [← eu]; exact hun)) pl0 pl1 pr0 pr1)
                · refine lz_zero C hi rfl rfl rfl rfl rfl rfl hl hP hD hS rfl (fun sz => c_L_zero_X3 l C.2.2.2.2.2 D y ad sz hX1 qX n b1 l1 r1 b2 l2 r2 b3 l3 r3 uz ul uh f1 g1 f2 g2 pa kd on ot pt fb fl fh tb tl th dg ds (xs (i + 1)) (xs (i + 2)) (xs (i + 3)) (xs (i + 4)) (xs (i + 5)) (xs (i + 6)) oa of g01 g02 g11 g12 g21 g22 g31 g32 g41 g42 g51 g52 h40 (fun z => hun (by rw [eu] at z ⊢; exact hz9.1.mp z))) rfl rfl ⟨by decide, by decide⟩ ⟨by omega, by omega⟩ (fun sz => c_X8_zero_2a l D y sz h8 q8 tw n ki on8 ot8 ab be zA zB zC zD zF zT fo lw hg at_ tl8 th8 wo wl wh is_ lo_ hi_ di su an (xs (i + 1)) (xs (i + 2)) (xs (i + 3)) (xs (i + 4)) (xs (i + 5)) (xs (i + 6)) g03 g13 g23 g33 g43 g53 hun) rfl rfl ⟨by decide, by decide⟩ (fun v w hf => ?_) (fun v w hf => ?_) (fun k9 of9 wr9 a9 w9 hf hf9 => ?_)
                  · obtain ⟨rfl, rfl⟩ := hf
                    exact ⟨_, _, _, rfl, rfl⟩
                  · obtain ⟨rfl, _⟩ := hf
                    exact ⟨_, rfl⟩
                  · obtain ⟨hk9, hw9⟩ := hf
                    obtain ⟨ha9, hv9⟩ := hf9
                    subst hv9
                    cases hk9
                    cases ha9
                    refine ⟨fun sz => c_X8_thrown l D y sz _ _ _ _ _ _ _ _ _ _ _ _ _ _ _ _ _ _ _ _ _ _ _ _ _ _ _ _ _ _, ⟨_, rfl⟩, fun z => absurd z (by decide), fun H locs ls hP hD hS hl => ?_⟩
                    rw [hw9] at hP hD
                    refine W.widen (by omega) (by omega) (KK _ H locs ls ?_ hP hD hS hl)
                    exact SimW_mk (hSim)
              · by_cases hun : unl (sp_X8_plain (xs (i + 1)) (xs (i + 2)) (xs (i + 3)) (xs (i + 4)) (xs (i + 5))) (sp_X8_plain (xs (i + 1)) (xs (i + 2)) (xs (i + 3)) (xs (i + 4)) ((xs (i + 5)) + (1 <<< ((xs (i + 6)) &&& 31)))) = true
                · refine lz_zero C hi rfl rfl rfl rfl rfl rfl hl hP hD hS rfl (fun sz => c_L_zero_X2 l C.2.2.2.2.2 D y ad sz hX1 qX n b1 l1 r1 b2 l2 r2 b3 l3 r3 uz ul uh f1 g1 f2 g2 pa kd on ot pt fb fl fh tb tl th dg ds (xs (i + 1)) (xs (i + 2)) (xs (i + 3)) (xs (i + 4)) (xs (i + 5)) (xs (i + 6)) oa of g01 g02 g11 g12 g21 g22 g31 g32 g41 g42 g51 g52 h40 hn) rfl rfl ⟨by decide, by decide⟩ ⟨by omega, by omega⟩ (fun sz => c_X8_zero_2b l D y sz h8 q8 tw n ki on8 ot8 ab be zA zB zC zD zF zT fo lw hg at_ tl8 th8 wo wl wh is_ lo_ hi_ di su an (xs (i + 1)) (xs (i + 2)) (xs (i + 3)) (xs (i + 4)) (xs (i + 5)) (xs (i + 6)) g03 g13 g23 g33 g43 g53 hun (q_full hn h40)) rfl rfl ⟨by decide, by decide⟩ (fun v w hf => ?_) (fun v w hf => ?_) (fun k9 of9 wr9 a9 w9 hf hf9 => ?_)
                  · obtain ⟨rfl, rfl⟩ := hf
                    exact ⟨_, _, _, rfl, rfl⟩
                  · obtain ⟨rfl, _⟩ := hf
                    exact ⟨_, rfl⟩
                  · obtain ⟨hk9, hw9⟩ := hf
                    obtain ⟨ha9, hv9⟩ := hf9
                    subst hv9
                    cases hk9
                    cases ha9
                    refine ⟨fun sz => c_X8_thrown l D y sz _ _ _ _ _ _ _ _ _ _ _ _ _ _ _ _ _ _ _ _ _ _ _ _ _ _ _ _ _ _, ⟨_, rfl⟩, fun z => absurd z (by decide), fun H locs ls hP hD hS hl => ?_⟩
                    rw [hw9] at hP hD
                    refine W.widen (by omega) (by omega) (KK _ H locs ls ?_ hP hD hS hl)
                    exact SimW_mk (hSim)
                · refine lz_zero C hi rfl rfl rfl rfl rfl rfl hl hP hD hS rfl (fun sz => c_L_zero_X2 l C.2.2.2.2.2 D y ad sz hX1 qX n b1 l1 r1 b2 l2 r2 b3 l3 r3 uz ul uh f1 g1 f2 g2 pa kd on ot pt fb fl fh tb tl th dg ds (xs (i + 1)) (xs (i + 2)) (xs (i + 3)) (xs (i + 4)) (xs (i + 5)) (xs (i + 6)) oa of g01 g02 g11 g12 g21 g22 g31 g32 g41 g42 g51 g52 h40 hn) rfl rfl ⟨by decide, by decide⟩ ⟨by omega, by omega⟩ (fun sz => c_X8_zero_2a l D y sz h8 q8 tw n ki on8 ot8 ab be zA zB zC zD zF zT fo lw hg at_ tl8 th8 wo wl wh is_ lo_ hi_ di su an (xs (i + 1)) (xs (i + 2)) (xs (i + 3)) (xs (i + 4)) (xs (i + 5)) (xs (i + 6)) g03 g13 g23 g33 g43 g53 hun) rfl rfl ⟨by decide, by decide⟩ (fun v w hf => ?_) (fun v w hf => ?_) (fun k9 of9 wr9 a9 w9 hf hf9 => ?_)
                  · obtain ⟨rfl, rfl⟩ := hf
                    exact ⟨_, _, _, rfl, rfl⟩
                  · obtain ⟨rfl, _⟩ := hf
                    exact ⟨_, rfl⟩
                  · obtain ⟨hk9, hw9⟩ := hf
                    obtain ⟨ha9, hv9⟩ := hf9
                    subst hv9
                    cases hk9
                    cases ha9
                    refine ⟨fun sz => c_X8_thrown l D y sz _ _ _ _ _ _ _ _ _ _ _ _ _ _ _ _ _ _ _ _ _ _ _ _ _ _ _ _ _ _, ⟨_, rfl⟩, fun z => absurd z (by decide), fun H locs ls hP hD hS hl => ?_⟩
                    rw [hw9] at hP hD
                    refine W.widen (by omega) (by omega) (KK _ H locs ls ?_ hP hD hS hl)
                    exact SimW_mk (hSim)
end GST
