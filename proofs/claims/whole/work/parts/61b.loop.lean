set_option maxHeartbeats 4000000 in
set_option maxRecDepth 100000 in
theorem law_loop {p : Program} {l : Launch} {e : Env} {s : State} {m : MethodId} {below : List Frame} {meth : Method} {c : Code} {D : va_G} {y : Nat → ClassId} {ad : Nat → Nat} {b L : Nat} {xs : Nat → Int32} {Q : State → Prop} (C : lwC p l s m meth c b L xs D y ad) {hX1 h8 oa : Nat} {qX q8 : Nat → Nat}
    (hend : ∀ (H : Heap) (locs : List Loc) (cells slots : Nat) (ls : Array Slot), cells ≤ 601024 → slots ≤ 7293034 → va_S (lA s) s.heap H locs → W p l e room_1 s m #[Value.ref b] below meth c H locs cells slots Q (F0 m 1829 ls [])) :
    ∀ (r i cells slots : Nat), L < i + 7 * r → i ≤ 4000 → cells + 10 * r ≤ 601024 → slots + 168 * r ≤ 7293034 → ∀ (ws : va_W) (H : Heap) (locs : List Loc), SimW y ad hX1 qX h8 q8 oa ws → va_P D vwCl ws H → va_D (lA s) ws → va_S (lA s) s.heap H locs → ∀ (ls : Array Slot), lv_has ls 8 [(0, .ref b), (1, .ref hX1), (2, .ref h8), (3, .ref oa), (4, .int (nI i))] → W p l e room_1 s m #[Value.ref b] below meth c H locs cells slots Q (F0 m 23 ls []) := by
  obtain ⟨⟨hx, hb, hml, hown, hts⟩, ⟨hX, hbl, hL⟩, hK, hE, hN, hfl⟩ := id C
  have hbA : ¬ lA s b := Nat.not_le.mpr hbl
  intro r
  induction r with
  | zero =>
    intro i cells slots hr hi hcc hss ws H locs hW hP hD hS ls hl
    refine lv_iload hx hb dL_law_23 (lv_at hl 4 rfl) ?_
    refine lv_aload_n hx hb dL_law_25 rfl (lv_at hl 0 rfl) ?_
    refine va_slen hx hb hX hbl hbA hS dL_law_26 ?_
    refine lv_bipush (v := 7) hx hb dL_law_27 (by decide) ?_
    refine lv_isub hx hb dL_law_29 ?_
    refine lv_icmp_gt (tgt := 1829) hx hb dL_law_30 (by decide) (fun _ => hend H locs cells slots ls (by omega) (by omega) hS) (fun hgt => ?_)
    have hle : i + 7 ≤ L := by
      rcases Nat.lt_or_ge L (i + 7) with q | q
      · exact absurd ((q_l7 hL (by omega)).mpr q) hgt
      · exact q
    omega
  | succ r ih =>
    intro i cells slots hr hi hcc hss ws H locs hW hP hD hS ls hl
    refine lv_iload hx hb dL_law_23 (lv_at hl 4 rfl) ?_
    refine lv_aload_n hx hb dL_law_25 rfl (lv_at hl 0 rfl) ?_
    refine va_slen hx hb hX hbl hbA hS dL_law_26 ?_
    refine lv_bipush (v := 7) hx hb dL_law_27 (by decide) ?_
    refine lv_isub hx hb dL_law_29 ?_
    refine lv_icmp_gt (tgt := 1829) hx hb dL_law_30 (by decide) (fun _ => hend H locs cells slots ls (by omega) (by omega) hS) (fun hgt => ?_)
    have hle : i + 7 ≤ L := by
      rcases Nat.lt_or_ge L (i + 7) with q | q
      · exact absurd ((q_l7 hL (by omega)).mpr q) hgt
      · exact q
    obtain ⟨j, hj, ej⟩ := q_and31 (xs i)
    refine lv_aload_n hx hb dL_law_33 rfl (lv_at hl 0 rfl) ?_
    refine lv_iload hx hb dL_law_34 (lv_at hl 4 rfl) ?_
    refine g_sldL C hS (by omega) rfl dL_law_36 ?_
    refine lv_bipush (v := 31) hx hb dL_law_37 (by decide) ?_
    refine lv_iand hx hb dL_law_39 ?_
    refine g_topi ej ?_
    have KK : stK p l e s m below meth c Q b D y ad hX1 qX h8 q8 oa i cells slots := by
      intro ws H locs ls hW hP hD hS hl
      refine lv_iinc (v := nI (i + 7)) (lv' := [(4, .int (nI (i + 7))), (0, .ref b), (1, .ref hX1), (2, .ref h8), (3, .ref oa)]) hx hb dL_law_1823 hl (k := 4) rfl (nI_add i 7) (by decide) rfl (fun ls hl => ?_)
      refine lv_goto (tgt := 23) hx hb dL_law_1826 (by decide) ?_
      exact ih (i + 7) (cells + 10) (slots + 168) (by omega) (by omega) (by omega) (by omega) ws H locs hW hP hD hS ls (lv_sub hl [1, 2, 3, 4, 0] rfl)
    have hroom : cells + 10 ≤ 601024 ∧ slots + 168 ≤ 7293034 := ⟨by omega, by omega⟩
    rcases (show j = 0 ∨ j = 1 ∨ j = 2 ∨ j = 3 ∨ j = 4 ∨ j = 5 ∨ j = 6 ∨ j = 7 ∨ j = 8 ∨ j = 9 ∨ j = 10 ∨ j = 11 ∨ j = 12 ∨ j = 13 ∨ j = 14 ∨ j = 15 ∨ j = 16 ∨ j = 17 ∨ j = 18 ∨ j = 19 ∨ j = 20 ∨ j = 21 ∨ j = 22 ∨ j = 23 ∨ j = 24 ∨ j = 25 ∨ j = 26 ∨ j = 27 ∨ j = 28 ∨ j = 29 ∨ j = 30 ∨ j = 31 by omega) with rfl | rfl | rfl | rfl | rfl | rfl | rfl | rfl | rfl | rfl | rfl | rfl | rfl | rfl | rfl | rfl | rfl | rfl | rfl | rfl | rfl | rfl | rfl | rfl | rfl | rfl | rfl | rfl | rfl | rfl | rfl | rfl
    · refine lv_tableIn (off := 112) (tgt := 152) hx hb dL_law_40 (by decide) (by decide) rfl (by decide) ?_
      exact st_ratio C hle hl hW hP hD hS hroom KK
    · refine lv_tableIn (off := 180) (tgt := 220) hx hb dL_law_40 (by decide) (by decide) rfl (by decide) ?_
      exact st_sum C hle hl hW hP hD hS hroom KK
    · refine lv_tableIn (off := 248) (tgt := 288) hx hb dL_law_40 (by decide) (by decide) rfl (by decide) ?_
      exact st_difference C hle hl hW hP hD hS hroom KK
    · refine lv_tableIn (off := 316) (tgt := 356) hx hb dL_law_40 (by decide) (by decide) rfl (by decide) ?_
      exact st_product C hle hl hW hP hD hS hroom KK
    · refine lv_tableIn (off := 384) (tgt := 424) hx hb dL_law_40 (by decide) (by decide) rfl (by decide) ?_
      exact st_greater C hle hl hW hP hD hS hroom KK
    · refine lv_tableIn (off := 452) (tgt := 492) hx hb dL_law_40 (by decide) (by decide) rfl (by decide) ?_
      exact st_inverse C hle hl hW hP hD hS hroom KK
    · refine lv_tableIn (off := 508) (tgt := 548) hx hb dL_law_40 (by decide) (by decide) rfl (by decide) ?_
      exact st_root C hle hl hW hP hD hS hroom KK
    · refine lv_tableIn (off := 564) (tgt := 604) hx hb dL_law_40 (by decide) (by decide) rfl (by decide) ?_
      exact st_exp C hle hl hW hP hD hS hroom KK
    · refine lv_tableIn (off := 620) (tgt := 660) hx hb dL_law_40 (by decide) (by decide) rfl (by decide) ?_
      exact st_zero C hle hl hW hP hD hS hroom KK
    · refine lv_tableIn (off := 738) (tgt := 778) hx hb dL_law_40 (by decide) (by decide) rfl (by decide) ?_
      exact st_raw C hle hl hW hP hD hS hroom KK
    · refine lv_tableIn (off := 833) (tgt := 873) hx hb dL_law_40 (by decide) (by decide) rfl (by decide) ?_
      exact st_told C hle hl hW hP hD hS hroom KK
    · refine lv_tableIn (off := 928) (tgt := 968) hx hb dL_law_40 (by decide) (by decide) rfl (by decide) ?_
      exact st_instead C hle hl hW hP hD hS hroom KK
    · refine lv_tableIn (off := 1047) (tgt := 1087) hx hb dL_law_40 (by decide) (by decide) rfl (by decide) ?_
      exact st_place C hle hl hW hP hD hS hroom KK
    · refine lv_tableIn (off := 1115) (tgt := 1155) hx hb dL_law_40 (by decide) (by decide) rfl (by decide) ?_
      exact st_compare C hle hl hW hP hD hS hroom KK
    · refine lv_tableIn (off := 1195) (tgt := 1235) hx hb dL_law_40 (by decide) (by decide) rfl (by decide) ?_
      exact st_decided C hle hl hW hP hD hS hroom KK
    · refine lv_tableIn (off := 1263) (tgt := 1303) hx hb dL_law_40 (by decide) (by decide) rfl (by decide) ?_
      exact st_decimals C hle hl hW hP hD hS hroom KK
    · refine lv_tableIn (off := 1331) (tgt := 1371) hx hb dL_law_40 (by decide) (by decide) rfl (by decide) ?_
      exact st_decimal C hle hl hW hP hD hS hroom KK
    · refine lv_tableIn (off := 1411) (tgt := 1451) hx hb dL_law_40 (by decide) (by decide) rfl (by decide) ?_
      exact st_quotient C hle hl hW hP hD hS hroom KK
    · refine lv_tableIn (off := 1491) (tgt := 1531) hx hb dL_law_40 (by decide) (by decide) rfl (by decide) ?_
      exact st_next C hle hl hW hP hD hS hroom KK
    · refine lv_tableIn (off := 1547) (tgt := 1587) hx hb dL_law_40 (by decide) (by decide) rfl (by decide) ?_
      exact st_emitted C hle hl hW hP hD hS hroom KK
    · refine lv_tableIn (off := 1603) (tgt := 1643) hx hb dL_law_40 (by decide) (by decide) rfl (by decide) ?_
      exact st_partial C hle hl hW hP hD hS hroom KK
    · refine lv_tableIn (off := 1658) (tgt := 1698) hx hb dL_law_40 (by decide) (by decide) rfl (by decide) ?_
      exact st_restart C hle hl hW hP hD hS hroom KK
    · refine lv_tableIn (off := 1714) (tgt := 1754) hx hb dL_law_40 (by decide) (by decide) rfl (by decide) ?_
      exact st_count C hle hl hW hP hD hS hroom KK
    · refine lv_tableIn (off := 1727) (tgt := 1767) hx hb dL_law_40 (by decide) (by decide) rfl (by decide) ?_
      exact st_needs C hle hl hW hP hD hS hroom KK
    · refine lv_tableOut (tgt := 1823) hx hb dL_law_40 (by decide) (by decide) ?_
      exact W.widen (by omega) (by omega) (KK ws H locs ls hW hP hD hS hl)
    · refine lv_tableOut (tgt := 1823) hx hb dL_law_40 (by decide) (by decide) ?_
      exact W.widen (by omega) (by omega) (KK ws H locs ls hW hP hD hS hl)
    · refine lv_tableOut (tgt := 1823) hx hb dL_law_40 (by decide) (by decide) ?_
      exact W.widen (by omega) (by omega) (KK ws H locs ls hW hP hD hS hl)
    · refine lv_tableOut (tgt := 1823) hx hb dL_law_40 (by decide) (by decide) ?_
      exact W.widen (by omega) (by omega) (KK ws H locs ls hW hP hD hS hl)
    · refine lv_tableOut (tgt := 1823) hx hb dL_law_40 (by decide) (by decide) ?_
      exact W.widen (by omega) (by omega) (KK ws H locs ls hW hP hD hS hl)
    · refine lv_tableOut (tgt := 1823) hx hb dL_law_40 (by decide) (by decide) ?_
      exact W.widen (by omega) (by omega) (KK ws H locs ls hW hP hD hS hl)
    · refine lv_tableOut (tgt := 1823) hx hb dL_law_40 (by decide) (by decide) ?_
      exact W.widen (by omega) (by omega) (KK ws H locs ls hW hP hD hS hl)
    · refine lv_tableOut (tgt := 1823) hx hb dL_law_40 (by decide) (by decide) ?_
      exact W.widen (by omega) (by omega) (KK ws H locs ls hW hP hD hS hl)
