theorem xScr_OW {y : Nat → ClassId} {ad : Nat → Nat} {h : Nat} {q : Nat → Nat} {pa : Nat → Nat → Nat} {S : St} {w1 : va_W} (hw : xScr y ad h q (sN S) pa (sKd S) (sOn S) (sOt S) (sPt S) (sFb S) (sFl S) (sFh S) (sTb S) (sTl S) (sTh S) (sDg S) (sDs S) w1) : OW y ad h S w1 := by
  obtain ⟨b1, l1, r1, b2, l2, r2, b3, l3, r3, uz, ul, uh, f1, g1, f2, g2, e⟩ := hw
  exact ⟨q, pa, b1, l1, r1, b2, l2, r2, b3, l3, r3, uz, ul, uh, f1, g1, f2, g2, e⟩
set_option maxRecDepth 100000 in
theorem e_raw (l : Launch) (hfl : l.stackTraces = false) (D : va_G) (y : Nat → ClassId) (ad : Nat → Nat) {S : St} (hS : SI S) {h : Nat} {w : va_W} (hw : OW y ad h S w) (a b c0 : Int32) (sz : Nat) : Met l yL_does wsL_does ({ frames := 11, cells := 1, slots := 6, locals := 400 } : Room) (gPN D y ad [.ref h, .int 8, .int a, .int b, .int c0] w sz) (gQn D w (fun v w1 => v = some (.long (dRaw S a b (decide (c0 = 1)))) ∧ OW y ad h (S) w1)) 1 6 (va_A w sz) := by
  obtain ⟨fs, he⟩ := hw.head
  have hn := hS.1
  obtain ⟨q, pa, b1, l1, r1, b2, l2, r2, b3, l3, r3, uz, ul, uh, f1, g1, f2, g2, rfl⟩ := hw
  unfold dRaw
  rcases ok_c (n := sN S) (by omega) a with ⟨k, hk, rfl, ck, ik⟩ | ⟨ck, bk⟩
  · rw [if_pos ck, ik]
    rcases ok_c (n := 25) (by decide) b with ⟨p, hp, rfl, cp, ip⟩ | ⟨cp, bp⟩
    · rw [if_pos cp, ip]
      by_cases c3 : sp_X6_load_b1 (sFb S k) (sFl S k) (sFh S k) p
      · rw [if_pos c3]
        exact dn_raw he rfl (fun sz => g_mono (c_X7_raw_0 l hfl D y ad sz h q (sN S) b1 l1 r1 b2 l2 r2 b3 l3 r3 uz ul uh f1 g1 f2 g2 pa (sKd S) (sOn S) (sOt S) (sPt S) (sFb S) (sFl S) (sFh S) (sTb S) (sTl S) (sTh S) (sDg S) (sDs S) k p _ hn hk hp c3) (Nat.le_refl _) (Nat.le_refl _) (Nat.le_refl _) (Nat.le_refl _) (Nat.le_refl _) (Nat.le_refl _) (fun _ z => z) (fun _ _ _ _ hP hQ => a_s (a_Q hP hQ) (fun v w1 h9 => ⟨h9.1, xScr_OW h9.2⟩))) rfl rfl ⟨Nat.le_of_ble_eq_true rfl, Nat.le_of_ble_eq_true rfl⟩ ⟨Nat.le_of_ble_eq_true rfl, Nat.le_of_ble_eq_true rfl⟩ sz
      · rw [if_neg c3]
        exact dt_raw he rfl (Or.inr (Or.inr rfl)) (fun sz => g_monoX (c_X7_raw_X3 l hfl D y ad sz h q (sN S) b1 l1 r1 b2 l2 r2 b3 l3 r3 uz ul uh f1 g1 f2 g2 pa (sKd S) (sOn S) (sOt S) (sPt S) (sFb S) (sFl S) (sFh S) (sTb S) (sTl S) (sTh S) (sDg S) (sDs S) k p _ hn hk hp c3) (Nat.le_refl _) (Nat.le_refl _) (Nat.le_refl _) (Nat.le_refl _) (Nat.le_refl _) (Nat.le_refl _) (fun _ _ _ h8 => a_x (fun w1 h9 => xScr_OW h9) h8)) rfl rfl ⟨Nat.le_of_ble_eq_true rfl, Nat.le_of_ble_eq_true rfl⟩ ⟨Nat.le_of_ble_eq_true rfl, Nat.le_of_ble_eq_true rfl⟩ sz
    · rw [if_neg (by rw [cp]; decide)]
      have bp := ok_l (M := 24) (by decide) (by decide) bp
      exact dt_raw he rfl (Or.inr (Or.inl rfl)) (fun sz => g_monoX (c_X7_raw_X2 l hfl D y ad sz h q (sN S) b1 l1 r1 b2 l2 r2 b3 l3 r3 uz ul uh f1 g1 f2 g2 pa (sKd S) (sOn S) (sOt S) (sPt S) (sFb S) (sFl S) (sFh S) (sTb S) (sTl S) (sTh S) (sDg S) (sDs S) k b _ hn hk bp) (Nat.le_refl _) (Nat.le_refl _) (Nat.le_refl _) (Nat.le_refl _) (Nat.le_refl _) (Nat.le_refl _) (fun _ _ _ h8 => a_x (fun w1 h9 => xScr_OW h9) h8)) rfl rfl ⟨Nat.le_of_ble_eq_true rfl, Nat.le_of_ble_eq_true rfl⟩ ⟨Nat.le_of_ble_eq_true rfl, Nat.le_of_ble_eq_true rfl⟩ sz
  · rw [if_neg (by rw [ck]; decide)]
    exact dt_raw he rfl (Or.inl rfl) (fun sz => g_monoX (c_X7_raw_X1 l hfl D y ad sz h q (sN S) b1 l1 r1 b2 l2 r2 b3 l3 r3 uz ul uh f1 g1 f2 g2 pa (sKd S) (sOn S) (sOt S) (sPt S) (sFb S) (sFl S) (sFh S) (sTb S) (sTl S) (sTh S) (sDg S) (sDs S) a b _ bk) (Nat.le_refl _) (Nat.le_refl _) (Nat.le_refl _) (Nat.le_refl _) (Nat.le_refl _) (Nat.le_refl _) (fun _ _ _ h8 => a_x (fun w1 h9 => xScr_OW h9) h8)) rfl rfl ⟨Nat.le_of_ble_eq_true rfl, Nat.le_of_ble_eq_true rfl⟩ ⟨Nat.le_of_ble_eq_true rfl, Nat.le_of_ble_eq_true rfl⟩ sz
set_option maxRecDepth 100000 in
theorem e_told (l : Launch) (hfl : l.stackTraces = false) (D : va_G) (y : Nat → ClassId) (ad : Nat → Nat) {S : St} (hS : SI S) {h : Nat} {w : va_W} (hw : OW y ad h S w) (a b c0 : Int32) (sz : Nat) : Met l yL_does wsL_does ({ frames := 11, cells := 1, slots := 6, locals := 400 } : Room) (gPN D y ad [.ref h, .int 9, .int a, .int b, .int c0] w sz) (gQn D w (fun v w1 => v = some (.long (dTold S a b (decide (c0 = 1)))) ∧ OW y ad h (S) w1)) 1 6 (va_A w sz) := by
  obtain ⟨fs, he⟩ := hw.head
  have hn := hS.1
  obtain ⟨q, pa, b1, l1, r1, b2, l2, r2, b3, l3, r3, uz, ul, uh, f1, g1, f2, g2, rfl⟩ := hw
  unfold dTold
  rcases ok_c (n := sN S) (by omega) a with ⟨k, hk, rfl, ck, ik⟩ | ⟨ck, bk⟩
  · rw [if_pos ck, ik]
    rcases ok_c (n := 25) (by decide) b with ⟨p, hp, rfl, cp, ip⟩ | ⟨cp, bp⟩
    · rw [if_pos cp, ip]
      by_cases c3 : sp_X6_load_b1 (sTb S k) (sTl S k) (sTh S k) p
      · rw [if_pos c3]
        exact dn_told he rfl (fun sz => g_mono (c_X7_told_0 l hfl D y ad sz h q (sN S) b1 l1 r1 b2 l2 r2 b3 l3 r3 uz ul uh f1 g1 f2 g2 pa (sKd S) (sOn S) (sOt S) (sPt S) (sFb S) (sFl S) (sFh S) (sTb S) (sTl S) (sTh S) (sDg S) (sDs S) k p _ hn hk hp c3) (Nat.le_refl _) (Nat.le_refl _) (Nat.le_refl _) (Nat.le_refl _) (Nat.le_refl _) (Nat.le_refl _) (fun _ z => z) (fun _ _ _ _ hP hQ => a_s (a_Q hP hQ) (fun v w1 h9 => ⟨h9.1, xScr_OW h9.2⟩))) rfl rfl ⟨Nat.le_of_ble_eq_true rfl, Nat.le_of_ble_eq_true rfl⟩ ⟨Nat.le_of_ble_eq_true rfl, Nat.le_of_ble_eq_true rfl⟩ sz
      · rw [if_neg c3]
        exact dt_told he rfl (Or.inr (Or.inr rfl)) (fun sz => g_monoX (c_X7_told_X3 l hfl D y ad sz h q (sN S) b1 l1 r1 b2 l2 r2 b3 l3 r3 uz ul uh f1 g1 f2 g2 pa (sKd S) (sOn S) (sOt S) (sPt S) (sFb S) (sFl S) (sFh S) (sTb S) (sTl S) (sTh S) (sDg S) (sDs S) k p _ hn hk hp c3) (Nat.le_refl _) (Nat.le_refl _) (Nat.le_refl _) (Nat.le_refl _) (Nat.le_refl _) (Nat.le_refl _) (fun _ _ _ h8 => a_x (fun w1 h9 => xScr_OW h9) h8)) rfl rfl ⟨Nat.le_of_ble_eq_true rfl, Nat.le_of_ble_eq_true rfl⟩ ⟨Nat.le_of_ble_eq_true rfl, Nat.le_of_ble_eq_true rfl⟩ sz
    · rw [if_neg (by rw [cp]; decide)]
      have bp := ok_l (M := 24) (by decide) (by decide) bp
      exact dt_told he rfl (Or.inr (Or.inl rfl)) (fun sz => g_monoX (c_X7_told_X2 l hfl D y ad sz h q (sN S) b1 l1 r1 b2 l2 r2 b3 l3 r3 uz ul uh f1 g1 f2 g2 pa (sKd S) (sOn S) (sOt S) (sPt S) (sFb S) (sFl S) (sFh S) (sTb S) (sTl S) (sTh S) (sDg S) (sDs S) k b _ hn hk bp) (Nat.le_refl _) (Nat.le_refl _) (Nat.le_refl _) (Nat.le_refl _) (Nat.le_refl _) (Nat.le_refl _) (fun _ _ _ h8 => a_x (fun w1 h9 => xScr_OW h9) h8)) rfl rfl ⟨Nat.le_of_ble_eq_true rfl, Nat.le_of_ble_eq_true rfl⟩ ⟨Nat.le_of_ble_eq_true rfl, Nat.le_of_ble_eq_true rfl⟩ sz
  · rw [if_neg (by rw [ck]; decide)]
    exact dt_told he rfl (Or.inl rfl) (fun sz => g_monoX (c_X7_told_X1 l hfl D y ad sz h q (sN S) b1 l1 r1 b2 l2 r2 b3 l3 r3 uz ul uh f1 g1 f2 g2 pa (sKd S) (sOn S) (sOt S) (sPt S) (sFb S) (sFl S) (sFh S) (sTb S) (sTl S) (sTh S) (sDg S) (sDs S) a b _ bk) (Nat.le_refl _) (Nat.le_refl _) (Nat.le_refl _) (Nat.le_refl _) (Nat.le_refl _) (Nat.le_refl _) (fun _ _ _ h8 => a_x (fun w1 h9 => xScr_OW h9) h8)) rfl rfl ⟨Nat.le_of_ble_eq_true rfl, Nat.le_of_ble_eq_true rfl⟩ ⟨Nat.le_of_ble_eq_true rfl, Nat.le_of_ble_eq_true rfl⟩ sz
set_option maxRecDepth 100000 in
theorem e_compare (l : Launch) (hfl : l.stackTraces = false) (D : va_G) (y : Nat → ClassId) (ad : Nat → Nat) {S : St} (hS : SI S) {h : Nat} {w : va_W} (hw : OW y ad h S w) (a b c0 : Int32) (sz : Nat) : Met l yL_does wsL_does ({ frames := 11, cells := 1, slots := 6, locals := 400 } : Room) (gPN D y ad [.ref h, .int 11, .int a, .int b, .int c0] w sz) (gQn D w (fun v w1 => v = some (.long (dComp S a b c0)) ∧ OW y ad h (S) w1)) 1 6 (va_A w sz) := by
  obtain ⟨fs, he⟩ := hw.head
  have hn := hS.1
  obtain ⟨q, pa, b1, l1, r1, b2, l2, r2, b3, l3, r3, uz, ul, uh, f1, g1, f2, g2, rfl⟩ := hw
  unfold dComp
  rcases ok_c (n := sN S) (by omega) a with ⟨k, hk, rfl, ck, ik⟩ | ⟨ck, bk⟩
  · rw [if_pos ck, ik]
    rcases ok_c (n := sN S) (by omega) b with ⟨j, hj, rfl, cj, ij⟩ | ⟨cj, bj⟩
    · rw [if_pos cj, ij]
      rcases ok_c (n := 25) (by decide) c0 with ⟨p, hp, rfl, cp, ip⟩ | ⟨cp, bp⟩
      · rw [if_pos cp, ip]
        exact dn_compare he (fun sz => g_mono (c_X7_compare_0 l hfl D y ad sz h q (sN S) b1 l1 r1 b2 l2 r2 b3 l3 r3 uz ul uh f1 g1 f2 g2 pa (sKd S) (sOn S) (sOt S) (sPt S) (sFb S) (sFl S) (sFh S) (sTb S) (sTl S) (sTh S) (sDg S) (sDs S) k j p hn hk hj hp) (Nat.le_refl _) (Nat.le_refl _) (Nat.le_refl _) (Nat.le_refl _) (Nat.le_refl _) (Nat.le_refl _) (fun _ z => z) (fun _ _ _ _ hP hQ => a_s (a_Q hP hQ) (fun v w1 h9 => ⟨h9.1, xScr_OW h9.2⟩))) rfl rfl ⟨Nat.le_of_ble_eq_true rfl, Nat.le_of_ble_eq_true rfl⟩ ⟨Nat.le_of_ble_eq_true rfl, Nat.le_of_ble_eq_true rfl⟩ sz
      · rw [if_neg (by rw [cp]; decide)]
        have bp := ok_l (M := 24) (by decide) (by decide) bp
        exact dt_compare he (Or.inr (Or.inl rfl)) (fun sz => g_monoX (c_X7_compare_X2 l hfl D y ad sz h q (sN S) b1 l1 r1 b2 l2 r2 b3 l3 r3 uz ul uh f1 g1 f2 g2 pa (sKd S) (sOn S) (sOt S) (sPt S) (sFb S) (sFl S) (sFh S) (sTb S) (sTl S) (sTh S) (sDg S) (sDs S) k j c0 hn hk hj bp) (Nat.le_refl _) (Nat.le_refl _) (Nat.le_refl _) (Nat.le_refl _) (Nat.le_refl _) (Nat.le_refl _) (fun _ _ _ h8 => a_x (fun w1 h9 => by rw [h9]; exact ⟨q, pa, b1, l1, r1, b2, l2, r2, b3, l3, r3, uz, ul, uh, f1, g1, f2, g2, rfl⟩) h8)) rfl rfl ⟨Nat.le_of_ble_eq_true rfl, Nat.le_of_ble_eq_true rfl⟩ ⟨Nat.le_of_ble_eq_true rfl, Nat.le_of_ble_eq_true rfl⟩ sz
    · rw [if_neg (by rw [cj]; decide)]
      exact dt_compare he (Or.inl rfl) (fun sz => g_monoX (c_X7_compare_X1b l hfl D y ad sz h q (sN S) b1 l1 r1 b2 l2 r2 b3 l3 r3 uz ul uh f1 g1 f2 g2 pa (sKd S) (sOn S) (sOt S) (sPt S) (sFb S) (sFl S) (sFh S) (sTb S) (sTl S) (sTh S) (sDg S) (sDs S) k b c0 hn hk bj) (Nat.le_refl _) (Nat.le_refl _) (Nat.le_refl _) (Nat.le_refl _) (Nat.le_refl _) (Nat.le_refl _) (fun _ _ _ h8 => a_x (fun w1 h9 => by rw [h9]; exact ⟨q, pa, b1, l1, r1, b2, l2, r2, b3, l3, r3, uz, ul, uh, f1, g1, f2, g2, rfl⟩) h8)) rfl rfl ⟨Nat.le_of_ble_eq_true rfl, Nat.le_of_ble_eq_true rfl⟩ ⟨Nat.le_of_ble_eq_true rfl, Nat.le_of_ble_eq_true rfl⟩ sz
  · rw [if_neg (by rw [ck]; decide)]
    exact dt_compare he (Or.inl rfl) (fun sz => g_monoX (c_X7_compare_X1a l hfl D y ad sz h q (sN S) b1 l1 r1 b2 l2 r2 b3 l3 r3 uz ul uh f1 g1 f2 g2 pa (sKd S) (sOn S) (sOt S) (sPt S) (sFb S) (sFl S) (sFh S) (sTb S) (sTl S) (sTh S) (sDg S) (sDs S) a b c0 bk) (Nat.le_refl _) (Nat.le_refl _) (Nat.le_refl _) (Nat.le_refl _) (Nat.le_refl _) (Nat.le_refl _) (fun _ _ _ h8 => a_x (fun w1 h9 => by rw [h9]; exact ⟨q, pa, b1, l1, r1, b2, l2, r2, b3, l3, r3, uz, ul, uh, f1, g1, f2, g2, rfl⟩) h8)) rfl rfl ⟨Nat.le_of_ble_eq_true rfl, Nat.le_of_ble_eq_true rfl⟩ ⟨Nat.le_of_ble_eq_true rfl, Nat.le_of_ble_eq_true rfl⟩ sz
set_option maxRecDepth 100000 in
theorem e_decimals (l : Launch) (hfl : l.stackTraces = false) (D : va_G) (y : Nat → ClassId) (ad : Nat → Nat) {S : St} (hS : SI S) {h : Nat} {w : va_W} (hw : OW y ad h S w) (a b c0 : Int32) (sz : Nat) : Met l yL_does wsL_does ({ frames := 11, cells := 1, slots := 6, locals := 400 } : Room) (gPN D y ad [.ref h, .int 13, .int a, .int b, .int c0] w sz) (gQn D w (fun v w1 => v = some (.long (dDecs S a b)) ∧ OW y ad h (S) w1)) 1 6 (va_A w sz) := by
  obtain ⟨fs, he⟩ := hw.head
  have hn := hS.1
  obtain ⟨q, pa, b1, l1, r1, b2, l2, r2, b3, l3, r3, uz, ul, uh, f1, g1, f2, g2, rfl⟩ := hw
  unfold dDecs
  rcases ok_c (n := sN S) (by omega) a with ⟨k, hk, rfl, ck, ik⟩ | ⟨ck, bk⟩
  · rw [if_pos ck, ik]
    rcases ok_c (n := 25) (by decide) b with ⟨p, hp, rfl, cp, ip⟩ | ⟨cp, bp⟩
    · rw [if_pos cp, ip]
      exact dn_decimals he (fun sz => g_mono (c_X7_decimals_0 l hfl D y ad sz h q (sN S) b1 l1 r1 b2 l2 r2 b3 l3 r3 uz ul uh f1 g1 f2 g2 pa (sKd S) (sOn S) (sOt S) (sPt S) (sFb S) (sFl S) (sFh S) (sTb S) (sTl S) (sTh S) (sDg S) (sDs S) k p hn hk hp) (Nat.le_refl _) (Nat.le_refl _) (Nat.le_refl _) (Nat.le_refl _) (Nat.le_refl _) (Nat.le_refl _) (fun _ z => z) (fun _ _ _ _ hP hQ => a_s (a_Q hP hQ) (fun v w1 h9 => ⟨h9.1, xScr_OW h9.2⟩))) rfl rfl ⟨Nat.le_of_ble_eq_true rfl, Nat.le_of_ble_eq_true rfl⟩ ⟨Nat.le_of_ble_eq_true rfl, Nat.le_of_ble_eq_true rfl⟩ sz
    · rw [if_neg (by rw [cp]; decide)]
      have bp := ok_l (M := 24) (by decide) (by decide) bp
      exact dt_decimals he (Or.inr (Or.inl rfl)) (fun sz => g_monoX (c_X7_decimals_X2 l hfl D y ad sz h q (sN S) b1 l1 r1 b2 l2 r2 b3 l3 r3 uz ul uh f1 g1 f2 g2 pa (sKd S) (sOn S) (sOt S) (sPt S) (sFb S) (sFl S) (sFh S) (sTb S) (sTl S) (sTh S) (sDg S) (sDs S) k b hn hk bp) (Nat.le_refl _) (Nat.le_refl _) (Nat.le_refl _) (Nat.le_refl _) (Nat.le_refl _) (Nat.le_refl _) (fun _ _ _ h8 => a_x (fun w1 h9 => xScr_OW h9) h8)) rfl rfl ⟨Nat.le_of_ble_eq_true rfl, Nat.le_of_ble_eq_true rfl⟩ ⟨Nat.le_of_ble_eq_true rfl, Nat.le_of_ble_eq_true rfl⟩ sz
  · rw [if_neg (by rw [ck]; decide)]
    exact dt_decimals he (Or.inl rfl) (fun sz => g_monoX (c_X7_decimals_X1 l hfl D y ad sz h q (sN S) b1 l1 r1 b2 l2 r2 b3 l3 r3 uz ul uh f1 g1 f2 g2 pa (sKd S) (sOn S) (sOt S) (sPt S) (sFb S) (sFl S) (sFh S) (sTb S) (sTl S) (sTh S) (sDg S) (sDs S) a b bk) (Nat.le_refl _) (Nat.le_refl _) (Nat.le_refl _) (Nat.le_refl _) (Nat.le_refl _) (Nat.le_refl _) (fun _ _ _ h8 => a_x (fun w1 h9 => xScr_OW h9) h8)) rfl rfl ⟨Nat.le_of_ble_eq_true rfl, Nat.le_of_ble_eq_true rfl⟩ ⟨Nat.le_of_ble_eq_true rfl, Nat.le_of_ble_eq_true rfl⟩ sz
set_option maxRecDepth 100000 in
theorem e_decimal (l : Launch) (hfl : l.stackTraces = false) (D : va_G) (y : Nat → ClassId) (ad : Nat → Nat) {S : St} (hS : SI S) {h : Nat} {w : va_W} (hw : OW y ad h S w) (a b c0 : Int32) (sz : Nat) : Met l yL_does wsL_does ({ frames := 11, cells := 1, slots := 6, locals := 400 } : Room) (gPN D y ad [.ref h, .int 14, .int a, .int b, .int c0] w sz) (gQn D w (fun v w1 => v = some (.long (dDec S a b c0)) ∧ OW y ad h (S) w1)) 1 6 (va_A w sz) := by
  obtain ⟨fs, he⟩ := hw.head
  have hn := hS.1
  obtain ⟨q, pa, b1, l1, r1, b2, l2, r2, b3, l3, r3, uz, ul, uh, f1, g1, f2, g2, rfl⟩ := hw
  unfold dDec
  rcases ok_c (n := sN S) (by omega) a with ⟨k, hk, rfl, ck, ik⟩ | ⟨ck, bk⟩
  · rw [if_pos ck, ik]
    rcases ok_c (n := 25) (by decide) b with ⟨p, hp, rfl, cp, ip⟩ | ⟨cp, bp⟩
    · rw [if_pos cp, ip]
      rcases ok_c (n := 8) (by decide) c0 with ⟨d, hd, rfl, cd, id⟩ | ⟨cd, bd⟩
      · rw [if_pos cd, id]
        by_cases c3 : nI d ≤ vSd S k p
        · rw [if_pos c3]
          exact dn_decimal he (fun sz => g_mono (c_X7_decimal_0 l hfl D y ad sz h q (sN S) b1 l1 r1 b2 l2 r2 b3 l3 r3 uz ul uh f1 g1 f2 g2 pa (sKd S) (sOn S) (sOt S) (sPt S) (sFb S) (sFl S) (sFh S) (sTb S) (sTl S) (sTh S) (sDg S) (sDs S) k p d hn hk hp hd c3) (Nat.le_refl _) (Nat.le_refl _) (Nat.le_refl _) (Nat.le_refl _) (Nat.le_refl _) (Nat.le_refl _) (fun _ z => z) (fun _ _ _ _ hP hQ => a_s (a_Q hP hQ) (fun v w1 h9 => ⟨h9.1, xScr_OW h9.2⟩))) rfl rfl ⟨Nat.le_of_ble_eq_true rfl, Nat.le_of_ble_eq_true rfl⟩ ⟨Nat.le_of_ble_eq_true rfl, Nat.le_of_ble_eq_true rfl⟩ sz
        · rw [if_neg c3]
          exact dt_decimal he (Or.inr (Or.inr rfl)) (fun sz => g_monoX (c_X7_decimal_X3 l hfl D y ad sz h q (sN S) b1 l1 r1 b2 l2 r2 b3 l3 r3 uz ul uh f1 g1 f2 g2 pa (sKd S) (sOn S) (sOt S) (sPt S) (sFb S) (sFl S) (sFh S) (sTb S) (sTl S) (sTh S) (sDg S) (sDs S) k p d hn hk hp hd c3) (Nat.le_refl _) (Nat.le_refl _) (Nat.le_refl _) (Nat.le_refl _) (Nat.le_refl _) (Nat.le_refl _) (fun _ _ _ h8 => a_x (fun w1 h9 => xScr_OW h9) h8)) rfl rfl ⟨Nat.le_of_ble_eq_true rfl, Nat.le_of_ble_eq_true rfl⟩ ⟨Nat.le_of_ble_eq_true rfl, Nat.le_of_ble_eq_true rfl⟩ sz
      · rw [if_neg (by rw [cd]; decide)]
        have bd := ok_l (M := 7) (by decide) (by decide) bd
        exact dt_decimal he (Or.inr (Or.inl rfl)) (fun sz => g_monoX (c_X7_decimal_X2b l hfl D y ad sz h q (sN S) b1 l1 r1 b2 l2 r2 b3 l3 r3 uz ul uh f1 g1 f2 g2 pa (sKd S) (sOn S) (sOt S) (sPt S) (sFb S) (sFl S) (sFh S) (sTb S) (sTl S) (sTh S) (sDg S) (sDs S) k p c0 hn hk hp bd) (Nat.le_refl _) (Nat.le_refl _) (Nat.le_refl _) (Nat.le_refl _) (Nat.le_refl _) (Nat.le_refl _) (fun _ _ _ h8 => a_x (fun w1 h9 => xScr_OW h9) h8)) rfl rfl ⟨Nat.le_of_ble_eq_true rfl, Nat.le_of_ble_eq_true rfl⟩ ⟨Nat.le_of_ble_eq_true rfl, Nat.le_of_ble_eq_true rfl⟩ sz
    · rw [if_neg (by rw [cp]; decide)]
      have bp := ok_l (M := 24) (by decide) (by decide) bp
      exact dt_decimal he (Or.inr (Or.inl rfl)) (fun sz => g_monoX (c_X7_decimal_X2 l hfl D y ad sz h q (sN S) b1 l1 r1 b2 l2 r2 b3 l3 r3 uz ul uh f1 g1 f2 g2 pa (sKd S) (sOn S) (sOt S) (sPt S) (sFb S) (sFl S) (sFh S) (sTb S) (sTl S) (sTh S) (sDg S) (sDs S) k b c0 hn hk bp) (Nat.le_refl _) (Nat.le_refl _) (Nat.le_refl _) (Nat.le_refl _) (Nat.le_refl _) (Nat.le_refl _) (fun _ _ _ h8 => a_x (fun w1 h9 => xScr_OW h9) h8)) rfl rfl ⟨Nat.le_of_ble_eq_true rfl, Nat.le_of_ble_eq_true rfl⟩ ⟨Nat.le_of_ble_eq_true rfl, Nat.le_of_ble_eq_true rfl⟩ sz
  · rw [if_neg (by rw [ck]; decide)]
    exact dt_decimal he (Or.inl rfl) (fun sz => g_monoX (c_X7_decimal_X1 l hfl D y ad sz h q (sN S) b1 l1 r1 b2 l2 r2 b3 l3 r3 uz ul uh f1 g1 f2 g2 pa (sKd S) (sOn S) (sOt S) (sPt S) (sFb S) (sFl S) (sFh S) (sTb S) (sTl S) (sTh S) (sDg S) (sDs S) a b c0 bk) (Nat.le_refl _) (Nat.le_refl _) (Nat.le_refl _) (Nat.le_refl _) (Nat.le_refl _) (Nat.le_refl _) (fun _ _ _ h8 => a_x (fun w1 h9 => xScr_OW h9) h8)) rfl rfl ⟨Nat.le_of_ble_eq_true rfl, Nat.le_of_ble_eq_true rfl⟩ ⟨Nat.le_of_ble_eq_true rfl, Nat.le_of_ble_eq_true rfl⟩ sz
set_option maxRecDepth 100000 in
theorem e_quotient (l : Launch) (hfl : l.stackTraces = false) (D : va_G) (y : Nat → ClassId) (ad : Nat → Nat) {S : St} (hS : SI S) {h : Nat} {w : va_W} (hw : OW y ad h S w) (a b c0 : Int32) (sz : Nat) : Met l yL_does wsL_does ({ frames := 11, cells := 1, slots := 6, locals := 400 } : Room) (gPN D y ad [.ref h, .int 15, .int a, .int b, .int c0] w sz) (gQn D w (fun v w1 => v = some (.long (dQuo S a b c0)) ∧ OW y ad h (S) w1)) 1 6 (va_A w sz) := by
  obtain ⟨fs, he⟩ := hw.head
  have hn := hS.1
  obtain ⟨q, pa, b1, l1, r1, b2, l2, r2, b3, l3, r3, uz, ul, uh, f1, g1, f2, g2, rfl⟩ := hw
  unfold dQuo
  rcases ok_c (n := sN S) (by omega) a with ⟨k, hk, rfl, ck, ik⟩ | ⟨ck, bk⟩
  · rw [if_pos ck, ik]
    rcases ok_c (n := 25) (by decide) b with ⟨p, hp, rfl, cp, ip⟩ | ⟨cp, bp⟩
    · rw [if_pos cp, ip]
      rcases ok_c (n := 25) (by decide) c0 with ⟨d, hd, rfl, cd, id⟩ | ⟨cd, bd⟩
      · rw [if_pos cd, id]
        by_cases c3 : sp_X6_load_b1 (sTb S k) (sTl S k) (sTh S k) p = true
        · rw [if_pos c3]
          by_cases c4 : sp_X7_isQuotientSure (vQu S k p d).1 (vQu S k p d).2.1 (vQu S k p d).2.2.1 (vQu S k p d).2.2.2 = true
          · rw [if_pos c4]
            exact dn_quotient he (fun sz => g_mono (c_X7_quotient_0 l hfl D y ad sz h q (sN S) b1 l1 r1 b2 l2 r2 b3 l3 r3 uz ul uh f1 g1 f2 g2 pa (sKd S) (sOn S) (sOt S) (sPt S) (sFb S) (sFl S) (sFh S) (sTb S) (sTl S) (sTh S) (sDg S) (sDs S) k p d hn hk hp hd c3 c4) (Nat.le_refl _) (Nat.le_refl _) (Nat.le_refl _) (Nat.le_refl _) (Nat.le_refl _) (Nat.le_refl _) (fun _ z => z) (fun _ _ _ _ hP hQ => a_s (a_Q hP hQ) (fun v w1 h9 => ⟨h9.1, xScr_OW h9.2⟩))) rfl rfl ⟨Nat.le_of_ble_eq_true rfl, Nat.le_of_ble_eq_true rfl⟩ ⟨Nat.le_of_ble_eq_true rfl, Nat.le_of_ble_eq_true rfl⟩ sz
          · rw [if_neg c4]
            exact dt_quotient he (Or.inr (Or.inr rfl)) (fun sz => g_monoX (c_X7_quotient_X4 l hfl D y ad sz h q (sN S) b1 l1 r1 b2 l2 r2 b3 l3 r3 uz ul uh f1 g1 f2 g2 pa (sKd S) (sOn S) (sOt S) (sPt S) (sFb S) (sFl S) (sFh S) (sTb S) (sTl S) (sTh S) (sDg S) (sDs S) k p d hn hk hp hd c3 c4) (Nat.le_refl _) (Nat.le_refl _) (Nat.le_refl _) (Nat.le_refl _) (Nat.le_refl _) (Nat.le_refl _) (fun _ _ _ h8 => a_x (fun w1 h9 => xScr_OW h9) h8)) rfl rfl ⟨Nat.le_of_ble_eq_true rfl, Nat.le_of_ble_eq_true rfl⟩ ⟨Nat.le_of_ble_eq_true rfl, Nat.le_of_ble_eq_true rfl⟩ sz
        · rw [if_neg c3]
          exact dt_quotient he (Or.inr (Or.inr rfl)) (fun sz => g_monoX (c_X7_quotient_X3 l hfl D y ad sz h q (sN S) b1 l1 r1 b2 l2 r2 b3 l3 r3 uz ul uh f1 g1 f2 g2 pa (sKd S) (sOn S) (sOt S) (sPt S) (sFb S) (sFl S) (sFh S) (sTb S) (sTl S) (sTh S) (sDg S) (sDs S) k p d hn hk hp hd c3) (Nat.le_refl _) (Nat.le_refl _) (Nat.le_refl _) (Nat.le_refl _) (Nat.le_refl _) (Nat.le_refl _) (fun _ _ _ h8 => a_x (fun w1 h9 => xScr_OW h9) h8)) rfl rfl ⟨Nat.le_of_ble_eq_true rfl, Nat.le_of_ble_eq_true rfl⟩ ⟨Nat.le_of_ble_eq_true rfl, Nat.le_of_ble_eq_true rfl⟩ sz
      · rw [if_neg (by rw [cd]; decide)]
        have bd := ok_l (M := 24) (by decide) (by decide) bd
        exact dt_quotient he (Or.inr (Or.inl rfl)) (fun sz => g_monoX (c_X7_quotient_X2b l hfl D y ad sz h q (sN S) b1 l1 r1 b2 l2 r2 b3 l3 r3 uz ul uh f1 g1 f2 g2 pa (sKd S) (sOn S) (sOt S) (sPt S) (sFb S) (sFl S) (sFh S) (sTb S) (sTl S) (sTh S) (sDg S) (sDs S) k p c0 hn hk hp bd) (Nat.le_refl _) (Nat.le_refl _) (Nat.le_refl _) (Nat.le_refl _) (Nat.le_refl _) (Nat.le_refl _) (fun _ _ _ h8 => a_x (fun w1 h9 => xScr_OW h9) h8)) rfl rfl ⟨Nat.le_of_ble_eq_true rfl, Nat.le_of_ble_eq_true rfl⟩ ⟨Nat.le_of_ble_eq_true rfl, Nat.le_of_ble_eq_true rfl⟩ sz
    · rw [if_neg (by rw [cp]; decide)]
      have bp := ok_l (M := 24) (by decide) (by decide) bp
      exact dt_quotient he (Or.inr (Or.inl rfl)) (fun sz => g_monoX (c_X7_quotient_X2 l hfl D y ad sz h q (sN S) b1 l1 r1 b2 l2 r2 b3 l3 r3 uz ul uh f1 g1 f2 g2 pa (sKd S) (sOn S) (sOt S) (sPt S) (sFb S) (sFl S) (sFh S) (sTb S) (sTl S) (sTh S) (sDg S) (sDs S) k b c0 hn hk bp) (Nat.le_refl _) (Nat.le_refl _) (Nat.le_refl _) (Nat.le_refl _) (Nat.le_refl _) (Nat.le_refl _) (fun _ _ _ h8 => a_x (fun w1 h9 => xScr_OW h9) h8)) rfl rfl ⟨Nat.le_of_ble_eq_true rfl, Nat.le_of_ble_eq_true rfl⟩ ⟨Nat.le_of_ble_eq_true rfl, Nat.le_of_ble_eq_true rfl⟩ sz
  · rw [if_neg (by rw [ck]; decide)]
    exact dt_quotient he (Or.inl rfl) (fun sz => g_monoX (c_X7_quotient_X1 l hfl D y ad sz h q (sN S) b1 l1 r1 b2 l2 r2 b3 l3 r3 uz ul uh f1 g1 f2 g2 pa (sKd S) (sOn S) (sOt S) (sPt S) (sFb S) (sFl S) (sFh S) (sTb S) (sTl S) (sTh S) (sDg S) (sDs S) a b c0 bk) (Nat.le_refl _) (Nat.le_refl _) (Nat.le_refl _) (Nat.le_refl _) (Nat.le_refl _) (Nat.le_refl _) (fun _ _ _ h8 => a_x (fun w1 h9 => xScr_OW h9) h8)) rfl rfl ⟨Nat.le_of_ble_eq_true rfl, Nat.le_of_ble_eq_true rfl⟩ ⟨Nat.le_of_ble_eq_true rfl, Nat.le_of_ble_eq_true rfl⟩ sz
set_option maxRecDepth 100000 in
theorem e_next (l : Launch) (hfl : l.stackTraces = false) (D : va_G) (y : Nat → ClassId) (ad : Nat → Nat) {S : St} (hS : SI S) {h : Nat} {w : va_W} (hw : OW y ad h S w) (a b c0 : Int32) (sz : Nat) : Met l yL_does wsL_does ({ frames := 11, cells := 1, slots := 6, locals := 400 } : Room) (gPN D y ad [.ref h, .int 16, .int a, .int b, .int c0] w sz) (gQn D w (fun v w1 => v = some (.long ((dNext S a).1)) ∧ OW y ad h ((dNext S a).2) w1)) 1 6 (va_A w sz) := by
  obtain ⟨fs, he⟩ := hw.head
  have hn := hS.1
  obtain ⟨q, pa, b1, l1, r1, b2, l2, r2, b3, l3, r3, uz, ul, uh, f1, g1, f2, g2, rfl⟩ := hw
  unfold dNext
  rcases ok_c (n := sN S) (by omega) a with ⟨k, hk, rfl, ck, ik⟩ | ⟨ck, bk⟩
  · rw [if_pos ck, ik]
    obtain ⟨d, hd, e1, -⟩ := (hS.2 k hk).2.2
    have i9 : ix (sDg S k) = d := by rw [e1]; exact ix_nI (by omega)
    by_cases c3 : ix (sDg S k) < 24
    · rw [if_pos c3]
      rw [i9] at c3
      by_cases c4 : vNx S k = 2
      · rw [if_pos c4]
        unfold vNx at c4
        rw [i9] at c4
        exact dt_next he (Or.inr (Or.inr rfl)) (fun sz => g_monoX (c_X7_next_X3 l hfl D y ad sz h q (sN S) b1 l1 r1 b2 l2 r2 b3 l3 r3 uz ul uh f1 g1 f2 g2 pa (sKd S) (sOn S) (sOt S) (sPt S) (sFb S) (sFl S) (sFh S) (sTb S) (sTl S) (sTh S) (sDg S) (sDs S) k d hn hk e1 c3 c4) (Nat.le_refl _) (Nat.le_refl _) (Nat.le_refl _) (Nat.le_refl _) (Nat.le_refl _) (Nat.le_refl _) (fun _ _ _ h8 => a_x (fun w1 h9 => xScr_OW h9) h8)) rfl rfl ⟨Nat.le_of_ble_eq_true rfl, Nat.le_of_ble_eq_true rfl⟩ ⟨Nat.le_of_ble_eq_true rfl, Nat.le_of_ble_eq_true rfl⟩ sz
      · rw [if_neg c4]
        unfold vNx at c4 ⊢
        rw [i9] at c4 ⊢
        exact dn_next he (fun sz => g_mono (c_X7_next_0 l hfl D y ad sz h q (sN S) b1 l1 r1 b2 l2 r2 b3 l3 r3 uz ul uh f1 g1 f2 g2 pa (sKd S) (sOn S) (sOt S) (sPt S) (sFb S) (sFl S) (sFh S) (sTb S) (sTl S) (sTh S) (sDg S) (sDs S) k d hn hk e1 c3 c4) (Nat.le_refl _) (Nat.le_refl _) (Nat.le_refl _) (Nat.le_refl _) (Nat.le_refl _) (Nat.le_refl _) (fun _ z => z) (fun _ _ _ _ hP hQ => a_s (a_Q hP hQ) (fun v w1 h9 => ⟨h9.1, xScr_OW h9.2⟩))) rfl rfl ⟨Nat.le_of_ble_eq_true rfl, Nat.le_of_ble_eq_true rfl⟩ ⟨Nat.le_of_ble_eq_true rfl, Nat.le_of_ble_eq_true rfl⟩ sz
    · rw [if_neg c3]
      rw [i9] at c3
      have c6 : d = 24 := by omega
      have c5 : ¬ sDg S k < 24 := by rw [e1, c6]; decide
      exact dt_next he (Or.inr (Or.inr rfl)) (fun sz => g_monoX (c_X7_next_X2 l hfl D y ad sz h q (sN S) b1 l1 r1 b2 l2 r2 b3 l3 r3 uz ul uh f1 g1 f2 g2 pa (sKd S) (sOn S) (sOt S) (sPt S) (sFb S) (sFl S) (sFh S) (sTb S) (sTl S) (sTh S) (sDg S) (sDs S) k hn hk c5) (Nat.le_refl _) (Nat.le_refl _) (Nat.le_refl _) (Nat.le_refl _) (Nat.le_refl _) (Nat.le_refl _) (fun _ _ _ h8 => a_x (fun w1 h9 => by rw [h9]; exact ⟨q, pa, b1, l1, r1, b2, l2, r2, b3, l3, r3, uz, ul, uh, f1, g1, f2, g2, rfl⟩) h8)) rfl rfl ⟨Nat.le_of_ble_eq_true rfl, Nat.le_of_ble_eq_true rfl⟩ ⟨Nat.le_of_ble_eq_true rfl, Nat.le_of_ble_eq_true rfl⟩ sz
  · rw [if_neg (by rw [ck]; decide)]
    exact dt_next he (Or.inl rfl) (fun sz => g_monoX (c_X7_next_X1 l hfl D y ad sz h q (sN S) b1 l1 r1 b2 l2 r2 b3 l3 r3 uz ul uh f1 g1 f2 g2 pa (sKd S) (sOn S) (sOt S) (sPt S) (sFb S) (sFl S) (sFh S) (sTb S) (sTl S) (sTh S) (sDg S) (sDs S) a bk) (Nat.le_refl _) (Nat.le_refl _) (Nat.le_refl _) (Nat.le_refl _) (Nat.le_refl _) (Nat.le_refl _) (fun _ _ _ h8 => a_x (fun w1 h9 => by rw [h9]; exact ⟨q, pa, b1, l1, r1, b2, l2, r2, b3, l3, r3, uz, ul, uh, f1, g1, f2, g2, rfl⟩) h8)) rfl rfl ⟨Nat.le_of_ble_eq_true rfl, Nat.le_of_ble_eq_true rfl⟩ ⟨Nat.le_of_ble_eq_true rfl, Nat.le_of_ble_eq_true rfl⟩ sz
set_option maxRecDepth 100000 in
theorem e_emitted (l : Launch) (hfl : l.stackTraces = false) (D : va_G) (y : Nat → ClassId) (ad : Nat → Nat) {S : St} (hS : SI S) {h : Nat} {w : va_W} (hw : OW y ad h S w) (a b c0 : Int32) (sz : Nat) : Met l yL_does wsL_does ({ frames := 11, cells := 1, slots := 6, locals := 400 } : Room) (gPN D y ad [.ref h, .int 17, .int a, .int b, .int c0] w sz) (gQn D w (fun v w1 => v = some (.long (dEmi S a)) ∧ OW y ad h (S) w1)) 1 6 (va_A w sz) := by
  obtain ⟨fs, he⟩ := hw.head
  have hn := hS.1
  obtain ⟨q, pa, b1, l1, r1, b2, l2, r2, b3, l3, r3, uz, ul, uh, f1, g1, f2, g2, rfl⟩ := hw
  unfold dEmi
  rcases ok_c (n := sN S) (by omega) a with ⟨k, hk, rfl, ck, ik⟩ | ⟨ck, bk⟩
  · rw [if_pos ck, ik]
    exact dn_emitted he (fun sz => g_mono (c_X7_emitted_0 l hfl D y ad sz h q (sN S) b1 l1 r1 b2 l2 r2 b3 l3 r3 uz ul uh f1 g1 f2 g2 pa (sKd S) (sOn S) (sOt S) (sPt S) (sFb S) (sFl S) (sFh S) (sTb S) (sTl S) (sTh S) (sDg S) (sDs S) k hn hk) (Nat.le_refl _) (Nat.le_refl _) (Nat.le_refl _) (Nat.le_refl _) (Nat.le_refl _) (Nat.le_refl _) (fun _ z => z.elim) (fun _ _ _ _ hP hQ => a_s (a_R hP hQ) (fun v w1 h9 => ⟨h9.1, by rw [h9.2]; exact ⟨q, pa, b1, l1, r1, b2, l2, r2, b3, l3, r3, uz, ul, uh, f1, g1, f2, g2, rfl⟩⟩))) rfl rfl ⟨Nat.le_of_ble_eq_true rfl, Nat.le_of_ble_eq_true rfl⟩ ⟨Nat.le_of_ble_eq_true rfl, Nat.le_of_ble_eq_true rfl⟩ sz
  · rw [if_neg (by rw [ck]; decide)]
    exact dt_emitted he (Or.inl rfl) (fun sz => g_monoX (c_X7_emitted_X1 l hfl D y ad sz h q (sN S) b1 l1 r1 b2 l2 r2 b3 l3 r3 uz ul uh f1 g1 f2 g2 pa (sKd S) (sOn S) (sOt S) (sPt S) (sFb S) (sFl S) (sFh S) (sTb S) (sTl S) (sTh S) (sDg S) (sDs S) a bk) (Nat.le_refl _) (Nat.le_refl _) (Nat.le_refl _) (Nat.le_refl _) (Nat.le_refl _) (Nat.le_refl _) (fun _ _ _ h8 => a_x (fun w1 h9 => by rw [h9]; exact ⟨q, pa, b1, l1, r1, b2, l2, r2, b3, l3, r3, uz, ul, uh, f1, g1, f2, g2, rfl⟩) h8)) rfl rfl ⟨Nat.le_of_ble_eq_true rfl, Nat.le_of_ble_eq_true rfl⟩ ⟨Nat.le_of_ble_eq_true rfl, Nat.le_of_ble_eq_true rfl⟩ sz
set_option maxRecDepth 100000 in
theorem e_partial (l : Launch) (hfl : l.stackTraces = false) (D : va_G) (y : Nat → ClassId) (ad : Nat → Nat) {S : St} (hS : SI S) {h : Nat} {w : va_W} (hw : OW y ad h S w) (a b c0 : Int32) (sz : Nat) : Met l yL_does wsL_does ({ frames := 11, cells := 1, slots := 6, locals := 400 } : Room) (gPN D y ad [.ref h, .int 18, .int a, .int b, .int c0] w sz) (gQn D w (fun v w1 => v = some (.long (dPar S a)) ∧ OW y ad h (S) w1)) 1 6 (va_A w sz) := by
  obtain ⟨fs, he⟩ := hw.head
  have hn := hS.1
  obtain ⟨q, pa, b1, l1, r1, b2, l2, r2, b3, l3, r3, uz, ul, uh, f1, g1, f2, g2, rfl⟩ := hw
  unfold dPar
  rcases ok_c (n := sN S) (by omega) a with ⟨k, hk, rfl, ck, ik⟩ | ⟨ck, bk⟩
  · rw [if_pos ck, ik]
    exact dn_partial he (fun sz => g_mono (c_X7_partial_0 l hfl D y ad sz h q (sN S) b1 l1 r1 b2 l2 r2 b3 l3 r3 uz ul uh f1 g1 f2 g2 pa (sKd S) (sOn S) (sOt S) (sPt S) (sFb S) (sFl S) (sFh S) (sTb S) (sTl S) (sTh S) (sDg S) (sDs S) k hn hk) (Nat.le_refl _) (Nat.le_refl _) (Nat.le_refl _) (Nat.le_refl _) (Nat.le_refl _) (Nat.le_refl _) (fun _ z => z.elim) (fun _ _ _ _ hP hQ => a_s (a_R hP hQ) (fun v w1 h9 => ⟨h9.1, by rw [h9.2]; exact ⟨q, pa, b1, l1, r1, b2, l2, r2, b3, l3, r3, uz, ul, uh, f1, g1, f2, g2, rfl⟩⟩))) rfl rfl ⟨Nat.le_of_ble_eq_true rfl, Nat.le_of_ble_eq_true rfl⟩ ⟨Nat.le_of_ble_eq_true rfl, Nat.le_of_ble_eq_true rfl⟩ sz
  · rw [if_neg (by rw [ck]; decide)]
    exact dt_partial he (Or.inl rfl) (fun sz => g_monoX (c_X7_partial_X1 l hfl D y ad sz h q (sN S) b1 l1 r1 b2 l2 r2 b3 l3 r3 uz ul uh f1 g1 f2 g2 pa (sKd S) (sOn S) (sOt S) (sPt S) (sFb S) (sFl S) (sFh S) (sTb S) (sTl S) (sTh S) (sDg S) (sDs S) a bk) (Nat.le_refl _) (Nat.le_refl _) (Nat.le_refl _) (Nat.le_refl _) (Nat.le_refl _) (Nat.le_refl _) (fun _ _ _ h8 => a_x (fun w1 h9 => by rw [h9]; exact ⟨q, pa, b1, l1, r1, b2, l2, r2, b3, l3, r3, uz, ul, uh, f1, g1, f2, g2, rfl⟩) h8)) rfl rfl ⟨Nat.le_of_ble_eq_true rfl, Nat.le_of_ble_eq_true rfl⟩ ⟨Nat.le_of_ble_eq_true rfl, Nat.le_of_ble_eq_true rfl⟩ sz
set_option maxRecDepth 100000 in
theorem e_restart (l : Launch) (hfl : l.stackTraces = false) (D : va_G) (y : Nat → ClassId) (ad : Nat → Nat) {S : St} (hS : SI S) {h : Nat} {w : va_W} (hw : OW y ad h S w) (a b c0 : Int32) (sz : Nat) : Met l yL_does wsL_does ({ frames := 11, cells := 1, slots := 6, locals := 400 } : Room) (gPN D y ad [.ref h, .int 19, .int a, .int b, .int c0] w sz) (gQn D w (fun v w1 => v = some (.long ((dRes S a).1)) ∧ OW y ad h ((dRes S a).2) w1)) 1 6 (va_A w sz) := by
  obtain ⟨fs, he⟩ := hw.head
  have hn := hS.1
  obtain ⟨q, pa, b1, l1, r1, b2, l2, r2, b3, l3, r3, uz, ul, uh, f1, g1, f2, g2, rfl⟩ := hw
  unfold dRes
  rcases ok_c (n := sN S) (by omega) a with ⟨k, hk, rfl, ck, ik⟩ | ⟨ck, bk⟩
  · rw [if_pos ck, ik]
    exact dn_restart he (fun sz => g_mono (c_X7_restart_0 l hfl D y ad sz h q (sN S) b1 l1 r1 b2 l2 r2 b3 l3 r3 uz ul uh f1 g1 f2 g2 pa (sKd S) (sOn S) (sOt S) (sPt S) (sFb S) (sFl S) (sFh S) (sTb S) (sTl S) (sTh S) (sDg S) (sDs S) k hn hk) (Nat.le_refl _) (Nat.le_refl _) (Nat.le_refl _) (Nat.le_refl _) (Nat.le_refl _) (Nat.le_refl _) (fun _ z => z) (fun _ _ _ _ hP hQ => a_s (a_Q hP hQ) (fun v w1 h9 => ⟨h9.1, by rw [h9.2]; exact ⟨q, pa, b1, l1, r1, b2, l2, r2, b3, l3, r3, uz, ul, uh, f1, g1, f2, g2, rfl⟩⟩))) rfl rfl ⟨Nat.le_of_ble_eq_true rfl, Nat.le_of_ble_eq_true rfl⟩ ⟨Nat.le_of_ble_eq_true rfl, Nat.le_of_ble_eq_true rfl⟩ sz
  · rw [if_neg (by rw [ck]; decide)]
    exact dt_restart he (Or.inl rfl) (fun sz => g_monoX (c_X7_restart_X1 l hfl D y ad sz h q (sN S) b1 l1 r1 b2 l2 r2 b3 l3 r3 uz ul uh f1 g1 f2 g2 pa (sKd S) (sOn S) (sOt S) (sPt S) (sFb S) (sFl S) (sFh S) (sTb S) (sTl S) (sTh S) (sDg S) (sDs S) a bk) (Nat.le_refl _) (Nat.le_refl _) (Nat.le_refl _) (Nat.le_refl _) (Nat.le_refl _) (Nat.le_refl _) (fun _ _ _ h8 => a_x (fun w1 h9 => by rw [h9]; exact ⟨q, pa, b1, l1, r1, b2, l2, r2, b3, l3, r3, uz, ul, uh, f1, g1, f2, g2, rfl⟩) h8)) rfl rfl ⟨Nat.le_of_ble_eq_true rfl, Nat.le_of_ble_eq_true rfl⟩ ⟨Nat.le_of_ble_eq_true rfl, Nat.le_of_ble_eq_true rfl⟩ sz
set_option maxRecDepth 100000 in
theorem e_needs (l : Launch) (hfl : l.stackTraces = false) (D : va_G) (y : Nat → ClassId) (ad : Nat → Nat) {S : St} (hS : SI S) {h : Nat} {w : va_W} (hw : OW y ad h S w) (a b c0 : Int32) (sz : Nat) : Met l yL_does wsL_does ({ frames := 11, cells := 1, slots := 6, locals := 400 } : Room) (gPN D y ad [.ref h, .int 20, .int a, .int b, .int c0] w sz) (gQn D w (fun v w1 => v = some (.long (dNeed S a)) ∧ OW y ad h (S) w1)) 1 6 (va_A w sz) := by
  obtain ⟨fs, he⟩ := hw.head
  have hn := hS.1
  obtain ⟨q, pa, b1, l1, r1, b2, l2, r2, b3, l3, r3, uz, ul, uh, f1, g1, f2, g2, rfl⟩ := hw
  unfold dNeed
  rcases ok_c (n := sN S) (by omega) a with ⟨k, hk, rfl, ck, ik⟩ | ⟨ck, bk⟩
  · rw [if_pos ck, ik]
    exact dn_needs he (fun sz => g_mono (c_X7_needs_0 l hfl D y ad sz h q (sN S) b1 l1 r1 b2 l2 r2 b3 l3 r3 uz ul uh f1 g1 f2 g2 pa (sKd S) (sOn S) (sOt S) (sPt S) (sFb S) (sFl S) (sFh S) (sTb S) (sTl S) (sTh S) (sDg S) (sDs S) k hn hk) (Nat.le_refl _) (Nat.le_refl _) (Nat.le_refl _) (Nat.le_refl _) (Nat.le_refl _) (Nat.le_refl _) (fun _ z => z.elim) (fun _ _ _ _ hP hQ => a_s (a_R hP hQ) (fun v w1 h9 => ⟨h9.1, by rw [h9.2]; exact ⟨q, pa, b1, l1, r1, b2, l2, r2, b3, l3, r3, uz, ul, uh, f1, g1, f2, g2, rfl⟩⟩))) rfl rfl ⟨Nat.le_of_ble_eq_true rfl, Nat.le_of_ble_eq_true rfl⟩ ⟨Nat.le_of_ble_eq_true rfl, Nat.le_of_ble_eq_true rfl⟩ sz
  · rw [if_neg (by rw [ck]; decide)]
    exact dt_needs he (Or.inl rfl) (fun sz => g_monoX (c_X7_needs_X1 l hfl D y ad sz h q (sN S) b1 l1 r1 b2 l2 r2 b3 l3 r3 uz ul uh f1 g1 f2 g2 pa (sKd S) (sOn S) (sOt S) (sPt S) (sFb S) (sFl S) (sFh S) (sTb S) (sTl S) (sTh S) (sDg S) (sDs S) a bk) (Nat.le_refl _) (Nat.le_refl _) (Nat.le_refl _) (Nat.le_refl _) (Nat.le_refl _) (Nat.le_refl _) (fun _ _ _ h8 => a_x (fun w1 h9 => by rw [h9]; exact ⟨q, pa, b1, l1, r1, b2, l2, r2, b3, l3, r3, uz, ul, uh, f1, g1, f2, g2, rfl⟩) h8)) rfl rfl ⟨Nat.le_of_ble_eq_true rfl, Nat.le_of_ble_eq_true rfl⟩ ⟨Nat.le_of_ble_eq_true rfl, Nat.le_of_ble_eq_true rfl⟩ sz
set_option maxRecDepth 100000 in
theorem e_ratio (l : Launch) (hfl : l.stackTraces = false) (D : va_G) (y : Nat → ClassId) (ad : Nat → Nat) {S : St} (hS : SI S) {h : Nat} {w : va_W} (hw : OW y ad h S w) (a b c0 : Int32) (sz : Nat) : Met l yL_does wsL_does ({ frames := 11, cells := 9, slots := 164, locals := 400 } : Room) (gPN D y ad [.ref h, .int 0, .int a, .int b, .int c0] w sz) (gQn D w (fun v w1 => v = some (.long (dRat S a b).1) ∧ OW y ad h (dRat S a b).2 w1)) 9 164 (va_A w sz) := by
  obtain ⟨fs, he⟩ := hw.head
  have hn := hS.1
  obtain ⟨q, pa, b1, l1, r1, b2, l2, r2, b3, l3, r3, uz, ul, uh, f1, g1, f2, g2, rfl⟩ := hw
  unfold dRat
  by_cases c1 : a < -1000 ∨ ¬ a ≤ 1000
  · rw [if_pos c1]
    exact dt_made (by decide) (Or.inr (Or.inl rfl)) (mt_ratio he (fun sz => g_monoX (c_X7_ratio_X1a l hfl D y ad sz h q (sN S) b1 l1 r1 b2 l2 r2 b3 l3 r3 uz ul uh f1 g1 f2 g2 pa (sKd S) (sOn S) (sOt S) (sPt S) (sFb S) (sFl S) (sFh S) (sTb S) (sTl S) (sTh S) (sDg S) (sDs S) a b c1) (Nat.le_refl _) (Nat.le_refl _) (Nat.le_refl _) (Nat.le_refl _) (Nat.le_refl _) (Nat.le_refl _) (fun _ _ _ h8 => a_x (fun w1 h9 => by rw [h9]; exact ⟨q, pa, b1, l1, r1, b2, l2, r2, b3, l3, r3, uz, ul, uh, f1, g1, f2, g2, rfl⟩) h8)) rfl rfl ⟨Nat.le_of_ble_eq_true rfl, Nat.le_of_ble_eq_true rfl⟩) sz
  · rw [if_neg c1]
    by_cases c2 : b < 1 ∨ ¬ b ≤ 1000
    · rw [if_pos c2]
      exact dt_made (by decide) (Or.inr (Or.inl rfl)) (mt_ratio he (fun sz => g_monoX (c_X7_ratio_X1b l hfl D y ad sz h q (sN S) b1 l1 r1 b2 l2 r2 b3 l3 r3 uz ul uh f1 g1 f2 g2 pa (sKd S) (sOn S) (sOt S) (sPt S) (sFb S) (sFl S) (sFh S) (sTb S) (sTl S) (sTh S) (sDg S) (sDs S) a b (fun z => c1 (Or.inl z)) (Classical.not_not.mp (fun z => c1 (Or.inr z))) c2) (Nat.le_refl _) (Nat.le_refl _) (Nat.le_refl _) (Nat.le_refl _) (Nat.le_refl _) (Nat.le_refl _) (fun _ _ _ h8 => a_x (fun w1 h9 => by rw [h9]; exact ⟨q, pa, b1, l1, r1, b2, l2, r2, b3, l3, r3, uz, ul, uh, f1, g1, f2, g2, rfl⟩) h8)) rfl rfl ⟨Nat.le_of_ble_eq_true rfl, Nat.le_of_ble_eq_true rfl⟩) sz
    · rw [if_neg c2]
      by_cases c3 : sN S < 40
      · rw [if_pos c3]
        exact dn_made (by decide) (mn_ratio he (fun sz => g_mono (c_X7_ratio_0 l hfl D y ad sz h q (sN S) b1 l1 r1 b2 l2 r2 b3 l3 r3 uz ul uh f1 g1 f2 g2 pa (sKd S) (sOn S) (sOt S) (sPt S) (sFb S) (sFl S) (sFh S) (sTb S) (sTl S) (sTh S) (sDg S) (sDs S) a b (fun z => c1 (Or.inl z)) (Classical.not_not.mp (fun z => c1 (Or.inr z))) (fun z => c2 (Or.inl z)) (Classical.not_not.mp (fun z => c2 (Or.inr z))) c3) (Nat.le_refl _) (Nat.le_refl _) (Nat.le_refl _) (Nat.le_refl _) (Nat.le_refl _) (Nat.le_refl _) (fun _ z => z) (fun _ _ _ _ hP hQ => a_n hQ (fun v w1 h9 => by
          obtain ⟨yb1, yl1, yr1, yb2, yl2, yr2, yb3, yl3, yr3, yuz, yul, yuh, yf1, yg1, yf2, yg2, nan, fbn, fln, fhn, tbn, tln, thn, hv9, hw9, hF9, hT9⟩ := h9
          obtain ⟨w2, u1, u2, u3⟩ := a_push (D := D) (S := S) hF9 hT9 hw9
          exact ⟨w2, ⟨hv9, u1⟩, u2, u3⟩))) rfl rfl ⟨Nat.le_of_ble_eq_true rfl, Nat.le_of_ble_eq_true rfl⟩ ⟨Nat.le_of_ble_eq_true rfl, Nat.le_of_ble_eq_true rfl⟩) sz
      · rw [if_neg c3]
        exact dt_made (by decide) (Or.inr (Or.inr rfl)) (mt_ratio he (fun sz => g_monoX (c_X7_ratio_X2 l hfl D y ad sz h q (sN S) b1 l1 r1 b2 l2 r2 b3 l3 r3 uz ul uh f1 g1 f2 g2 pa (sKd S) (sOn S) (sOt S) (sPt S) (sFb S) (sFl S) (sFh S) (sTb S) (sTl S) (sTh S) (sDg S) (sDs S) a b (fun z => c1 (Or.inl z)) (Classical.not_not.mp (fun z => c1 (Or.inr z))) (fun z => c2 (Or.inl z)) (Classical.not_not.mp (fun z => c2 (Or.inr z))) c3 hn) (Nat.le_refl _) (Nat.le_refl _) (Nat.le_refl _) (Nat.le_refl _) (Nat.le_refl _) (Nat.le_refl _) (fun _ _ _ h8 => a_x (fun w1 h9 => by rw [h9]; exact ⟨q, pa, b1, l1, r1, b2, l2, r2, b3, l3, r3, uz, ul, uh, f1, g1, f2, g2, rfl⟩) h8)) rfl rfl ⟨Nat.le_of_ble_eq_true rfl, Nat.le_of_ble_eq_true rfl⟩) sz
set_option maxRecDepth 100000 in
theorem e_sum (l : Launch) (hfl : l.stackTraces = false) (D : va_G) (y : Nat → ClassId) (ad : Nat → Nat) {S : St} (hS : SI S) {h : Nat} {w : va_W} (hw : OW y ad h S w) (a b c0 : Int32) (sz : Nat) : Met l yL_does wsL_does ({ frames := 11, cells := 9, slots := 164, locals := 400 } : Room) (gPN D y ad [.ref h, .int 1, .int a, .int b, .int c0] w sz) (gQn D w (fun v w1 => v = some (.long (dMake S 1 a b).1) ∧ OW y ad h (dMake S 1 a b).2 w1)) 9 164 (va_A w sz) := by
  obtain ⟨fs, he⟩ := hw.head
  have hn := hS.1
  obtain ⟨q, pa, b1, l1, r1, b2, l2, r2, b3, l3, r3, uz, ul, uh, f1, g1, f2, g2, rfl⟩ := hw
  unfold dMake
  rcases ok_c (n := sN S) (by omega) a with ⟨k, hk, rfl, ck, ik⟩ | ⟨ck, bk⟩
  · rw [if_pos ck, ik]
    rcases ok_c (n := sN S) (by omega) b with ⟨j, hj, rfl, cj, ij⟩ | ⟨cj, bj⟩
    · rw [if_pos cj, ij]
      by_cases c3 : sN S < 40
      · rw [if_pos c3]
        exact dn_made (by decide) (mn_sum he (fun sz => g_mono (c_X7_sum_0 l hfl D y ad sz h q (sN S) b1 l1 r1 b2 l2 r2 b3 l3 r3 uz ul uh f1 g1 f2 g2 pa (sKd S) (sOn S) (sOt S) (sPt S) (sFb S) (sFl S) (sFh S) (sTb S) (sTl S) (sTh S) (sDg S) (sDs S) k j c3 hk hj) (Nat.le_refl _) (Nat.le_refl _) (Nat.le_refl _) (Nat.le_refl _) (Nat.le_refl _) (Nat.le_refl _) (fun _ z => z) (fun _ _ _ _ hP hQ => a_n hQ (fun v w1 h9 => by
          obtain ⟨yb1, yl1, yr1, yb2, yl2, yr2, yb3, yl3, yr3, yuz, yul, yuh, yf1, yg1, yf2, yg2, nan, fbn, fln, fhn, tbn, tln, thn, hv9, hw9, hF9, hT9⟩ := h9
          obtain ⟨w2, u1, u2, u3⟩ := a_push (D := D) (S := S) hF9 hT9 hw9
          exact ⟨w2, ⟨hv9, u1⟩, u2, u3⟩))) rfl rfl ⟨Nat.le_of_ble_eq_true rfl, Nat.le_of_ble_eq_true rfl⟩ ⟨Nat.le_of_ble_eq_true rfl, Nat.le_of_ble_eq_true rfl⟩) sz
      · rw [if_neg c3]
        exact dt_made (by decide) (Or.inr (Or.inr rfl)) (mt_sum he (fun sz => g_monoX (c_X7_sum_X2 l hfl D y ad sz h q (sN S) b1 l1 r1 b2 l2 r2 b3 l3 r3 uz ul uh f1 g1 f2 g2 pa (sKd S) (sOn S) (sOt S) (sPt S) (sFb S) (sFl S) (sFh S) (sTb S) (sTl S) (sTh S) (sDg S) (sDs S) k j hn hk hj c3) (Nat.le_refl _) (Nat.le_refl _) (Nat.le_refl _) (Nat.le_refl _) (Nat.le_refl _) (Nat.le_refl _) (fun _ _ _ h8 => a_x (fun w1 h9 => by rw [h9]; exact ⟨q, pa, b1, l1, r1, b2, l2, r2, b3, l3, r3, uz, ul, uh, f1, g1, f2, g2, rfl⟩) h8)) rfl rfl ⟨Nat.le_of_ble_eq_true rfl, Nat.le_of_ble_eq_true rfl⟩) sz
    · rw [if_neg (by rw [cj]; decide)]
      exact dt_made (by decide) (Or.inl rfl) (mt_sum he (fun sz => g_monoX (c_X7_sum_X1b l hfl D y ad sz h q (sN S) b1 l1 r1 b2 l2 r2 b3 l3 r3 uz ul uh f1 g1 f2 g2 pa (sKd S) (sOn S) (sOt S) (sPt S) (sFb S) (sFl S) (sFh S) (sTb S) (sTl S) (sTh S) (sDg S) (sDs S) k b hn hk bj) (Nat.le_refl _) (Nat.le_refl _) (Nat.le_refl _) (Nat.le_refl _) (Nat.le_refl _) (Nat.le_refl _) (fun _ _ _ h8 => a_x (fun w1 h9 => by rw [h9]; exact ⟨q, pa, b1, l1, r1, b2, l2, r2, b3, l3, r3, uz, ul, uh, f1, g1, f2, g2, rfl⟩) h8)) rfl rfl ⟨Nat.le_of_ble_eq_true rfl, Nat.le_of_ble_eq_true rfl⟩) sz
  · rw [if_neg (by rw [ck]; decide)]
    exact dt_made (by decide) (Or.inl rfl) (mt_sum he (fun sz => g_monoX (c_X7_sum_X1a l hfl D y ad sz h q (sN S) b1 l1 r1 b2 l2 r2 b3 l3 r3 uz ul uh f1 g1 f2 g2 pa (sKd S) (sOn S) (sOt S) (sPt S) (sFb S) (sFl S) (sFh S) (sTb S) (sTl S) (sTh S) (sDg S) (sDs S) a b bk) (Nat.le_refl _) (Nat.le_refl _) (Nat.le_refl _) (Nat.le_refl _) (Nat.le_refl _) (Nat.le_refl _) (fun _ _ _ h8 => a_x (fun w1 h9 => by rw [h9]; exact ⟨q, pa, b1, l1, r1, b2, l2, r2, b3, l3, r3, uz, ul, uh, f1, g1, f2, g2, rfl⟩) h8)) rfl rfl ⟨Nat.le_of_ble_eq_true rfl, Nat.le_of_ble_eq_true rfl⟩) sz
set_option maxRecDepth 100000 in
theorem e_difference (l : Launch) (hfl : l.stackTraces = false) (D : va_G) (y : Nat → ClassId) (ad : Nat → Nat) {S : St} (hS : SI S) {h : Nat} {w : va_W} (hw : OW y ad h S w) (a b c0 : Int32) (sz : Nat) : Met l yL_does wsL_does ({ frames := 11, cells := 9, slots := 164, locals := 400 } : Room) (gPN D y ad [.ref h, .int 2, .int a, .int b, .int c0] w sz) (gQn D w (fun v w1 => v = some (.long (dMake S 2 a b).1) ∧ OW y ad h (dMake S 2 a b).2 w1)) 9 164 (va_A w sz) := by
  obtain ⟨fs, he⟩ := hw.head
  have hn := hS.1
  obtain ⟨q, pa, b1, l1, r1, b2, l2, r2, b3, l3, r3, uz, ul, uh, f1, g1, f2, g2, rfl⟩ := hw
  unfold dMake
  rcases ok_c (n := sN S) (by omega) a with ⟨k, hk, rfl, ck, ik⟩ | ⟨ck, bk⟩
  · rw [if_pos ck, ik]
    rcases ok_c (n := sN S) (by omega) b with ⟨j, hj, rfl, cj, ij⟩ | ⟨cj, bj⟩
    · rw [if_pos cj, ij]
      by_cases c3 : sN S < 40
      · rw [if_pos c3]
        exact dn_made (by decide) (mn_difference he (fun sz => g_mono (c_X7_difference_0 l hfl D y ad sz h q (sN S) b1 l1 r1 b2 l2 r2 b3 l3 r3 uz ul uh f1 g1 f2 g2 pa (sKd S) (sOn S) (sOt S) (sPt S) (sFb S) (sFl S) (sFh S) (sTb S) (sTl S) (sTh S) (sDg S) (sDs S) k j c3 hk hj) (Nat.le_refl _) (Nat.le_refl _) (Nat.le_refl _) (Nat.le_refl _) (Nat.le_refl _) (Nat.le_refl _) (fun _ z => z) (fun _ _ _ _ hP hQ => a_n hQ (fun v w1 h9 => by
          obtain ⟨yb1, yl1, yr1, yb2, yl2, yr2, yb3, yl3, yr3, yuz, yul, yuh, yf1, yg1, yf2, yg2, nan, fbn, fln, fhn, tbn, tln, thn, hv9, hw9, hF9, hT9⟩ := h9
          obtain ⟨w2, u1, u2, u3⟩ := a_push (D := D) (S := S) hF9 hT9 hw9
          exact ⟨w2, ⟨hv9, u1⟩, u2, u3⟩))) rfl rfl ⟨Nat.le_of_ble_eq_true rfl, Nat.le_of_ble_eq_true rfl⟩ ⟨Nat.le_of_ble_eq_true rfl, Nat.le_of_ble_eq_true rfl⟩) sz
      · rw [if_neg c3]
        exact dt_made (by decide) (Or.inr (Or.inr rfl)) (mt_difference he (fun sz => g_monoX (c_X7_difference_X2 l hfl D y ad sz h q (sN S) b1 l1 r1 b2 l2 r2 b3 l3 r3 uz ul uh f1 g1 f2 g2 pa (sKd S) (sOn S) (sOt S) (sPt S) (sFb S) (sFl S) (sFh S) (sTb S) (sTl S) (sTh S) (sDg S) (sDs S) k j hn hk hj c3) (Nat.le_refl _) (Nat.le_refl _) (Nat.le_refl _) (Nat.le_refl _) (Nat.le_refl _) (Nat.le_refl _) (fun _ _ _ h8 => a_x (fun w1 h9 => by rw [h9]; exact ⟨q, pa, b1, l1, r1, b2, l2, r2, b3, l3, r3, uz, ul, uh, f1, g1, f2, g2, rfl⟩) h8)) rfl rfl ⟨Nat.le_of_ble_eq_true rfl, Nat.le_of_ble_eq_true rfl⟩) sz
    · rw [if_neg (by rw [cj]; decide)]
      exact dt_made (by decide) (Or.inl rfl) (mt_difference he (fun sz => g_monoX (c_X7_difference_X1b l hfl D y ad sz h q (sN S) b1 l1 r1 b2 l2 r2 b3 l3 r3 uz ul uh f1 g1 f2 g2 pa (sKd S) (sOn S) (sOt S) (sPt S) (sFb S) (sFl S) (sFh S) (sTb S) (sTl S) (sTh S) (sDg S) (sDs S) k b hn hk bj) (Nat.le_refl _) (Nat.le_refl _) (Nat.le_refl _) (Nat.le_refl _) (Nat.le_refl _) (Nat.le_refl _) (fun _ _ _ h8 => a_x (fun w1 h9 => by rw [h9]; exact ⟨q, pa, b1, l1, r1, b2, l2, r2, b3, l3, r3, uz, ul, uh, f1, g1, f2, g2, rfl⟩) h8)) rfl rfl ⟨Nat.le_of_ble_eq_true rfl, Nat.le_of_ble_eq_true rfl⟩) sz
  · rw [if_neg (by rw [ck]; decide)]
    exact dt_made (by decide) (Or.inl rfl) (mt_difference he (fun sz => g_monoX (c_X7_difference_X1a l hfl D y ad sz h q (sN S) b1 l1 r1 b2 l2 r2 b3 l3 r3 uz ul uh f1 g1 f2 g2 pa (sKd S) (sOn S) (sOt S) (sPt S) (sFb S) (sFl S) (sFh S) (sTb S) (sTl S) (sTh S) (sDg S) (sDs S) a b bk) (Nat.le_refl _) (Nat.le_refl _) (Nat.le_refl _) (Nat.le_refl _) (Nat.le_refl _) (Nat.le_refl _) (fun _ _ _ h8 => a_x (fun w1 h9 => by rw [h9]; exact ⟨q, pa, b1, l1, r1, b2, l2, r2, b3, l3, r3, uz, ul, uh, f1, g1, f2, g2, rfl⟩) h8)) rfl rfl ⟨Nat.le_of_ble_eq_true rfl, Nat.le_of_ble_eq_true rfl⟩) sz
set_option maxRecDepth 100000 in
theorem e_product (l : Launch) (hfl : l.stackTraces = false) (D : va_G) (y : Nat → ClassId) (ad : Nat → Nat) {S : St} (hS : SI S) {h : Nat} {w : va_W} (hw : OW y ad h S w) (a b c0 : Int32) (sz : Nat) : Met l yL_does wsL_does ({ frames := 11, cells := 9, slots := 164, locals := 400 } : Room) (gPN D y ad [.ref h, .int 3, .int a, .int b, .int c0] w sz) (gQn D w (fun v w1 => v = some (.long (dMake S 3 a b).1) ∧ OW y ad h (dMake S 3 a b).2 w1)) 9 164 (va_A w sz) := by
  obtain ⟨fs, he⟩ := hw.head
  have hn := hS.1
  obtain ⟨q, pa, b1, l1, r1, b2, l2, r2, b3, l3, r3, uz, ul, uh, f1, g1, f2, g2, rfl⟩ := hw
  unfold dMake
  rcases ok_c (n := sN S) (by omega) a with ⟨k, hk, rfl, ck, ik⟩ | ⟨ck, bk⟩
  · rw [if_pos ck, ik]
    rcases ok_c (n := sN S) (by omega) b with ⟨j, hj, rfl, cj, ij⟩ | ⟨cj, bj⟩
    · rw [if_pos cj, ij]
      by_cases c3 : sN S < 40
      · rw [if_pos c3]
        exact dn_made (by decide) (mn_product he (fun sz => g_mono (c_X7_product_0 l hfl D y ad sz h q (sN S) b1 l1 r1 b2 l2 r2 b3 l3 r3 uz ul uh f1 g1 f2 g2 pa (sKd S) (sOn S) (sOt S) (sPt S) (sFb S) (sFl S) (sFh S) (sTb S) (sTl S) (sTh S) (sDg S) (sDs S) k j c3 hk hj) (Nat.le_refl _) (Nat.le_refl _) (Nat.le_refl _) (Nat.le_refl _) (Nat.le_refl _) (Nat.le_refl _) (fun _ z => z) (fun _ _ _ _ hP hQ => a_n hQ (fun v w1 h9 => by
          obtain ⟨yb1, yl1, yr1, yb2, yl2, yr2, yb3, yl3, yr3, yuz, yul, yuh, yf1, yg1, yf2, yg2, nan, fbn, fln, fhn, tbn, tln, thn, hv9, hw9, hF9, hT9⟩ := h9
          obtain ⟨w2, u1, u2, u3⟩ := a_push (D := D) (S := S) hF9 hT9 hw9
          exact ⟨w2, ⟨hv9, u1⟩, u2, u3⟩))) rfl rfl ⟨Nat.le_of_ble_eq_true rfl, Nat.le_of_ble_eq_true rfl⟩ ⟨Nat.le_of_ble_eq_true rfl, Nat.le_of_ble_eq_true rfl⟩) sz
      · rw [if_neg c3]
        exact dt_made (by decide) (Or.inr (Or.inr rfl)) (mt_product he (fun sz => g_monoX (c_X7_product_X2 l hfl D y ad sz h q (sN S) b1 l1 r1 b2 l2 r2 b3 l3 r3 uz ul uh f1 g1 f2 g2 pa (sKd S) (sOn S) (sOt S) (sPt S) (sFb S) (sFl S) (sFh S) (sTb S) (sTl S) (sTh S) (sDg S) (sDs S) k j hn hk hj c3) (Nat.le_refl _) (Nat.le_refl _) (Nat.le_refl _) (Nat.le_refl _) (Nat.le_refl _) (Nat.le_refl _) (fun _ _ _ h8 => a_x (fun w1 h9 => by rw [h9]; exact ⟨q, pa, b1, l1, r1, b2, l2, r2, b3, l3, r3, uz, ul, uh, f1, g1, f2, g2, rfl⟩) h8)) rfl rfl ⟨Nat.le_of_ble_eq_true rfl, Nat.le_of_ble_eq_true rfl⟩) sz
    · rw [if_neg (by rw [cj]; decide)]
      exact dt_made (by decide) (Or.inl rfl) (mt_product he (fun sz => g_monoX (c_X7_product_X1b l hfl D y ad sz h q (sN S) b1 l1 r1 b2 l2 r2 b3 l3 r3 uz ul uh f1 g1 f2 g2 pa (sKd S) (sOn S) (sOt S) (sPt S) (sFb S) (sFl S) (sFh S) (sTb S) (sTl S) (sTh S) (sDg S) (sDs S) k b hn hk bj) (Nat.le_refl _) (Nat.le_refl _) (Nat.le_refl _) (Nat.le_refl _) (Nat.le_refl _) (Nat.le_refl _) (fun _ _ _ h8 => a_x (fun w1 h9 => by rw [h9]; exact ⟨q, pa, b1, l1, r1, b2, l2, r2, b3, l3, r3, uz, ul, uh, f1, g1, f2, g2, rfl⟩) h8)) rfl rfl ⟨Nat.le_of_ble_eq_true rfl, Nat.le_of_ble_eq_true rfl⟩) sz
  · rw [if_neg (by rw [ck]; decide)]
    exact dt_made (by decide) (Or.inl rfl) (mt_product he (fun sz => g_monoX (c_X7_product_X1a l hfl D y ad sz h q (sN S) b1 l1 r1 b2 l2 r2 b3 l3 r3 uz ul uh f1 g1 f2 g2 pa (sKd S) (sOn S) (sOt S) (sPt S) (sFb S) (sFl S) (sFh S) (sTb S) (sTl S) (sTh S) (sDg S) (sDs S) a b bk) (Nat.le_refl _) (Nat.le_refl _) (Nat.le_refl _) (Nat.le_refl _) (Nat.le_refl _) (Nat.le_refl _) (fun _ _ _ h8 => a_x (fun w1 h9 => by rw [h9]; exact ⟨q, pa, b1, l1, r1, b2, l2, r2, b3, l3, r3, uz, ul, uh, f1, g1, f2, g2, rfl⟩) h8)) rfl rfl ⟨Nat.le_of_ble_eq_true rfl, Nat.le_of_ble_eq_true rfl⟩) sz
set_option maxRecDepth 100000 in
theorem e_greater (l : Launch) (hfl : l.stackTraces = false) (D : va_G) (y : Nat → ClassId) (ad : Nat → Nat) {S : St} (hS : SI S) {h : Nat} {w : va_W} (hw : OW y ad h S w) (a b c0 : Int32) (sz : Nat) : Met l yL_does wsL_does ({ frames := 11, cells := 9, slots := 164, locals := 400 } : Room) (gPN D y ad [.ref h, .int 4, .int a, .int b, .int c0] w sz) (gQn D w (fun v w1 => v = some (.long (dMake S 4 a b).1) ∧ OW y ad h (dMake S 4 a b).2 w1)) 9 164 (va_A w sz) := by
  obtain ⟨fs, he⟩ := hw.head
  have hn := hS.1
  obtain ⟨q, pa, b1, l1, r1, b2, l2, r2, b3, l3, r3, uz, ul, uh, f1, g1, f2, g2, rfl⟩ := hw
  unfold dMake
  rcases ok_c (n := sN S) (by omega) a with ⟨k, hk, rfl, ck, ik⟩ | ⟨ck, bk⟩
  · rw [if_pos ck, ik]
    rcases ok_c (n := sN S) (by omega) b with ⟨j, hj, rfl, cj, ij⟩ | ⟨cj, bj⟩
    · rw [if_pos cj, ij]
      by_cases c3 : sN S < 40
      · rw [if_pos c3]
        exact dn_made (by decide) (mn_greater he (fun sz => g_mono (c_X7_greater_0 l hfl D y ad sz h q (sN S) b1 l1 r1 b2 l2 r2 b3 l3 r3 uz ul uh f1 g1 f2 g2 pa (sKd S) (sOn S) (sOt S) (sPt S) (sFb S) (sFl S) (sFh S) (sTb S) (sTl S) (sTh S) (sDg S) (sDs S) k j c3 hk hj) (Nat.le_refl _) (Nat.le_refl _) (Nat.le_refl _) (Nat.le_refl _) (Nat.le_refl _) (Nat.le_refl _) (fun _ z => z) (fun _ _ _ _ hP hQ => a_n hQ (fun v w1 h9 => by
          obtain ⟨yb1, yl1, yr1, yb2, yl2, yr2, yb3, yl3, yr3, yuz, yul, yuh, yf1, yg1, yf2, yg2, nan, fbn, fln, fhn, tbn, tln, thn, hv9, hw9, hF9, hT9⟩ := h9
          obtain ⟨w2, u1, u2, u3⟩ := a_push (D := D) (S := S) hF9 hT9 hw9
          exact ⟨w2, ⟨hv9, u1⟩, u2, u3⟩))) rfl rfl ⟨Nat.le_of_ble_eq_true rfl, Nat.le_of_ble_eq_true rfl⟩ ⟨Nat.le_of_ble_eq_true rfl, Nat.le_of_ble_eq_true rfl⟩) sz
      · rw [if_neg c3]
        exact dt_made (by decide) (Or.inr (Or.inr rfl)) (mt_greater he (fun sz => g_monoX (c_X7_greater_X2 l hfl D y ad sz h q (sN S) b1 l1 r1 b2 l2 r2 b3 l3 r3 uz ul uh f1 g1 f2 g2 pa (sKd S) (sOn S) (sOt S) (sPt S) (sFb S) (sFl S) (sFh S) (sTb S) (sTl S) (sTh S) (sDg S) (sDs S) k j hn hk hj c3) (Nat.le_refl _) (Nat.le_refl _) (Nat.le_refl _) (Nat.le_refl _) (Nat.le_refl _) (Nat.le_refl _) (fun _ _ _ h8 => a_x (fun w1 h9 => by rw [h9]; exact ⟨q, pa, b1, l1, r1, b2, l2, r2, b3, l3, r3, uz, ul, uh, f1, g1, f2, g2, rfl⟩) h8)) rfl rfl ⟨Nat.le_of_ble_eq_true rfl, Nat.le_of_ble_eq_true rfl⟩) sz
    · rw [if_neg (by rw [cj]; decide)]
      exact dt_made (by decide) (Or.inl rfl) (mt_greater he (fun sz => g_monoX (c_X7_greater_X1b l hfl D y ad sz h q (sN S) b1 l1 r1 b2 l2 r2 b3 l3 r3 uz ul uh f1 g1 f2 g2 pa (sKd S) (sOn S) (sOt S) (sPt S) (sFb S) (sFl S) (sFh S) (sTb S) (sTl S) (sTh S) (sDg S) (sDs S) k b hn hk bj) (Nat.le_refl _) (Nat.le_refl _) (Nat.le_refl _) (Nat.le_refl _) (Nat.le_refl _) (Nat.le_refl _) (fun _ _ _ h8 => a_x (fun w1 h9 => by rw [h9]; exact ⟨q, pa, b1, l1, r1, b2, l2, r2, b3, l3, r3, uz, ul, uh, f1, g1, f2, g2, rfl⟩) h8)) rfl rfl ⟨Nat.le_of_ble_eq_true rfl, Nat.le_of_ble_eq_true rfl⟩) sz
  · rw [if_neg (by rw [ck]; decide)]
    exact dt_made (by decide) (Or.inl rfl) (mt_greater he (fun sz => g_monoX (c_X7_greater_X1a l hfl D y ad sz h q (sN S) b1 l1 r1 b2 l2 r2 b3 l3 r3 uz ul uh f1 g1 f2 g2 pa (sKd S) (sOn S) (sOt S) (sPt S) (sFb S) (sFl S) (sFh S) (sTb S) (sTl S) (sTh S) (sDg S) (sDs S) a b bk) (Nat.le_refl _) (Nat.le_refl _) (Nat.le_refl _) (Nat.le_refl _) (Nat.le_refl _) (Nat.le_refl _) (fun _ _ _ h8 => a_x (fun w1 h9 => by rw [h9]; exact ⟨q, pa, b1, l1, r1, b2, l2, r2, b3, l3, r3, uz, ul, uh, f1, g1, f2, g2, rfl⟩) h8)) rfl rfl ⟨Nat.le_of_ble_eq_true rfl, Nat.le_of_ble_eq_true rfl⟩) sz
set_option maxRecDepth 100000 in
theorem e_inverse (l : Launch) (hfl : l.stackTraces = false) (D : va_G) (y : Nat → ClassId) (ad : Nat → Nat) {S : St} (hS : SI S) {h : Nat} {w : va_W} (hw : OW y ad h S w) (a b c0 : Int32) (sz : Nat) : Met l yL_does wsL_does ({ frames := 11, cells := 9, slots := 164, locals := 400 } : Room) (gPN D y ad [.ref h, .int 5, .int a, .int b, .int c0] w sz) (gQn D w (fun v w1 => v = some (.long (dMake S 5 a a).1) ∧ OW y ad h (dMake S 5 a a).2 w1)) 9 164 (va_A w sz) := by
  obtain ⟨fs, he⟩ := hw.head
  have hn := hS.1
  obtain ⟨q, pa, b1, l1, r1, b2, l2, r2, b3, l3, r3, uz, ul, uh, f1, g1, f2, g2, rfl⟩ := hw
  unfold dMake
  rcases ok_c (n := sN S) (by omega) a with ⟨k, hk, rfl, ck, ik⟩ | ⟨ck, bk⟩
  · rw [if_pos ck, ik]
    rw [if_pos ck]
    by_cases c3 : sN S < 40
    · rw [if_pos c3]
      exact dn_made (by decide) (mn_inverse he (fun sz => g_mono (c_X7_inverse_0 l hfl D y ad sz h q (sN S) b1 l1 r1 b2 l2 r2 b3 l3 r3 uz ul uh f1 g1 f2 g2 pa (sKd S) (sOn S) (sOt S) (sPt S) (sFb S) (sFl S) (sFh S) (sTb S) (sTl S) (sTh S) (sDg S) (sDs S) k c3 hk) (Nat.le_refl _) (Nat.le_refl _) (Nat.le_refl _) (Nat.le_refl _) (Nat.le_refl _) (Nat.le_refl _) (fun _ z => z) (fun _ _ _ _ hP hQ => a_n hQ (fun v w1 h9 => by
        obtain ⟨yb1, yl1, yr1, yb2, yl2, yr2, yb3, yl3, yr3, yuz, yul, yuh, yf1, yg1, yf2, yg2, nan, fbn, fln, fhn, tbn, tln, thn, hv9, hw9, hF9, hT9⟩ := h9
        obtain ⟨w2, u1, u2, u3⟩ := a_push (D := D) (S := S) hF9 hT9 hw9
        exact ⟨w2, ⟨hv9, u1⟩, u2, u3⟩))) rfl rfl ⟨Nat.le_of_ble_eq_true rfl, Nat.le_of_ble_eq_true rfl⟩ ⟨Nat.le_of_ble_eq_true rfl, Nat.le_of_ble_eq_true rfl⟩) sz
    · rw [if_neg c3]
      exact dt_made (by decide) (Or.inr (Or.inr rfl)) (mt_inverse he (fun sz => g_monoX (c_X7_inverse_X2 l hfl D y ad sz h q (sN S) b1 l1 r1 b2 l2 r2 b3 l3 r3 uz ul uh f1 g1 f2 g2 pa (sKd S) (sOn S) (sOt S) (sPt S) (sFb S) (sFl S) (sFh S) (sTb S) (sTl S) (sTh S) (sDg S) (sDs S) k hn hk c3) (Nat.le_refl _) (Nat.le_refl _) (Nat.le_refl _) (Nat.le_refl _) (Nat.le_refl _) (Nat.le_refl _) (fun _ _ _ h8 => a_x (fun w1 h9 => by rw [h9]; exact ⟨q, pa, b1, l1, r1, b2, l2, r2, b3, l3, r3, uz, ul, uh, f1, g1, f2, g2, rfl⟩) h8)) rfl rfl ⟨Nat.le_of_ble_eq_true rfl, Nat.le_of_ble_eq_true rfl⟩) sz
  · rw [if_neg (by rw [ck]; decide)]
    exact dt_made (by decide) (Or.inl rfl) (mt_inverse he (fun sz => g_monoX (c_X7_inverse_X1a l hfl D y ad sz h q (sN S) b1 l1 r1 b2 l2 r2 b3 l3 r3 uz ul uh f1 g1 f2 g2 pa (sKd S) (sOn S) (sOt S) (sPt S) (sFb S) (sFl S) (sFh S) (sTb S) (sTl S) (sTh S) (sDg S) (sDs S) a bk) (Nat.le_refl _) (Nat.le_refl _) (Nat.le_refl _) (Nat.le_refl _) (Nat.le_refl _) (Nat.le_refl _) (fun _ _ _ h8 => a_x (fun w1 h9 => by rw [h9]; exact ⟨q, pa, b1, l1, r1, b2, l2, r2, b3, l3, r3, uz, ul, uh, f1, g1, f2, g2, rfl⟩) h8)) rfl rfl ⟨Nat.le_of_ble_eq_true rfl, Nat.le_of_ble_eq_true rfl⟩) sz
set_option maxRecDepth 100000 in
theorem e_root (l : Launch) (hfl : l.stackTraces = false) (D : va_G) (y : Nat → ClassId) (ad : Nat → Nat) {S : St} (hS : SI S) {h : Nat} {w : va_W} (hw : OW y ad h S w) (a b c0 : Int32) (sz : Nat) : Met l yL_does wsL_does ({ frames := 11, cells := 9, slots := 164, locals := 400 } : Room) (gPN D y ad [.ref h, .int 6, .int a, .int b, .int c0] w sz) (gQn D w (fun v w1 => v = some (.long (dMake S 6 a a).1) ∧ OW y ad h (dMake S 6 a a).2 w1)) 9 164 (va_A w sz) := by
  obtain ⟨fs, he⟩ := hw.head
  have hn := hS.1
  obtain ⟨q, pa, b1, l1, r1, b2, l2, r2, b3, l3, r3, uz, ul, uh, f1, g1, f2, g2, rfl⟩ := hw
  unfold dMake
  rcases ok_c (n := sN S) (by omega) a with ⟨k, hk, rfl, ck, ik⟩ | ⟨ck, bk⟩
  · rw [if_pos ck, ik]
    rw [if_pos ck]
    by_cases c3 : sN S < 40
    · rw [if_pos c3]
      exact dn_made (by decide) (mn_root he (fun sz => g_mono (c_X7_root_0 l hfl D y ad sz h q (sN S) b1 l1 r1 b2 l2 r2 b3 l3 r3 uz ul uh f1 g1 f2 g2 pa (sKd S) (sOn S) (sOt S) (sPt S) (sFb S) (sFl S) (sFh S) (sTb S) (sTl S) (sTh S) (sDg S) (sDs S) k c3 hk) (Nat.le_refl _) (Nat.le_refl _) (Nat.le_refl _) (Nat.le_refl _) (Nat.le_refl _) (Nat.le_refl _) (fun _ z => z) (fun _ _ _ _ hP hQ => a_n hQ (fun v w1 h9 => by
        obtain ⟨yb1, yl1, yr1, yb2, yl2, yr2, yb3, yl3, yr3, yuz, yul, yuh, yf1, yg1, yf2, yg2, nan, fbn, fln, fhn, tbn, tln, thn, hv9, hw9, hF9, hT9⟩ := h9
        obtain ⟨w2, u1, u2, u3⟩ := a_push (D := D) (S := S) hF9 hT9 hw9
        exact ⟨w2, ⟨hv9, u1⟩, u2, u3⟩))) rfl rfl ⟨Nat.le_of_ble_eq_true rfl, Nat.le_of_ble_eq_true rfl⟩ ⟨Nat.le_of_ble_eq_true rfl, Nat.le_of_ble_eq_true rfl⟩) sz
    · rw [if_neg c3]
      exact dt_made (by decide) (Or.inr (Or.inr rfl)) (mt_root he (fun sz => g_monoX (c_X7_root_X2 l hfl D y ad sz h q (sN S) b1 l1 r1 b2 l2 r2 b3 l3 r3 uz ul uh f1 g1 f2 g2 pa (sKd S) (sOn S) (sOt S) (sPt S) (sFb S) (sFl S) (sFh S) (sTb S) (sTl S) (sTh S) (sDg S) (sDs S) k hn hk c3) (Nat.le_refl _) (Nat.le_refl _) (Nat.le_refl _) (Nat.le_refl _) (Nat.le_refl _) (Nat.le_refl _) (fun _ _ _ h8 => a_x (fun w1 h9 => by rw [h9]; exact ⟨q, pa, b1, l1, r1, b2, l2, r2, b3, l3, r3, uz, ul, uh, f1, g1, f2, g2, rfl⟩) h8)) rfl rfl ⟨Nat.le_of_ble_eq_true rfl, Nat.le_of_ble_eq_true rfl⟩) sz
  · rw [if_neg (by rw [ck]; decide)]
    exact dt_made (by decide) (Or.inl rfl) (mt_root he (fun sz => g_monoX (c_X7_root_X1a l hfl D y ad sz h q (sN S) b1 l1 r1 b2 l2 r2 b3 l3 r3 uz ul uh f1 g1 f2 g2 pa (sKd S) (sOn S) (sOt S) (sPt S) (sFb S) (sFl S) (sFh S) (sTb S) (sTl S) (sTh S) (sDg S) (sDs S) a bk) (Nat.le_refl _) (Nat.le_refl _) (Nat.le_refl _) (Nat.le_refl _) (Nat.le_refl _) (Nat.le_refl _) (fun _ _ _ h8 => a_x (fun w1 h9 => by rw [h9]; exact ⟨q, pa, b1, l1, r1, b2, l2, r2, b3, l3, r3, uz, ul, uh, f1, g1, f2, g2, rfl⟩) h8)) rfl rfl ⟨Nat.le_of_ble_eq_true rfl, Nat.le_of_ble_eq_true rfl⟩) sz
set_option maxRecDepth 100000 in
theorem e_exp (l : Launch) (hfl : l.stackTraces = false) (D : va_G) (y : Nat → ClassId) (ad : Nat → Nat) {S : St} (hS : SI S) {h : Nat} {w : va_W} (hw : OW y ad h S w) (a b c0 : Int32) (sz : Nat) : Met l yL_does wsL_does ({ frames := 11, cells := 9, slots := 164, locals := 400 } : Room) (gPN D y ad [.ref h, .int 7, .int a, .int b, .int c0] w sz) (gQn D w (fun v w1 => v = some (.long (dMake S 7 a a).1) ∧ OW y ad h (dMake S 7 a a).2 w1)) 9 164 (va_A w sz) := by
  obtain ⟨fs, he⟩ := hw.head
  have hn := hS.1
  obtain ⟨q, pa, b1, l1, r1, b2, l2, r2, b3, l3, r3, uz, ul, uh, f1, g1, f2, g2, rfl⟩ := hw
  unfold dMake
  rcases ok_c (n := sN S) (by omega) a with ⟨k, hk, rfl, ck, ik⟩ | ⟨ck, bk⟩
  · rw [if_pos ck, ik]
    rw [if_pos ck]
    by_cases c3 : sN S < 40
    · rw [if_pos c3]
      exact dn_made (by decide) (mn_exp he (fun sz => g_mono (c_X7_exp_0 l hfl D y ad sz h q (sN S) b1 l1 r1 b2 l2 r2 b3 l3 r3 uz ul uh f1 g1 f2 g2 pa (sKd S) (sOn S) (sOt S) (sPt S) (sFb S) (sFl S) (sFh S) (sTb S) (sTl S) (sTh S) (sDg S) (sDs S) k c3 hk) (Nat.le_refl _) (Nat.le_refl _) (Nat.le_refl _) (Nat.le_refl _) (Nat.le_refl _) (Nat.le_refl _) (fun _ z => z) (fun _ _ _ _ hP hQ => a_n hQ (fun v w1 h9 => by
        obtain ⟨yb1, yl1, yr1, yb2, yl2, yr2, yb3, yl3, yr3, yuz, yul, yuh, yf1, yg1, yf2, yg2, nan, fbn, fln, fhn, tbn, tln, thn, hv9, hw9, hF9, hT9⟩ := h9
        obtain ⟨w2, u1, u2, u3⟩ := a_push (D := D) (S := S) hF9 hT9 hw9
        exact ⟨w2, ⟨hv9, u1⟩, u2, u3⟩))) rfl rfl ⟨Nat.le_of_ble_eq_true rfl, Nat.le_of_ble_eq_true rfl⟩ ⟨Nat.le_of_ble_eq_true rfl, Nat.le_of_ble_eq_true rfl⟩) sz
    · rw [if_neg c3]
      exact dt_made (by decide) (Or.inr (Or.inr rfl)) (mt_exp he (fun sz => g_monoX (c_X7_exp_X2 l hfl D y ad sz h q (sN S) b1 l1 r1 b2 l2 r2 b3 l3 r3 uz ul uh f1 g1 f2 g2 pa (sKd S) (sOn S) (sOt S) (sPt S) (sFb S) (sFl S) (sFh S) (sTb S) (sTl S) (sTh S) (sDg S) (sDs S) k hn hk c3) (Nat.le_refl _) (Nat.le_refl _) (Nat.le_refl _) (Nat.le_refl _) (Nat.le_refl _) (Nat.le_refl _) (fun _ _ _ h8 => a_x (fun w1 h9 => by rw [h9]; exact ⟨q, pa, b1, l1, r1, b2, l2, r2, b3, l3, r3, uz, ul, uh, f1, g1, f2, g2, rfl⟩) h8)) rfl rfl ⟨Nat.le_of_ble_eq_true rfl, Nat.le_of_ble_eq_true rfl⟩) sz
  · rw [if_neg (by rw [ck]; decide)]
    exact dt_made (by decide) (Or.inl rfl) (mt_exp he (fun sz => g_monoX (c_X7_exp_X1a l hfl D y ad sz h q (sN S) b1 l1 r1 b2 l2 r2 b3 l3 r3 uz ul uh f1 g1 f2 g2 pa (sKd S) (sOn S) (sOt S) (sPt S) (sFb S) (sFl S) (sFh S) (sTb S) (sTl S) (sTh S) (sDg S) (sDs S) a bk) (Nat.le_refl _) (Nat.le_refl _) (Nat.le_refl _) (Nat.le_refl _) (Nat.le_refl _) (Nat.le_refl _) (fun _ _ _ h8 => a_x (fun w1 h9 => by rw [h9]; exact ⟨q, pa, b1, l1, r1, b2, l2, r2, b3, l3, r3, uz, ul, uh, f1, g1, f2, g2, rfl⟩) h8)) rfl rfl ⟨Nat.le_of_ble_eq_true rfl, Nat.le_of_ble_eq_true rfl⟩) sz
set_option maxRecDepth 100000 in
theorem e_zero (l : Launch) (hfl : l.stackTraces = false) (D : va_G) (y : Nat → ClassId) (ad : Nat → Nat) {S : St} (hS : SI S) {h : Nat} {w : va_W} (hw : OW y ad h S w) (a b c0 d0 fr hv : Int32) (sz : Nat) : Met l yL_seeks wsL_seeks ({ frames := 10, cells := 10, slots := 168, locals := 300 } : Room) (gPN D y ad [.ref h, .int a, .int b, .int c0, .int d0, .int fr, .int hv] w sz) (gQn D w (fun v w1 => v = some (.int (dZero S a b c0 d0 fr hv).1) ∧ OW y ad h (dZero S a b c0 d0 fr hv).2 w1)) 10 168 (va_A w sz) := by
  obtain ⟨fs, he⟩ := hw.head
  have hn := hS.1
  obtain ⟨q, pa, b1, l1, r1, b2, l2, r2, b3, l3, r3, uz, ul, uh, f1, g1, f2, g2, rfl⟩ := hw
  unfold dZero
  by_cases z0 : a < -9 ∨ ¬ a ≤ 9
  · rw [if_pos z0]
    exact st_zero he (Or.inl rfl) (fun sz => g_monoX (c_X7_zero_X1a l hfl D y ad sz h q (sN S) b1 l1 r1 b2 l2 r2 b3 l3 r3 uz ul uh f1 g1 f2 g2 pa (sKd S) (sOn S) (sOt S) (sPt S) (sFb S) (sFl S) (sFh S) (sTb S) (sTl S) (sTh S) (sDg S) (sDs S) a b c0 d0 fr hv  z0) (Nat.le_refl _) (Nat.le_refl _) (Nat.le_refl _) (Nat.le_refl _) (Nat.le_refl _) (Nat.le_refl _) (fun _ _ _ h8 => a_x (fun w1 h9 => by rw [h9]; exact ⟨q, pa, b1, l1, r1, b2, l2, r2, b3, l3, r3, uz, ul, uh, f1, g1, f2, g2, rfl⟩) h8)) rfl rfl ⟨Nat.le_of_ble_eq_true rfl, Nat.le_of_ble_eq_true rfl⟩ ⟨Nat.le_of_ble_eq_true rfl, Nat.le_of_ble_eq_true rfl⟩ sz
  · rw [if_neg z0]
    by_cases z1 : b < -9 ∨ ¬ b ≤ 9
    · rw [if_pos z1]
      exact st_zero he (Or.inl rfl) (fun sz => g_monoX (c_X7_zero_X1b l hfl D y ad sz h q (sN S) b1 l1 r1 b2 l2 r2 b3 l3 r3 uz ul uh f1 g1 f2 g2 pa (sKd S) (sOn S) (sOt S) (sPt S) (sFb S) (sFl S) (sFh S) (sTb S) (sTl S) (sTh S) (sDg S) (sDs S) a b c0 d0 fr hv (fun z => z0 (Or.inl z)) (Classical.not_not.mp (fun z => z0 (Or.inr z))) z1) (Nat.le_refl _) (Nat.le_refl _) (Nat.le_refl _) (Nat.le_refl _) (Nat.le_refl _) (Nat.le_refl _) (fun _ _ _ h8 => a_x (fun w1 h9 => by rw [h9]; exact ⟨q, pa, b1, l1, r1, b2, l2, r2, b3, l3, r3, uz, ul, uh, f1, g1, f2, g2, rfl⟩) h8)) rfl rfl ⟨Nat.le_of_ble_eq_true rfl, Nat.le_of_ble_eq_true rfl⟩ ⟨Nat.le_of_ble_eq_true rfl, Nat.le_of_ble_eq_true rfl⟩ sz
    · rw [if_neg z1]
      by_cases z2 : c0 < -9 ∨ ¬ c0 ≤ 9
      · rw [if_pos z2]
        exact st_zero he (Or.inl rfl) (fun sz => g_monoX (c_X7_zero_X1c0 l hfl D y ad sz h q (sN S) b1 l1 r1 b2 l2 r2 b3 l3 r3 uz ul uh f1 g1 f2 g2 pa (sKd S) (sOn S) (sOt S) (sPt S) (sFb S) (sFl S) (sFh S) (sTb S) (sTl S) (sTh S) (sDg S) (sDs S) a b c0 d0 fr hv (fun z => z0 (Or.inl z)) (Classical.not_not.mp (fun z => z0 (Or.inr z))) (fun z => z1 (Or.inl z)) (Classical.not_not.mp (fun z => z1 (Or.inr z))) z2) (Nat.le_refl _) (Nat.le_refl _) (Nat.le_refl _) (Nat.le_refl _) (Nat.le_refl _) (Nat.le_refl _) (fun _ _ _ h8 => a_x (fun w1 h9 => by rw [h9]; exact ⟨q, pa, b1, l1, r1, b2, l2, r2, b3, l3, r3, uz, ul, uh, f1, g1, f2, g2, rfl⟩) h8)) rfl rfl ⟨Nat.le_of_ble_eq_true rfl, Nat.le_of_ble_eq_true rfl⟩ ⟨Nat.le_of_ble_eq_true rfl, Nat.le_of_ble_eq_true rfl⟩ sz
      · rw [if_neg z2]
        by_cases z3 : d0 < -9 ∨ ¬ d0 ≤ 9
        · rw [if_pos z3]
          exact st_zero he (Or.inl rfl) (fun sz => g_monoX (c_X7_zero_X1d0 l hfl D y ad sz h q (sN S) b1 l1 r1 b2 l2 r2 b3 l3 r3 uz ul uh f1 g1 f2 g2 pa (sKd S) (sOn S) (sOt S) (sPt S) (sFb S) (sFl S) (sFh S) (sTb S) (sTl S) (sTh S) (sDg S) (sDs S) a b c0 d0 fr hv (fun z => z0 (Or.inl z)) (Classical.not_not.mp (fun z => z0 (Or.inr z))) (fun z => z1 (Or.inl z)) (Classical.not_not.mp (fun z => z1 (Or.inr z))) (fun z => z2 (Or.inl z)) (Classical.not_not.mp (fun z => z2 (Or.inr z))) z3) (Nat.le_refl _) (Nat.le_refl _) (Nat.le_refl _) (Nat.le_refl _) (Nat.le_refl _) (Nat.le_refl _) (fun _ _ _ h8 => a_x (fun w1 h9 => by rw [h9]; exact ⟨q, pa, b1, l1, r1, b2, l2, r2, b3, l3, r3, uz, ul, uh, f1, g1, f2, g2, rfl⟩) h8)) rfl rfl ⟨Nat.le_of_ble_eq_true rfl, Nat.le_of_ble_eq_true rfl⟩ ⟨Nat.le_of_ble_eq_true rfl, Nat.le_of_ble_eq_true rfl⟩ sz
        · rw [if_neg z3]
          by_cases z4 : fr < -4 ∨ ¬ fr ≤ 3
          · rw [if_pos z4]
            exact st_zero he (Or.inl rfl) (fun sz => g_monoX (c_X7_zero_X1fr l hfl D y ad sz h q (sN S) b1 l1 r1 b2 l2 r2 b3 l3 r3 uz ul uh f1 g1 f2 g2 pa (sKd S) (sOn S) (sOt S) (sPt S) (sFb S) (sFl S) (sFh S) (sTb S) (sTl S) (sTh S) (sDg S) (sDs S) a b c0 d0 fr hv (fun z => z0 (Or.inl z)) (Classical.not_not.mp (fun z => z0 (Or.inr z))) (fun z => z1 (Or.inl z)) (Classical.not_not.mp (fun z => z1 (Or.inr z))) (fun z => z2 (Or.inl z)) (Classical.not_not.mp (fun z => z2 (Or.inr z))) (fun z => z3 (Or.inl z)) (Classical.not_not.mp (fun z => z3 (Or.inr z))) z4) (Nat.le_refl _) (Nat.le_refl _) (Nat.le_refl _) (Nat.le_refl _) (Nat.le_refl _) (Nat.le_refl _) (fun _ _ _ h8 => a_x (fun w1 h9 => by rw [h9]; exact ⟨q, pa, b1, l1, r1, b2, l2, r2, b3, l3, r3, uz, ul, uh, f1, g1, f2, g2, rfl⟩) h8)) rfl rfl ⟨Nat.le_of_ble_eq_true rfl, Nat.le_of_ble_eq_true rfl⟩ ⟨Nat.le_of_ble_eq_true rfl, Nat.le_of_ble_eq_true rfl⟩ sz
          · rw [if_neg z4]
            rcases ok_c (n := 3) (by decide) hv with ⟨u, hu, rfl, cu, iu⟩ | ⟨cu, bu⟩
            · rw [if_pos cu, iu]
              have u1 : ¬ nI u < 0 := nI_pos (by omega)
              have u2 : nI u ≤ 2 := nI_le (show u ≤ 2 by omega) (by decide)
              by_cases c3 : sN S < 40
              · rw [if_pos c3]
                by_cases c4 : (sp_X4_signAt a.toInt64 b.toInt64 c0.toInt64 d0.toInt64 fr.toInt64 0) * (sp_X4_signAt a.toInt64 b.toInt64 c0.toInt64 d0.toInt64 (fr + (1 <<< (nI u &&& 31))).toInt64 0) < 0
                · rw [if_pos c4]
                  exact sn_zero he (fun sz => g_mono (c_X7_zero_0 l hfl D y ad sz h q (sN S) b1 l1 r1 b2 l2 r2 b3 l3 r3 uz ul uh f1 g1 f2 g2 pa (sKd S) (sOn S) (sOt S) (sPt S) (sFb S) (sFl S) (sFh S) (sTb S) (sTl S) (sTh S) (sDg S) (sDs S) a b c0 d0 fr u (fun z => z0 (Or.inl z)) (Classical.not_not.mp (fun z => z0 (Or.inr z))) (fun z => z1 (Or.inl z)) (Classical.not_not.mp (fun z => z1 (Or.inr z))) (fun z => z2 (Or.inl z)) (Classical.not_not.mp (fun z => z2 (Or.inr z))) (fun z => z3 (Or.inl z)) (Classical.not_not.mp (fun z => z3 (Or.inr z))) (fun z => z4 (Or.inl z)) (Classical.not_not.mp (fun z => z4 (Or.inr z))) hu c3 c4) (Nat.le_refl _) (Nat.le_refl _) (Nat.le_refl _) (Nat.le_refl _) (Nat.le_refl _) (Nat.le_refl _) (fun _ z => z) (fun _ _ _ _ hP hQ => a_n hQ (fun v w1 h9 => by
                    obtain ⟨yb1, yl1, yr1, yb2, yl2, yr2, yb3, yl3, yr3, yuz, yul, yuh, yf1, yg1, yf2, yg2, nan, fbn, fln, fhn, tbn, tln, thn, hv9, hw9, hF9, hT9⟩ := h9
                    obtain ⟨w2, u1, u2, u3⟩ := a_push (D := D) (S := S) hF9 hT9 hw9
                    exact ⟨w2, ⟨hv9, u1⟩, u2, u3⟩))) rfl rfl ⟨Nat.le_of_ble_eq_true rfl, Nat.le_of_ble_eq_true rfl⟩ ⟨Nat.le_of_ble_eq_true rfl, Nat.le_of_ble_eq_true rfl⟩ sz
                · rw [if_neg c4]
                  exact st_zero he (Or.inr rfl) (fun sz => g_monoX (c_X7_zero_X3 l hfl D y ad sz h q (sN S) b1 l1 r1 b2 l2 r2 b3 l3 r3 uz ul uh f1 g1 f2 g2 pa (sKd S) (sOn S) (sOt S) (sPt S) (sFb S) (sFl S) (sFh S) (sTb S) (sTl S) (sTh S) (sDg S) (sDs S) a b c0 d0 fr (nI u) (fun z => z0 (Or.inl z)) (Classical.not_not.mp (fun z => z0 (Or.inr z))) (fun z => z1 (Or.inl z)) (Classical.not_not.mp (fun z => z1 (Or.inr z))) (fun z => z2 (Or.inl z)) (Classical.not_not.mp (fun z => z2 (Or.inr z))) (fun z => z3 (Or.inl z)) (Classical.not_not.mp (fun z => z3 (Or.inr z))) (fun z => z4 (Or.inl z)) (Classical.not_not.mp (fun z => z4 (Or.inr z))) u1 u2 c3 c4) (Nat.le_refl _) (Nat.le_refl _) (Nat.le_refl _) (Nat.le_refl _) (Nat.le_refl _) (Nat.le_refl _) (fun _ _ _ h8 => a_x (fun w1 h9 => by rw [h9]; exact ⟨q, pa, b1, l1, r1, b2, l2, r2, b3, l3, r3, uz, ul, uh, f1, g1, f2, g2, rfl⟩) h8)) rfl rfl ⟨Nat.le_of_ble_eq_true rfl, Nat.le_of_ble_eq_true rfl⟩ ⟨Nat.le_of_ble_eq_true rfl, Nat.le_of_ble_eq_true rfl⟩ sz
              · rw [if_neg c3]
                exact st_zero he (Or.inr rfl) (fun sz => g_monoX (c_X7_zero_X2 l hfl D y ad sz h q (sN S) b1 l1 r1 b2 l2 r2 b3 l3 r3 uz ul uh f1 g1 f2 g2 pa (sKd S) (sOn S) (sOt S) (sPt S) (sFb S) (sFl S) (sFh S) (sTb S) (sTl S) (sTh S) (sDg S) (sDs S) a b c0 d0 fr (nI u) (fun z => z0 (Or.inl z)) (Classical.not_not.mp (fun z => z0 (Or.inr z))) (fun z => z1 (Or.inl z)) (Classical.not_not.mp (fun z => z1 (Or.inr z))) (fun z => z2 (Or.inl z)) (Classical.not_not.mp (fun z => z2 (Or.inr z))) (fun z => z3 (Or.inl z)) (Classical.not_not.mp (fun z => z3 (Or.inr z))) (fun z => z4 (Or.inl z)) (Classical.not_not.mp (fun z => z4 (Or.inr z))) u1 u2 c3 hn) (Nat.le_refl _) (Nat.le_refl _) (Nat.le_refl _) (Nat.le_refl _) (Nat.le_refl _) (Nat.le_refl _) (fun _ _ _ h8 => a_x (fun w1 h9 => by rw [h9]; exact ⟨q, pa, b1, l1, r1, b2, l2, r2, b3, l3, r3, uz, ul, uh, f1, g1, f2, g2, rfl⟩) h8)) rfl rfl ⟨Nat.le_of_ble_eq_true rfl, Nat.le_of_ble_eq_true rfl⟩ ⟨Nat.le_of_ble_eq_true rfl, Nat.le_of_ble_eq_true rfl⟩ sz
            · rw [if_neg (by rw [cu]; decide)]
              have bu := ok_l (M := 2) (by decide) (by decide) bu
              exact st_zero he (Or.inl rfl) (fun sz => g_monoX (c_X7_zero_X1hv l hfl D y ad sz h q (sN S) b1 l1 r1 b2 l2 r2 b3 l3 r3 uz ul uh f1 g1 f2 g2 pa (sKd S) (sOn S) (sOt S) (sPt S) (sFb S) (sFl S) (sFh S) (sTb S) (sTl S) (sTh S) (sDg S) (sDs S) a b c0 d0 fr hv (fun z => z0 (Or.inl z)) (Classical.not_not.mp (fun z => z0 (Or.inr z))) (fun z => z1 (Or.inl z)) (Classical.not_not.mp (fun z => z1 (Or.inr z))) (fun z => z2 (Or.inl z)) (Classical.not_not.mp (fun z => z2 (Or.inr z))) (fun z => z3 (Or.inl z)) (Classical.not_not.mp (fun z => z3 (Or.inr z))) (fun z => z4 (Or.inl z)) (Classical.not_not.mp (fun z => z4 (Or.inr z))) bu) (Nat.le_refl _) (Nat.le_refl _) (Nat.le_refl _) (Nat.le_refl _) (Nat.le_refl _) (Nat.le_refl _) (fun _ _ _ h8 => a_x (fun w1 h9 => by rw [h9]; exact ⟨q, pa, b1, l1, r1, b2, l2, r2, b3, l3, r3, uz, ul, uh, f1, g1, f2, g2, rfl⟩) h8)) rfl rfl ⟨Nat.le_of_ble_eq_true rfl, Nat.le_of_ble_eq_true rfl⟩ ⟨Nat.le_of_ble_eq_true rfl, Nat.le_of_ble_eq_true rfl⟩ sz
set_option maxRecDepth 100000 in
theorem e_instead (l : Launch) (hfl : l.stackTraces = false) (D : va_G) (y : Nat → ClassId) (ad : Nat → Nat) {S : St} (hS : SI S) {h : Nat} {w : va_W} (hw : OW y ad h S w) (a b c0 d0 : Int32) (bb : Bool) (sz : Nat) : Met l yL_instead wsL_instead ({ frames := 11, cells := 1, slots := 6, locals := 400 } : Room) (gPN D y ad [.ref h, .int a, .int b, .int c0, .int d0, .int (gB bb)] w sz) (gQn D w (fun v w1 => v = some (.long (dIns S a b c0 d0 bb)) ∧ OW y ad h S w1)) 1 6 (va_A w sz) := by
  obtain ⟨fs, he⟩ := hw.head
  have hn := hS.1
  obtain ⟨q, pa, b1, l1, r1, b2, l2, r2, b3, l3, r3, uz, ul, uh, f1, g1, f2, g2, rfl⟩ := hw
  unfold dIns
  rcases ok_c (n := sN S) (by omega) a with ⟨k, hk, rfl, ck, ik⟩ | ⟨ck, bk⟩
  · rw [if_pos ck, ik]
    rcases ok_c (n := sN S) (by omega) b with ⟨g, hg, rfl, cg, ig⟩ | ⟨cg, bg⟩
    · rw [if_pos cg, ig]
      rcases ok_c (n := sN S) (by omega) c0 with ⟨j, hj, rfl, cj, ij⟩ | ⟨cj, bj⟩
      · rw [if_pos cj, ij]
        rcases ok_c (n := 25) (by decide) d0 with ⟨p, hp, rfl, cp, ip⟩ | ⟨cp, bp⟩
        · rw [if_pos cp, ip]
          obtain ⟨q1, ⟨q2, q3, q4⟩, q5⟩ := hS.ins hg j p
          by_cases c3 : iB S k g j p = true
          · rw [if_pos c3]
            exact sn_instead he (fun sz => g_mono (c_X7_instead_0 l hfl D y ad sz h q (sN S) b1 l1 r1 b2 l2 r2 b3 l3 r3 uz ul uh f1 g1 f2 g2 pa (sKd S) (sOn S) (sOt S) (sPt S) (sFb S) (sFl S) (sFh S) (sTb S) (sTl S) (sTh S) (sDg S) (sDs S) k g j p bb (insC S g j p).1 (insC S g j p).2.1 (insC S g j p).2.2 hn hk hg hj hp q1 q2 q3 q4 q5 c3) (Nat.le_refl _) (Nat.le_refl _) (Nat.le_refl _) (Nat.le_refl _) (Nat.le_refl _) (Nat.le_refl _) (fun _ z => z) (fun _ _ _ _ hP hQ => a_s (a_Q hP hQ) (fun v w1 h9 => ⟨h9.1, xScr_OW h9.2⟩))) rfl rfl ⟨Nat.le_of_ble_eq_true rfl, Nat.le_of_ble_eq_true rfl⟩ ⟨Nat.le_of_ble_eq_true rfl, Nat.le_of_ble_eq_true rfl⟩ sz
          · rw [if_neg c3]
            exact st_instead he (Or.inr (Or.inr rfl)) (fun sz => g_monoX (c_X7_instead_X3 l hfl D y ad sz h q (sN S) b1 l1 r1 b2 l2 r2 b3 l3 r3 uz ul uh f1 g1 f2 g2 pa (sKd S) (sOn S) (sOt S) (sPt S) (sFb S) (sFl S) (sFh S) (sTb S) (sTl S) (sTh S) (sDg S) (sDs S) k g j p bb (insC S g j p).1 (insC S g j p).2.1 (insC S g j p).2.2 hn hk hg hj hp q1 q2 q3 q4 q5 c3) (Nat.le_refl _) (Nat.le_refl _) (Nat.le_refl _) (Nat.le_refl _) (Nat.le_refl _) (Nat.le_refl _) (fun _ _ _ h8 => a_x (fun w1 h9 => xScr_OW h9) h8)) rfl rfl ⟨Nat.le_of_ble_eq_true rfl, Nat.le_of_ble_eq_true rfl⟩ ⟨Nat.le_of_ble_eq_true rfl, Nat.le_of_ble_eq_true rfl⟩ sz
        · rw [if_neg (by rw [cp]; decide)]
          have bp := ok_l (M := 24) (by decide) (by decide) bp
          exact st_instead he (Or.inr (Or.inl rfl)) (fun sz => g_monoX (c_X7_instead_X2 l hfl D y ad sz h q (sN S) b1 l1 r1 b2 l2 r2 b3 l3 r3 uz ul uh f1 g1 f2 g2 pa (sKd S) (sOn S) (sOt S) (sPt S) (sFb S) (sFl S) (sFh S) (sTb S) (sTl S) (sTh S) (sDg S) (sDs S) k g j d0 bb hn hk hg hj bp) (Nat.le_refl _) (Nat.le_refl _) (Nat.le_refl _) (Nat.le_refl _) (Nat.le_refl _) (Nat.le_refl _) (fun _ _ _ h8 => a_x (fun w1 h9 => by rw [h9]; exact ⟨q, pa, b1, l1, r1, b2, l2, r2, b3, l3, r3, uz, ul, uh, f1, g1, f2, g2, rfl⟩) h8)) rfl rfl ⟨Nat.le_of_ble_eq_true rfl, Nat.le_of_ble_eq_true rfl⟩ ⟨Nat.le_of_ble_eq_true rfl, Nat.le_of_ble_eq_true rfl⟩ sz
      · rw [if_neg (by rw [cj]; decide)]
        exact st_instead he (Or.inl rfl) (fun sz => g_monoX (c_X7_instead_X1c l hfl D y ad sz h q (sN S) b1 l1 r1 b2 l2 r2 b3 l3 r3 uz ul uh f1 g1 f2 g2 pa (sKd S) (sOn S) (sOt S) (sPt S) (sFb S) (sFl S) (sFh S) (sTb S) (sTl S) (sTh S) (sDg S) (sDs S) k g c0 d0 bb hn hk hg bj) (Nat.le_refl _) (Nat.le_refl _) (Nat.le_refl _) (Nat.le_refl _) (Nat.le_refl _) (Nat.le_refl _) (fun _ _ _ h8 => a_x (fun w1 h9 => by rw [h9]; exact ⟨q, pa, b1, l1, r1, b2, l2, r2, b3, l3, r3, uz, ul, uh, f1, g1, f2, g2, rfl⟩) h8)) rfl rfl ⟨Nat.le_of_ble_eq_true rfl, Nat.le_of_ble_eq_true rfl⟩ ⟨Nat.le_of_ble_eq_true rfl, Nat.le_of_ble_eq_true rfl⟩ sz
    · rw [if_neg (by rw [cg]; decide)]
      exact st_instead he (Or.inl rfl) (fun sz => g_monoX (c_X7_instead_X1b l hfl D y ad sz h q (sN S) b1 l1 r1 b2 l2 r2 b3 l3 r3 uz ul uh f1 g1 f2 g2 pa (sKd S) (sOn S) (sOt S) (sPt S) (sFb S) (sFl S) (sFh S) (sTb S) (sTl S) (sTh S) (sDg S) (sDs S) k b c0 d0 bb hn hk bg) (Nat.le_refl _) (Nat.le_refl _) (Nat.le_refl _) (Nat.le_refl _) (Nat.le_refl _) (Nat.le_refl _) (fun _ _ _ h8 => a_x (fun w1 h9 => by rw [h9]; exact ⟨q, pa, b1, l1, r1, b2, l2, r2, b3, l3, r3, uz, ul, uh, f1, g1, f2, g2, rfl⟩) h8)) rfl rfl ⟨Nat.le_of_ble_eq_true rfl, Nat.le_of_ble_eq_true rfl⟩ ⟨Nat.le_of_ble_eq_true rfl, Nat.le_of_ble_eq_true rfl⟩ sz
  · rw [if_neg (by rw [ck]; decide)]
    exact st_instead he (Or.inl rfl) (fun sz => g_monoX (c_X7_instead_X1a l hfl D y ad sz h q (sN S) b1 l1 r1 b2 l2 r2 b3 l3 r3 uz ul uh f1 g1 f2 g2 pa (sKd S) (sOn S) (sOt S) (sPt S) (sFb S) (sFl S) (sFh S) (sTb S) (sTl S) (sTh S) (sDg S) (sDs S) a b c0 d0 bb bk) (Nat.le_refl _) (Nat.le_refl _) (Nat.le_refl _) (Nat.le_refl _) (Nat.le_refl _) (Nat.le_refl _) (fun _ _ _ h8 => a_x (fun w1 h9 => by rw [h9]; exact ⟨q, pa, b1, l1, r1, b2, l2, r2, b3, l3, r3, uz, ul, uh, f1, g1, f2, g2, rfl⟩) h8)) rfl rfl ⟨Nat.le_of_ble_eq_true rfl, Nat.le_of_ble_eq_true rfl⟩ ⟨Nat.le_of_ble_eq_true rfl, Nat.le_of_ble_eq_true rfl⟩ sz
