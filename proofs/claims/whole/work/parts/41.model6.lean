/-! ROSETTEPLATEMODEL (X8): small questions -/
theorem fwX8_refused_31 : gFldW wsX8_refused RX8 31 8 2 .int false := ⟨RX8, TX8, 17, tyX8, rfl, by decide, by decide +kernel, by decide +kernel, tyX8_ok, nmX8, rfl, by decide +kernel, by decide +kernel⟩
set_option maxHeartbeats 4000000 in
set_option maxRecDepth 100000 in
theorem c_X8_refused (l : Launch) (κ : gKap) (B n : Nat) (ad : Nat → Nat) (g : Nat → va_E) (ly : Int) (th : Int) (mk : Int) (tx : Int) (rl : Int) (a0 : Int) (wr : Int) (s0 : Int) (s1 : Int) (rm : Int) (cd : Int) (hn8 : 200 ≤ n) (hM : g 192 = oM ad ly th mk tx rl a0 wr s0 s1 rm) : Met l yX8_refused wsX8_refused ({ frames := 0, cells := 0, slots := 0, locals := 0 }) (gPre κ B n ad g [.ref (ad 192), .int (iz cd)]) (gQi κ B n ad (fun z g' => g' = va_up g 192 (oM ad ly cd mk tx rl a0 wr s0 s1 rm) ∧ z = 0)) 0 0 (gFree B) := by
  refine g_met RX8 (cc := cX8_refused) (maxL := 2) (ret := (some .int)) (by decide) rfl rfl (Nat.le_of_ble_eq_true rfl) ?_
  intro p e s m args below meth c C hr hlk hnm G ls hl
  have hl : lv_has ls 2 [(0, .ref (ad 192)), (1, .int (iz cd))] := hl
  refine g_aload_n C dX8_refused_0 rfl hl 0 rfl ?_
  refine g_iload_n C dX8_refused_1 rfl hl 1 rfl ?_
  refine g_put C G (pos := 192) (fs' := [.ref (ad 193), .int (iz ly), .int (iz cd), .ref (ad 194), .int (iz mk), .ref (ad 195), .int (iz tx), .ref (ad 196), .int (iz rl), .int (iz a0), .int (iz wr), .int (iz s0), .int (iz s1), .ref (ad 197), .int (iz rm), .ref (ad 198), .ref (ad 199)]) fwX8_refused_31 (by omega) hM (Nat.le_of_ble_eq_true rfl) rfl rfl rfl dX8_refused_2 (fun H locs G => ?_)
  obtain ⟨g_1, hg_2⟩ : ∃ g9, g9 = va_up g 192 (.inr (8, [.ref (ad 193), .int (iz ly), .int (iz cd), .ref (ad 194), .int (iz mk), .ref (ad 195), .int (iz tx), .ref (ad 196), .int (iz rl), .int (iz a0), .int (iz wr), .int (iz s0), .int (iz s1), .ref (ad 197), .int (iz rm), .ref (ad 198), .ref (ad 199)])) := ⟨_, rfl⟩
  rw [← hg_2] at G
  have hc_3 : g_1 192 = .inr (8, [.ref (ad 193), .int (iz ly), .int (iz cd), .ref (ad 194), .int (iz mk), .ref (ad 195), .int (iz tx), .ref (ad 196), .int (iz rl), .int (iz a0), .int (iz wr), .int (iz s0), .int (iz s1), .ref (ad 197), .int (iz rm), .ref (ad 198), .ref (ad 199)]) := by rw [hg_2]; exact gu_self _ _ _
  refine g_iconst (a := 0) C dX8_refused_5 rfl ?_
  refine g_iret C G hr hlk (Nat.le_of_ble_eq_true rfl) (Nat.le_of_ble_eq_true rfl) dX8_refused_6 ?_
  exact ⟨hg_2, rfl⟩
set_option maxHeartbeats 4000000 in
set_option maxRecDepth 100000 in
theorem c_X8_isTeeth (l : Launch) (κ : gKap) (B n : Nat) (ad : Nat → Nat) (g : Nat → va_E) (te : Int) (hte : inI te) : Met l yX8_isTeeth wsX8_isTeeth ({ frames := 1, cells := 0, slots := 0, locals := 25 }) (gPre κ B n ad g [.int (iz te)]) (gQi κ B n ad (fun z g' => g' = g ∧ (((12 ≤ te ∧ te ≤ 96) ∧ z = 1) ∨ (¬ (12 ≤ te ∧ te ≤ 96) ∧ z = 0)))) 0 0 (gFree B) := by
  refine g_met RX8 (cc := cX8_isTeeth) (maxL := 1) (ret := (some .boolean)) (by decide) rfl rfl (Nat.le_of_ble_eq_true rfl) ?_
  intro p e s m args below meth c C hr hlk hnm G ls hl
  have hl : lv_has ls 1 [(0, .int (iz te))] := hl
  refine g_iload_n C dX8_isTeeth_0 rfl hl 0 rfl ?_
  refine g_i2l C (by omega) dX8_isTeeth_1 ?_
  refine g_ldc2 (a := 12) C (by decide +kernel) dX8_isTeeth_2 ?_
  refine g_ldc2 (a := 96) C (by decide +kernel) dX8_isTeeth_5 ?_
  refine g_ci C G (g_runS (As := [.long (jz te), .long (jz 12), .long (jz 96)]) (rest := []) C G (c_X8_in l κ B n ad g te 12 96 (by omega) (by omega) (by omega)) (va_cwS 3 C.1.2.2.2.2 gX8_isTeeth_X8_in rfl rfl rfl (by decide +kernel) ⟨Nat.le_of_ble_eq_true rfl, Nat.le_of_ble_eq_true rfl⟩) rfl hl rfl (Nat.le_of_ble_eq_true rfl) dX8_isTeeth_8 ⟨Nat.le_of_ble_eq_true rfl, Nat.le_of_ble_eq_true rfl⟩) (fun z_2 g9 H locs hw G => ?_)
  obtain ⟨hg9, hw⟩ := hw
  replace hg9 := hg9.symm
  subst hg9
  rcases hw with ⟨b_1, rfl⟩ | ⟨b_1, rfl⟩
  · refine g_zret C G hr hlk (by decide) (Nat.le_of_ble_eq_true rfl) (Nat.le_of_ble_eq_true rfl) dX8_isTeeth_11 ?_
    exact ⟨rfl, by omega⟩
  · refine g_zret C G hr hlk (by decide) (Nat.le_of_ble_eq_true rfl) (Nat.le_of_ble_eq_true rfl) dX8_isTeeth_11 ?_
    exact ⟨rfl, by omega⟩
theorem fX8_isAngle_7 : gFld wsX8_isAngle RX8 7 8 0 := ⟨RX8, TX8, 17, rfl, by decide, by decide +kernel, by decide +kernel⟩
set_option maxHeartbeats 4000000 in
set_option maxRecDepth 100000 in
theorem c_X8_isAngle (l : Launch) (κ : gKap) (B n : Nat) (ad : Nat → Nat) (g : Nat → va_E) (ly : Int) (th : Int) (mk : Int) (tx : Int) (rl : Int) (a0 : Int) (wr : Int) (s0 : Int) (s1 : Int) (rm : Int) (f : Int → Int) (an : Int) (hn8 : 200 ≤ n) (hM : g 192 = oM ad ly th mk tx rl a0 wr s0 s1 rm) (hN : g 193 = aI κ 42 f) (hok : okPl ly f) (han : inI an) : Met l yX8_isAngle wsX8_isAngle ({ frames := 1, cells := 0, slots := 0, locals := 25 }) (gPre κ B n ad g [.ref (ad 192), .int (iz an)]) (gQi κ B n ad (fun z g' => g' = g ∧ (((0 ≤ an ∧ an < f 0) ∧ z = 1) ∨ (¬ (0 ≤ an ∧ an < f 0) ∧ z = 0)))) 0 0 (gFree B) := by
  refine g_met RX8 (cc := cX8_isAngle) (maxL := 2) (ret := (some .boolean)) (by decide) rfl rfl (Nat.le_of_ble_eq_true rfl) ?_
  intro p e s m args below meth c C hr hlk hnm G ls hl
  have hl : lv_has ls 2 [(0, .ref (ad 192)), (1, .int (iz an))] := hl
  obtain ⟨hn6, hv0, hv25, hlay, hsee⟩ := id hok
  refine g_iload_n C dX8_isAngle_0 rfl hl 1 rfl ?_
  refine g_i2l C (by omega) dX8_isAngle_1 ?_
  refine g_lconst (a := 0) C dX8_isAngle_2 (by decide) ?_
  refine g_aload_n C dX8_isAngle_3 rfl hl 0 rfl ?_
  refine g_get C G (pos := 192) fX8_isAngle_7 (by omega) hM rfl dX8_isAngle_4 ?_
  refine g_iconst (a := 0) C dX8_isAngle_7 rfl ?_
  refine g_iaload C G (pos := 193) (by omega) hN (by omega) (by omega) (by omega) dX8_isAngle_8 ?_
  refine g_iconst (a := 1) C dX8_isAngle_9 rfl ?_
  refine g_isub C dX8_isAngle_10 ?_
  refine g_i2l C (by omega) dX8_isAngle_11 ?_
  refine g_ci C G (g_runS (As := [.long (jz an), .long (jz 0), .long (jz ((f 0) - 1))]) (rest := []) C G (c_X8_in l κ B n ad g an 0 ((f 0) - 1) (by omega) (by omega) (by omega)) (va_cwS 3 C.1.2.2.2.2 gX8_isAngle_X8_in rfl rfl rfl (by decide +kernel) ⟨Nat.le_of_ble_eq_true rfl, Nat.le_of_ble_eq_true rfl⟩) rfl hl rfl (Nat.le_of_ble_eq_true rfl) dX8_isAngle_12 ⟨Nat.le_of_ble_eq_true rfl, Nat.le_of_ble_eq_true rfl⟩) (fun z_2 g9 H locs hw G => ?_)
  obtain ⟨hg9, hw⟩ := hw
  replace hg9 := hg9.symm
  subst hg9
  rcases hw with ⟨b_1, rfl⟩ | ⟨b_1, rfl⟩
  · refine g_zret C G hr hlk (by decide) (Nat.le_of_ble_eq_true rfl) (Nat.le_of_ble_eq_true rfl) dX8_isAngle_15 ?_
    exact ⟨rfl, by omega⟩
  · refine g_zret C G hr hlk (by decide) (Nat.le_of_ble_eq_true rfl) (Nat.le_of_ble_eq_true rfl) dX8_isAngle_15 ?_
    exact ⟨rfl, by omega⟩
set_option maxHeartbeats 4000000 in
set_option maxRecDepth 100000 in
theorem c_X8_can (l : Launch) (κ : gKap) (B n : Nat) (ad : Nat → Nat) (g : Nat → va_E) (ly : Int) (th : Int) (mk : Int) (tx : Int) (rl : Int) (a0 : Int) (wr : Int) (s0 : Int) (s1 : Int) (rm : Int) (f : Int → Int) (wh : Int) (x9 : Int) (hn8 : 200 ≤ n) (hM : g 192 = oM ad ly th mk tx rl a0 wr s0 s1 rm) (hN : g 193 = aI κ 42 f) (hok : okPl ly f) (hwh : inI wh) (hx9 : inI x9) : Met l yX8_can wsX8_can ({ frames := 2, cells := 0, slots := 0, locals := 46 }) (gPre κ B n ad g [.ref (ad 192), .int (iz wh), .int (iz x9)]) (gQi κ B n ad (fun z g' => g' = g ∧ ((((wh = 0 ∧ 5 ≤ x9 ∧ x9 ≤ 60) ∨ (wh = 1 ∧ (x9 = 0 ∨ x9 = 1)) ∨ (wh = 2 ∧ 0 ≤ x9 ∧ x9 ≤ 20) ∨ (wh = 3 ∧ 0 ≤ x9 ∧ x9 < f 0)) ∧ z = 1) ∨ (¬ ((wh = 0 ∧ 5 ≤ x9 ∧ x9 ≤ 60) ∨ (wh = 1 ∧ (x9 = 0 ∨ x9 = 1)) ∨ (wh = 2 ∧ 0 ≤ x9 ∧ x9 ≤ 20) ∨ (wh = 3 ∧ 0 ≤ x9 ∧ x9 < f 0)) ∧ z = 0)))) 0 0 (gFree B) := by
  refine g_met RX8 (cc := cX8_can) (maxL := 3) (ret := (some .boolean)) (by decide) rfl rfl (Nat.le_of_ble_eq_true rfl) ?_
  intro p e s m args below meth c C hr hlk hnm G ls hl
  have hl : lv_has ls 3 [(0, .ref (ad 192)), (1, .int (iz wh)), (2, .int (iz x9))] := hl
  obtain ⟨hn6, hv0, hv25, hlay, hsee⟩ := id hok
  refine g_iload_n C dX8_can_0 rfl hl 1 rfl ?_
  by_cases e_1 : wh = 0
  · refine g_tswIn (v := 0) (off := 31) (tgt := 32) C dX8_can_1 e_1 (by decide) (by decide) (by decide) (by decide) (by decide) ?_
    refine g_iload_n C dX8_can_32 rfl hl 2 rfl ?_
    refine g_i2l C (by omega) dX8_can_33 ?_
    refine g_ldc2 (a := 5) C (by decide +kernel) dX8_can_34 ?_
    refine g_ldc2 (a := 60) C (by decide +kernel) dX8_can_37 ?_
    refine g_ci C G (g_runS (As := [.long (jz x9), .long (jz 5), .long (jz 60)]) (rest := []) C G (c_X8_in l κ B n ad g x9 5 60 (by omega) (by omega) (by omega)) (va_cwS 3 C.1.2.2.2.2 gX8_can_X8_in rfl rfl rfl (by decide +kernel) ⟨Nat.le_of_ble_eq_true rfl, Nat.le_of_ble_eq_true rfl⟩) rfl hl rfl (Nat.le_of_ble_eq_true rfl) dX8_can_40 ⟨Nat.le_of_ble_eq_true rfl, Nat.le_of_ble_eq_true rfl⟩) (fun z_3 g9 H locs hw G => ?_)
    obtain ⟨hg9, hw⟩ := hw
    replace hg9 := hg9.symm
    subst hg9
    rcases hw with ⟨b_2, rfl⟩ | ⟨b_2, rfl⟩
    · refine g_zret C G hr hlk (by decide) (Nat.le_of_ble_eq_true rfl) (Nat.le_of_ble_eq_true rfl) dX8_can_43 ?_
      exact ⟨rfl, by omega⟩
    · refine g_zret C G hr hlk (by decide) (Nat.le_of_ble_eq_true rfl) (Nat.le_of_ble_eq_true rfl) dX8_can_43 ?_
      exact ⟨rfl, by omega⟩
  by_cases e_4 : wh = 1
  · refine g_tswIn (v := 1) (off := 43) (tgt := 44) C dX8_can_1 e_4 (by decide) (by decide) (by decide) (by decide) (by decide) ?_
    refine g_iload_n C dX8_can_44 rfl hl 2 rfl ?_
    refine g_i2l C (by omega) dX8_can_45 ?_
    refine g_lconst (a := 0) C dX8_can_46 (by decide) ?_
    refine g_lconst (a := 1) C dX8_can_47 (by decide) ?_
    refine g_ci C G (g_runS (As := [.long (jz x9), .long (jz 0), .long (jz 1)]) (rest := []) C G (c_X8_in l κ B n ad g x9 0 1 (by omega) (by omega) (by omega)) (va_cwS 3 C.1.2.2.2.2 gX8_can_X8_in rfl rfl rfl (by decide +kernel) ⟨Nat.le_of_ble_eq_true rfl, Nat.le_of_ble_eq_true rfl⟩) rfl hl rfl (Nat.le_of_ble_eq_true rfl) dX8_can_48 ⟨Nat.le_of_ble_eq_true rfl, Nat.le_of_ble_eq_true rfl⟩) (fun z_6 g9 H locs hw G => ?_)
    obtain ⟨hg9, hw⟩ := hw
    replace hg9 := hg9.symm
    subst hg9
    rcases hw with ⟨b_5, rfl⟩ | ⟨b_5, rfl⟩
    · refine g_zret C G hr hlk (by decide) (Nat.le_of_ble_eq_true rfl) (Nat.le_of_ble_eq_true rfl) dX8_can_51 ?_
      exact ⟨rfl, by omega⟩
    · refine g_zret C G hr hlk (by decide) (Nat.le_of_ble_eq_true rfl) (Nat.le_of_ble_eq_true rfl) dX8_can_51 ?_
      exact ⟨rfl, by omega⟩
  by_cases e_7 : wh = 2
  · refine g_tswIn (v := 2) (off := 51) (tgt := 52) C dX8_can_1 e_7 (by decide) (by decide) (by decide) (by decide) (by decide) ?_
    refine g_iload_n C dX8_can_52 rfl hl 2 rfl ?_
    refine g_i2l C (by omega) dX8_can_53 ?_
    refine g_lconst (a := 0) C dX8_can_54 (by decide) ?_
    refine g_ldc2 (a := 20) C (by decide +kernel) dX8_can_55 ?_
    refine g_ci C G (g_runS (As := [.long (jz x9), .long (jz 0), .long (jz 20)]) (rest := []) C G (c_X8_in l κ B n ad g x9 0 20 (by omega) (by omega) (by omega)) (va_cwS 3 C.1.2.2.2.2 gX8_can_X8_in rfl rfl rfl (by decide +kernel) ⟨Nat.le_of_ble_eq_true rfl, Nat.le_of_ble_eq_true rfl⟩) rfl hl rfl (Nat.le_of_ble_eq_true rfl) dX8_can_58 ⟨Nat.le_of_ble_eq_true rfl, Nat.le_of_ble_eq_true rfl⟩) (fun z_9 g9 H locs hw G => ?_)
    obtain ⟨hg9, hw⟩ := hw
    replace hg9 := hg9.symm
    subst hg9
    rcases hw with ⟨b_8, rfl⟩ | ⟨b_8, rfl⟩
    · refine g_zret C G hr hlk (by decide) (Nat.le_of_ble_eq_true rfl) (Nat.le_of_ble_eq_true rfl) dX8_can_61 ?_
      exact ⟨rfl, by omega⟩
    · refine g_zret C G hr hlk (by decide) (Nat.le_of_ble_eq_true rfl) (Nat.le_of_ble_eq_true rfl) dX8_can_61 ?_
      exact ⟨rfl, by omega⟩
  by_cases e_10 : wh = 3
  · refine g_tswIn (v := 3) (off := 61) (tgt := 62) C dX8_can_1 e_10 (by decide) (by decide) (by decide) (by decide) (by decide) ?_
    refine g_aload_n C dX8_can_62 rfl hl 0 rfl ?_
    refine g_iload_n C dX8_can_63 rfl hl 2 rfl ?_
    refine g_ci C G (g_runV (As := [.int (iz x9)]) (rest := []) (pos := 192) C G (c_X8_isAngle l κ B n ad g ly th mk tx rl a0 wr s0 s1 rm f x9 hn8 hM hN hok (by omega)) (cwV 1 C.1.2.2.2.2 gX8_can_X8_isAngle rfl rfl rfl (by decide +kernel) ⟨Nat.le_of_ble_eq_true rfl, Nat.le_of_ble_eq_true rfl⟩) (by omega) hM (T := TX8) (N := 17) rfl rfl hl rfl (Nat.le_of_ble_eq_true rfl) dX8_can_64 ⟨Nat.le_of_ble_eq_true rfl, Nat.le_of_ble_eq_true rfl⟩) (fun z_12 g9 H locs hw G => ?_)
    obtain ⟨hg9, hw⟩ := hw
    replace hg9 := hg9.symm
    subst hg9
    rcases hw with ⟨b_11, rfl⟩ | ⟨b_11, rfl⟩
    · refine g_zret C G hr hlk (by decide) (Nat.le_of_ble_eq_true rfl) (Nat.le_of_ble_eq_true rfl) dX8_can_67 ?_
      exact ⟨rfl, by omega⟩
    · refine g_zret C G hr hlk (by decide) (Nat.le_of_ble_eq_true rfl) (Nat.le_of_ble_eq_true rfl) dX8_can_67 ?_
      exact ⟨rfl, by omega⟩
  refine g_tswOut (tgt := 68) C (by omega) dX8_can_1 (by omega) (by decide) ?_
  refine g_iconst (a := 0) C dX8_can_68 rfl ?_
  refine g_zret C G hr hlk (by decide) (Nat.le_of_ble_eq_true rfl) (Nat.le_of_ble_eq_true rfl) dX8_can_69 ?_
  exact ⟨rfl, by omega⟩
set_option maxHeartbeats 4000000 in
set_option maxRecDepth 100000 in
theorem c_X8_canBe (l : Launch) (κ : gKap) (B n : Nat) (ad : Nat → Nat) (g : Nat → va_E) (ly : Int) (th : Int) (mk : Int) (tx : Int) (rl : Int) (a0 : Int) (wr : Int) (s0 : Int) (s1 : Int) (rm : Int) (f : Int → Int) (qw : Int) (qs : Int) (qh : Int) (qt : Int) (hn8 : 200 ≤ n) (hM : g 192 = oM ad ly th mk tx rl a0 wr s0 s1 rm) (hN : g 193 = aI κ 42 f) (hok : okPl ly f) (hqw : inI qw) (hqs : inI qs) (hqh : inI qh) (hqt : inI qt) : Met l yX8_canBe wsX8_canBe ({ frames := 3, cells := 0, slots := 0, locals := 68 }) (gPre κ B n ad g [.ref (ad 192), .int (iz qw), .int (iz qs), .int (iz qh), .int (iz qt)]) (gQi κ B n ad (fun z g' => g' = g ∧ ((((5 ≤ qw ∧ qw ≤ 60) ∧ (qs = 0 ∨ qs = 1) ∧ (0 ≤ qh ∧ qh ≤ 20) ∧ 0 ≤ qt ∧ qt < f 0) ∧ z = 1) ∨ (¬ ((5 ≤ qw ∧ qw ≤ 60) ∧ (qs = 0 ∨ qs = 1) ∧ (0 ≤ qh ∧ qh ≤ 20) ∧ 0 ≤ qt ∧ qt < f 0) ∧ z = 0)))) 0 0 (gFree B) := by
  refine g_met RX8 (cc := cX8_canBe) (maxL := 5) (ret := (some .boolean)) (by decide) rfl rfl (Nat.le_of_ble_eq_true rfl) ?_
  intro p e s m args below meth c C hr hlk hnm G ls hl
  have hl : lv_has ls 5 [(0, .ref (ad 192)), (1, .int (iz qw)), (2, .int (iz qs)), (3, .int (iz qh)), (4, .int (iz qt))] := hl
  obtain ⟨hn6, hv0, hv25, hlay, hsee⟩ := id hok
  refine g_aload_n C dX8_canBe_0 rfl hl 0 rfl ?_
  refine g_iconst (a := 0) C dX8_canBe_1 rfl ?_
  refine g_iload_n C dX8_canBe_2 rfl hl 1 rfl ?_
  refine g_ci C G (g_runV (As := [.int (iz 0), .int (iz qw)]) (rest := []) (pos := 192) C G (c_X8_can l κ B n ad g ly th mk tx rl a0 wr s0 s1 rm f 0 qw hn8 hM hN hok (by omega) (by omega)) (cwV 2 C.1.2.2.2.2 gX8_canBe_X8_can rfl rfl rfl (by decide +kernel) ⟨Nat.le_of_ble_eq_true rfl, Nat.le_of_ble_eq_true rfl⟩) (by omega) hM (T := TX8) (N := 17) rfl rfl hl rfl (Nat.le_of_ble_eq_true rfl) dX8_canBe_3 ⟨Nat.le_of_ble_eq_true rfl, Nat.le_of_ble_eq_true rfl⟩) (fun z_2 g9 H locs hw G => ?_)
  obtain ⟨hg9, hw⟩ := hw
  replace hg9 := hg9.symm
  subst hg9
  rcases hw with ⟨b_1, rfl⟩ | ⟨b_1, rfl⟩
  · refine g_if_eq (tgt := 41) C (by decide) dX8_canBe_6 (by decide) (fun c9 => absurd c9 (by decide)) (fun _ => ?_)
    refine g_aload_n C dX8_canBe_9 rfl hl 0 rfl ?_
    refine g_iconst (a := 1) C dX8_canBe_10 rfl ?_
    refine g_iload_n C dX8_canBe_11 rfl hl 2 rfl ?_
    refine g_ci C G (g_runV (As := [.int (iz 1), .int (iz qs)]) (rest := []) (pos := 192) C G (c_X8_can l κ B n ad g ly th mk tx rl a0 wr s0 s1 rm f 1 qs hn8 hM hN hok (by omega) (by omega)) (cwV 2 C.1.2.2.2.2 gX8_canBe_X8_can rfl rfl rfl (by decide +kernel) ⟨Nat.le_of_ble_eq_true rfl, Nat.le_of_ble_eq_true rfl⟩) (by omega) hM (T := TX8) (N := 17) rfl rfl hl rfl (Nat.le_of_ble_eq_true rfl) dX8_canBe_12 ⟨Nat.le_of_ble_eq_true rfl, Nat.le_of_ble_eq_true rfl⟩) (fun z_4 g9 H locs hw G => ?_)
    obtain ⟨hg9, hw⟩ := hw
    replace hg9 := hg9.symm
    subst hg9
    rcases hw with ⟨b_3, rfl⟩ | ⟨b_3, rfl⟩
    · refine g_if_eq (tgt := 41) C (by decide) dX8_canBe_15 (by decide) (fun c9 => absurd c9 (by decide)) (fun _ => ?_)
      refine g_aload_n C dX8_canBe_18 rfl hl 0 rfl ?_
      refine g_iconst (a := 2) C dX8_canBe_19 rfl ?_
      refine g_iload_n C dX8_canBe_20 rfl hl 3 rfl ?_
      refine g_ci C G (g_runV (As := [.int (iz 2), .int (iz qh)]) (rest := []) (pos := 192) C G (c_X8_can l κ B n ad g ly th mk tx rl a0 wr s0 s1 rm f 2 qh hn8 hM hN hok (by omega) (by omega)) (cwV 2 C.1.2.2.2.2 gX8_canBe_X8_can rfl rfl rfl (by decide +kernel) ⟨Nat.le_of_ble_eq_true rfl, Nat.le_of_ble_eq_true rfl⟩) (by omega) hM (T := TX8) (N := 17) rfl rfl hl rfl (Nat.le_of_ble_eq_true rfl) dX8_canBe_21 ⟨Nat.le_of_ble_eq_true rfl, Nat.le_of_ble_eq_true rfl⟩) (fun z_6 g9 H locs hw G => ?_)
      obtain ⟨hg9, hw⟩ := hw
      replace hg9 := hg9.symm
      subst hg9
      rcases hw with ⟨b_5, rfl⟩ | ⟨b_5, rfl⟩
      · refine g_if_eq (tgt := 41) C (by decide) dX8_canBe_24 (by decide) (fun c9 => absurd c9 (by decide)) (fun _ => ?_)
        refine g_aload_n C dX8_canBe_27 rfl hl 0 rfl ?_
        refine g_iconst (a := 3) C dX8_canBe_28 rfl ?_
        refine g_iload C dX8_canBe_29 hl 4 rfl ?_
        refine g_ci C G (g_runV (As := [.int (iz 3), .int (iz qt)]) (rest := []) (pos := 192) C G (c_X8_can l κ B n ad g ly th mk tx rl a0 wr s0 s1 rm f 3 qt hn8 hM hN hok (by omega) (by omega)) (cwV 2 C.1.2.2.2.2 gX8_canBe_X8_can rfl rfl rfl (by decide +kernel) ⟨Nat.le_of_ble_eq_true rfl, Nat.le_of_ble_eq_true rfl⟩) (by omega) hM (T := TX8) (N := 17) rfl rfl hl rfl (Nat.le_of_ble_eq_true rfl) dX8_canBe_31 ⟨Nat.le_of_ble_eq_true rfl, Nat.le_of_ble_eq_true rfl⟩) (fun z_8 g9 H locs hw G => ?_)
        obtain ⟨hg9, hw⟩ := hw
        replace hg9 := hg9.symm
        subst hg9
        rcases hw with ⟨b_7, rfl⟩ | ⟨b_7, rfl⟩
        · refine g_if_eq (tgt := 41) C (by decide) dX8_canBe_34 (by decide) (fun c9 => absurd c9 (by decide)) (fun _ => ?_)
          refine g_iconst (a := 1) C dX8_canBe_37 rfl ?_
          refine g_goto (tgt := 42) C dX8_canBe_38 (by decide) ?_
          refine g_zret C G hr hlk (by decide) (Nat.le_of_ble_eq_true rfl) (Nat.le_of_ble_eq_true rfl) dX8_canBe_42 ?_
          exact ⟨rfl, by omega⟩
        · refine g_if_eq (tgt := 41) C (by decide) dX8_canBe_34 (by decide) (fun _ => ?_) (fun c9 => absurd c9 (by decide))
          refine g_iconst (a := 0) C dX8_canBe_41 rfl ?_
          refine g_zret C G hr hlk (by decide) (Nat.le_of_ble_eq_true rfl) (Nat.le_of_ble_eq_true rfl) dX8_canBe_42 ?_
          exact ⟨rfl, by omega⟩
      · refine g_if_eq (tgt := 41) C (by decide) dX8_canBe_24 (by decide) (fun _ => ?_) (fun c9 => absurd c9 (by decide))
        refine g_iconst (a := 0) C dX8_canBe_41 rfl ?_
        refine g_zret C G hr hlk (by decide) (Nat.le_of_ble_eq_true rfl) (Nat.le_of_ble_eq_true rfl) dX8_canBe_42 ?_
        exact ⟨rfl, by omega⟩
    · refine g_if_eq (tgt := 41) C (by decide) dX8_canBe_15 (by decide) (fun _ => ?_) (fun c9 => absurd c9 (by decide))
      refine g_iconst (a := 0) C dX8_canBe_41 rfl ?_
      refine g_zret C G hr hlk (by decide) (Nat.le_of_ble_eq_true rfl) (Nat.le_of_ble_eq_true rfl) dX8_canBe_42 ?_
      exact ⟨rfl, by omega⟩
  · refine g_if_eq (tgt := 41) C (by decide) dX8_canBe_6 (by decide) (fun _ => ?_) (fun c9 => absurd c9 (by decide))
    refine g_iconst (a := 0) C dX8_canBe_41 rfl ?_
    refine g_zret C G hr hlk (by decide) (Nat.le_of_ble_eq_true rfl) (Nat.le_of_ble_eq_true rfl) dX8_canBe_42 ?_
    exact ⟨rfl, by omega⟩
theorem fX8_leastOfAll_35 : gFld wsX8_leastOfAll RX8 35 8 1 := ⟨RX8, TX8, 17, rfl, by decide, by decide +kernel, by decide +kernel⟩
set_option maxHeartbeats 4000000 in
set_option maxRecDepth 100000 in
theorem c_X8_leastOfAll (l : Launch) (κ : gKap) (B n : Nat) (ad : Nat → Nat) (g : Nat → va_E) (ly : Int) (th : Int) (mk : Int) (tx : Int) (rl : Int) (a0 : Int) (wr : Int) (s0 : Int) (s1 : Int) (rm : Int) (f : Int → Int) (hn8 : 200 ≤ n) (hM : g 192 = oM ad ly th mk tx rl a0 wr s0 s1 rm) (hN : g 193 = aI κ 42 f) (hok : okPl ly f) : Met l yX8_leastOfAll wsX8_leastOfAll ({ frames := 3, cells := 0, slots := 0, locals := 74 }) (gPre κ B n ad g [.ref (ad 192)]) (gQi κ B n ad (fun z g' => g' = g ∧ (z = lsA f ly.toNat ∧ (z = -9 ∨ (120 ≤ z ∧ z ≤ 280))))) 0 0 (gFree B) := by
  refine g_met RX8 (cc := cX8_leastOfAll) (maxL := 4) (ret := (some .int)) (by decide) rfl rfl (Nat.le_of_ble_eq_true rfl) ?_
  intro p e s m args below meth c C hr hlk hnm G ls hl
  have hl : lv_has ls 4 [(0, .ref (ad 192))] := hl
  obtain ⟨hn6, hv0, hv25, hlay, hsee⟩ := id hok
  refine g_bipush (a := (-9)) C dX8_leastOfAll_0 (by decide) ?_
  refine lv_istore_n (lv' := [(1, .int (iz (-9))), (0, .ref (ad 192))]) C.1.1 C.1.2.1 dX8_leastOfAll_2 rfl hl (by decide) rfl (fun ls hl => ?_)
  refine g_iconst (a := 0) C dX8_leastOfAll_3 rfl ?_
  refine lv_istore_n (lv' := [(2, .int (iz 0)), (1, .int (iz (-9))), (0, .ref (ad 192))]) C.1.1 C.1.2.1 dX8_leastOfAll_4 rfl hl (by decide) rfl (fun ls hl => ?_)
  have lp_5_n_2 : ∀ (k_1 : Nat) (le : Int) (k : Int), (ly - k).toNat < k_1 → (0 ≤ k ∧ k ≤ ly) → (le = -9 ∨ (120 ≤ le ∧ le ≤ 280)) → (le = lsA f k.toNat) → ∀ (H : Heap) (locs : List Loc), gG κ B n ad s g H locs → ∀ (ls : Array Slot), lv_has ls 4 [(0, .ref (ad 192)), (1, .int (iz le)), (2, .int (iz k))] → W p l e ({ frames := 3, cells := 0, slots := 0, locals := 74 }) s m args below meth c H locs 0 0 (MQ below (gQi κ B n ad (fun z g' => g' = g ∧ (z = lsA f ly.toNat ∧ (z = -9 ∨ (120 ≤ z ∧ z ≤ 280))))) args s 0 0 (gFree B)) (F0 m 5 ls []) := by
    intro k_1
    induction k_1 with
    | zero => intro le k hm; exact absurd hm (Nat.not_lt_zero _)
    | succ k_1 ih_lp_5_n_2 =>
      intro le k hm hk hl0 hle H locs G ls hl
      refine g_iload_n C dX8_leastOfAll_5 rfl hl 2 rfl ?_
      refine g_aload_n C dX8_leastOfAll_6 rfl hl 0 rfl ?_
      refine g_get C G (pos := 192) fX8_leastOfAll_35 (by omega) hM rfl dX8_leastOfAll_7 ?_
      refine g_icmp_ge (tgt := 42) C (by omega) (by omega) dX8_leastOfAll_10 (by decide) (fun c_3 => ?_) (fun c_3 => ?_)
      · refine g_iload_n C dX8_leastOfAll_42 rfl hl 1 rfl ?_
        refine g_iret C G hr hlk (Nat.le_of_ble_eq_true rfl) (Nat.le_of_ble_eq_true rfl) dX8_leastOfAll_43 ?_
        have hk9 : k = ly := by omega
        rw [hk9] at hle
        exact ⟨rfl, hle, hl0⟩
      · refine g_aload_n C dX8_leastOfAll_13 rfl hl 0 rfl ?_
        refine g_iload_n C dX8_leastOfAll_14 rfl hl 2 rfl ?_
        refine g_ci C G (g_runV (As := [.int (iz k)]) (rest := []) (pos := 192) C G (c_X8_least l κ B n ad g ly th mk tx rl a0 wr s0 s1 rm f k hn8 hM hN hok (by omega)) (cwV 1 C.1.2.2.2.2 gX8_leastOfAll_X8_least rfl rfl rfl (by decide +kernel) ⟨Nat.le_of_ble_eq_true rfl, Nat.le_of_ble_eq_true rfl⟩) (by omega) hM (T := TX8) (N := 17) rfl rfl hl rfl (Nat.le_of_ble_eq_true rfl) dX8_leastOfAll_15 ⟨Nat.le_of_ble_eq_true rfl, Nat.le_of_ble_eq_true rfl⟩) (fun z_4 g9 H locs hw G => ?_)
        obtain ⟨hg9, h_5⟩ := hw
        replace hg9 := hg9.symm
        subst hg9
        refine lv_istore_n (lv' := [(3, .int (iz z_4)), (0, .ref (ad 192)), (1, .int (iz le)), (2, .int (iz k))]) C.1.1 C.1.2.1 dX8_leastOfAll_18 rfl hl (by decide) rfl (fun ls hl => ?_)
        refine g_iload_n C dX8_leastOfAll_19 rfl hl 2 rfl ?_
        refine g_bipush (a := (-9)) C dX8_leastOfAll_20 (by decide) ?_
        refine g_icmp_eq (tgt := 30) C (by omega) (by omega) dX8_leastOfAll_22 (by decide) (fun c_6 => ?_) (fun c_6 => ?_)
        · refine g_iload_n C dX8_leastOfAll_30 rfl hl 0 rfl ?_
          refine g_goto (tgt := 35) C dX8_leastOfAll_31 (by decide) ?_
          refine lv_istore_n (lv' := [(1, .int (iz z_4)), (3, .int (iz z_4)), (0, .ref (ad 192)), (2, .int (iz k))]) C.1.1 C.1.2.1 dX8_leastOfAll_35 rfl hl (by decide) rfl (fun ls hl => ?_)
          refine lv_iinc (v := iz (k + 1)) (lv' := [(2, .int (iz (k + 1))), (1, .int (iz z_4)), (3, .int (iz z_4)), (0, .ref (ad 192))]) C.1.1 C.1.2.1 dX8_leastOfAll_36 hl (k := 3) rfl (g_inc (by omega)) (by decide) rfl (fun ls hl => ?_)
          refine g_goto (tgt := 5) C dX8_leastOfAll_39 (by decide) ?_
          exact ih_lp_5_n_2 z_4 (k + 1) (by omega) (by omega) (by omega) (by have e1 : z_4 = lsr f k := h_5.1; rw [lsA_step f hk.1, ← hle, if_pos (by omega)]; omega) _ _ G _ (lv_sub hl [3, 1, 0] rfl)
        · refine g_iload_n C dX8_leastOfAll_25 rfl hl 0 rfl ?_
          refine g_iload_n C dX8_leastOfAll_26 rfl hl 2 rfl ?_
          refine g_icmp_ge (tgt := 34) C (by omega) (by omega) dX8_leastOfAll_27 (by decide) (fun c_7 => ?_) (fun c_7 => ?_)
          · refine g_iload_n C dX8_leastOfAll_34 rfl hl 2 rfl ?_
            refine lv_istore_n (lv' := [(1, .int (iz le)), (3, .int (iz z_4)), (0, .ref (ad 192)), (2, .int (iz k))]) C.1.1 C.1.2.1 dX8_leastOfAll_35 rfl hl (by decide) rfl (fun ls hl => ?_)
            refine lv_iinc (v := iz (k + 1)) (lv' := [(2, .int (iz (k + 1))), (1, .int (iz le)), (3, .int (iz z_4)), (0, .ref (ad 192))]) C.1.1 C.1.2.1 dX8_leastOfAll_36 hl (k := 3) rfl (g_inc (by omega)) (by decide) rfl (fun ls hl => ?_)
            refine g_goto (tgt := 5) C dX8_leastOfAll_39 (by decide) ?_
            exact ih_lp_5_n_2 le (k + 1) (by omega) (by omega) (by omega) (by have e1 : z_4 = lsr f k := h_5.1; rw [lsA_step f hk.1, ← hle, if_neg (by omega)]) _ _ G _ (lv_sub hl [3, 1, 0] rfl)
          · refine g_iload_n C dX8_leastOfAll_30 rfl hl 0 rfl ?_
            refine g_goto (tgt := 35) C dX8_leastOfAll_31 (by decide) ?_
            refine lv_istore_n (lv' := [(1, .int (iz z_4)), (3, .int (iz z_4)), (0, .ref (ad 192)), (2, .int (iz k))]) C.1.1 C.1.2.1 dX8_leastOfAll_35 rfl hl (by decide) rfl (fun ls hl => ?_)
            refine lv_iinc (v := iz (k + 1)) (lv' := [(2, .int (iz (k + 1))), (1, .int (iz z_4)), (3, .int (iz z_4)), (0, .ref (ad 192))]) C.1.1 C.1.2.1 dX8_leastOfAll_36 hl (k := 3) rfl (g_inc (by omega)) (by decide) rfl (fun ls hl => ?_)
            refine g_goto (tgt := 5) C dX8_leastOfAll_39 (by decide) ?_
            exact ih_lp_5_n_2 z_4 (k + 1) (by omega) (by omega) (by omega) (by have e1 : z_4 = lsr f k := h_5.1; rw [lsA_step f hk.1, ← hle, if_pos (by omega)]; omega) _ _ G _ (lv_sub hl [3, 1, 0] rfl)
  exact lp_5_n_2 _ (-9) 0 (Nat.lt_succ_self _) (by omega) (by omega) rfl _ _ G _ (lv_sub hl [2, 1, 0] rfl)
theorem fX8_greatestOfAll_35 : gFld wsX8_greatestOfAll RX8 35 8 1 := ⟨RX8, TX8, 17, rfl, by decide, by decide +kernel, by decide +kernel⟩
set_option maxHeartbeats 4000000 in
set_option maxRecDepth 100000 in
theorem c_X8_greatestOfAll (l : Launch) (κ : gKap) (B n : Nat) (ad : Nat → Nat) (g : Nat → va_E) (ly : Int) (th : Int) (mk : Int) (tx : Int) (rl : Int) (a0 : Int) (wr : Int) (s0 : Int) (s1 : Int) (rm : Int) (f : Int → Int) (hn8 : 200 ≤ n) (hM : g 192 = oM ad ly th mk tx rl a0 wr s0 s1 rm) (hN : g 193 = aI κ 42 f) (hok : okPl ly f) : Met l yX8_greatestOfAll wsX8_greatestOfAll ({ frames := 3, cells := 0, slots := 0, locals := 74 }) (gPre κ B n ad g [.ref (ad 192)]) (gQi κ B n ad (fun z g' => g' = g ∧ (z = grA f ly.toNat ∧ (z = -9 ∨ (120 ≤ z ∧ z ≤ 280))))) 0 0 (gFree B) := by
  refine g_met RX8 (cc := cX8_greatestOfAll) (maxL := 4) (ret := (some .int)) (by decide) rfl rfl (Nat.le_of_ble_eq_true rfl) ?_
  intro p e s m args below meth c C hr hlk hnm G ls hl
  have hl : lv_has ls 4 [(0, .ref (ad 192))] := hl
  obtain ⟨hn6, hv0, hv25, hlay, hsee⟩ := id hok
  refine g_bipush (a := (-9)) C dX8_greatestOfAll_0 (by decide) ?_
  refine lv_istore_n (lv' := [(1, .int (iz (-9))), (0, .ref (ad 192))]) C.1.1 C.1.2.1 dX8_greatestOfAll_2 rfl hl (by decide) rfl (fun ls hl => ?_)
  refine g_iconst (a := 0) C dX8_greatestOfAll_3 rfl ?_
  refine lv_istore_n (lv' := [(2, .int (iz 0)), (1, .int (iz (-9))), (0, .ref (ad 192))]) C.1.1 C.1.2.1 dX8_greatestOfAll_4 rfl hl (by decide) rfl (fun ls hl => ?_)
  have lp_5_n_2 : ∀ (k_1 : Nat) (le : Int) (k : Int), (ly - k).toNat < k_1 → (0 ≤ k ∧ k ≤ ly) → (le = -9 ∨ (120 ≤ le ∧ le ≤ 280)) → (le = grA f k.toNat) → ∀ (H : Heap) (locs : List Loc), gG κ B n ad s g H locs → ∀ (ls : Array Slot), lv_has ls 4 [(0, .ref (ad 192)), (1, .int (iz le)), (2, .int (iz k))] → W p l e ({ frames := 3, cells := 0, slots := 0, locals := 74 }) s m args below meth c H locs 0 0 (MQ below (gQi κ B n ad (fun z g' => g' = g ∧ (z = grA f ly.toNat ∧ (z = -9 ∨ (120 ≤ z ∧ z ≤ 280))))) args s 0 0 (gFree B)) (F0 m 5 ls []) := by
    intro k_1
    induction k_1 with
    | zero => intro le k hm; exact absurd hm (Nat.not_lt_zero _)
    | succ k_1 ih_lp_5_n_2 =>
      intro le k hm hk hl0 hle H locs G ls hl
      refine g_iload_n C dX8_greatestOfAll_5 rfl hl 2 rfl ?_
      refine g_aload_n C dX8_greatestOfAll_6 rfl hl 0 rfl ?_
      refine g_get C G (pos := 192) fX8_greatestOfAll_35 (by omega) hM rfl dX8_greatestOfAll_7 ?_
      refine g_icmp_ge (tgt := 36) C (by omega) (by omega) dX8_greatestOfAll_10 (by decide) (fun c_3 => ?_) (fun c_3 => ?_)
      · refine g_iload_n C dX8_greatestOfAll_36 rfl hl 1 rfl ?_
        refine g_iret C G hr hlk (Nat.le_of_ble_eq_true rfl) (Nat.le_of_ble_eq_true rfl) dX8_greatestOfAll_37 ?_
        have hk9 : k = ly := by omega
        rw [hk9] at hle
        exact ⟨rfl, hle, hl0⟩
      · refine g_aload_n C dX8_greatestOfAll_13 rfl hl 0 rfl ?_
        refine g_iload_n C dX8_greatestOfAll_14 rfl hl 2 rfl ?_
        refine g_ci C G (g_runV (As := [.int (iz k)]) (rest := []) (pos := 192) C G (c_X8_greatest l κ B n ad g ly th mk tx rl a0 wr s0 s1 rm f k hn8 hM hN hok (by omega)) (cwV 1 C.1.2.2.2.2 gX8_greatestOfAll_X8_greatest rfl rfl rfl (by decide +kernel) ⟨Nat.le_of_ble_eq_true rfl, Nat.le_of_ble_eq_true rfl⟩) (by omega) hM (T := TX8) (N := 17) rfl rfl hl rfl (Nat.le_of_ble_eq_true rfl) dX8_greatestOfAll_15 ⟨Nat.le_of_ble_eq_true rfl, Nat.le_of_ble_eq_true rfl⟩) (fun z_4 g9 H locs hw G => ?_)
        obtain ⟨hg9, h_5⟩ := hw
        replace hg9 := hg9.symm
        subst hg9
        refine lv_istore_n (lv' := [(3, .int (iz z_4)), (0, .ref (ad 192)), (1, .int (iz le)), (2, .int (iz k))]) C.1.1 C.1.2.1 dX8_greatestOfAll_18 rfl hl (by decide) rfl (fun ls hl => ?_)
        refine g_iload_n C dX8_greatestOfAll_19 rfl hl 0 rfl ?_
        refine g_iload_n C dX8_greatestOfAll_20 rfl hl 2 rfl ?_
        refine g_icmp_le (tgt := 28) C (by omega) (by omega) dX8_greatestOfAll_21 (by decide) (fun c_6 => ?_) (fun c_6 => ?_)
        · refine g_iload_n C dX8_greatestOfAll_28 rfl hl 2 rfl ?_
          refine lv_istore_n (lv' := [(1, .int (iz le)), (3, .int (iz z_4)), (0, .ref (ad 192)), (2, .int (iz k))]) C.1.1 C.1.2.1 dX8_greatestOfAll_29 rfl hl (by decide) rfl (fun ls hl => ?_)
          refine lv_iinc (v := iz (k + 1)) (lv' := [(2, .int (iz (k + 1))), (1, .int (iz le)), (3, .int (iz z_4)), (0, .ref (ad 192))]) C.1.1 C.1.2.1 dX8_greatestOfAll_30 hl (k := 3) rfl (g_inc (by omega)) (by decide) rfl (fun ls hl => ?_)
          refine g_goto (tgt := 5) C dX8_greatestOfAll_33 (by decide) ?_
          exact ih_lp_5_n_2 le (k + 1) (by omega) (by omega) (by omega) (by have e1 : z_4 = grr f k := h_5.1; rw [grA_step f hk.1, ← hle, if_neg (by omega)]) _ _ G _ (lv_sub hl [3, 1, 0] rfl)
        · refine g_iload_n C dX8_greatestOfAll_24 rfl hl 0 rfl ?_
          refine g_goto (tgt := 29) C dX8_greatestOfAll_25 (by decide) ?_
          refine lv_istore_n (lv' := [(1, .int (iz z_4)), (3, .int (iz z_4)), (0, .ref (ad 192)), (2, .int (iz k))]) C.1.1 C.1.2.1 dX8_greatestOfAll_29 rfl hl (by decide) rfl (fun ls hl => ?_)
          refine lv_iinc (v := iz (k + 1)) (lv' := [(2, .int (iz (k + 1))), (1, .int (iz z_4)), (3, .int (iz z_4)), (0, .ref (ad 192))]) C.1.1 C.1.2.1 dX8_greatestOfAll_30 hl (k := 3) rfl (g_inc (by omega)) (by decide) rfl (fun ls hl => ?_)
          refine g_goto (tgt := 5) C dX8_greatestOfAll_33 (by decide) ?_
          exact ih_lp_5_n_2 z_4 (k + 1) (by omega) (by omega) (by omega) (by have e1 : z_4 = grr f k := h_5.1; rw [grA_step f hk.1, ← hle, if_pos (by omega)]; omega) _ _ G _ (lv_sub hl [3, 1, 0] rfl)
  exact lp_5_n_2 _ (-9) 0 (Nat.lt_succ_self _) (by omega) (by omega) rfl _ _ G _ (lv_sub hl [2, 1, 0] rfl)
set_option maxHeartbeats 4000000 in
set_option maxRecDepth 100000 in
theorem c_X8_isAhead (l : Launch) (κ : gKap) (B n : Nat) (ad : Nat → Nat) (g : Nat → va_E) (ly : Int) (th : Int) (mk : Int) (tx : Int) (rl : Int) (a0 : Int) (wr : Int) (s0 : Int) (s1 : Int) (rm : Int) (f : Int → Int) (la : Int) (lb9 : Int) (hn8 : 200 ≤ n) (hM : g 192 = oM ad ly th mk tx rl a0 wr s0 s1 rm) (hN : g 193 = aI κ 42 f) (hok : okPl ly f) (hla9 : 0 ≤ la ∧ la < ly) (hlb9 : 0 ≤ lb9 ∧ lb9 < ly) : Met l yX8_isAhead wsX8_isAhead ({ frames := 3, cells := 0, slots := 0, locals := 66 }) (gPre κ B n ad g [.ref (ad 192), .int (iz la), .int (iz lb9)]) (gQi κ B n ad (fun z g' => g' = g ∧ (((CBf f la lb9) ∧ z = 1) ∨ (¬ (CBf f la lb9) ∧ z = 0)))) 0 0 (gFree B) := by
  refine g_met RX8 (cc := cX8_isAhead) (maxL := 3) (ret := (some .boolean)) (by decide) rfl rfl (Nat.le_of_ble_eq_true rfl) ?_
  intro p e s m args below meth c C hr hlk hnm G ls hl
  have hl : lv_has ls 3 [(0, .ref (ad 192)), (1, .int (iz la)), (2, .int (iz lb9))] := hl
  obtain ⟨hn6, hv0, hv25, hlay, hsee⟩ := id hok
  refine g_aload_n C dX8_isAhead_0 rfl hl 0 rfl ?_
  refine g_iload_n C dX8_isAhead_1 rfl hl 1 rfl ?_
  refine g_ci C G (g_runV (As := [.int (iz la)]) (rest := []) (pos := 192) C G (c_X8_turns l κ B n ad g ly th mk tx rl a0 wr s0 s1 rm f la hn8 hM hN hok (by omega)) (cwV 1 C.1.2.2.2.2 gX8_isAhead_X8_turns rfl rfl rfl (by decide +kernel) ⟨Nat.le_of_ble_eq_true rfl, Nat.le_of_ble_eq_true rfl⟩) (by omega) hM (T := TX8) (N := 17) rfl rfl hl rfl (Nat.le_of_ble_eq_true rfl) dX8_isAhead_2 ⟨Nat.le_of_ble_eq_true rfl, Nat.le_of_ble_eq_true rfl⟩) (fun z_1 g9 H locs hw G => ?_)
  obtain ⟨hg9, h_2⟩ := hw
  replace hg9 := hg9.symm
  subst hg9
  refine g_aload_n C dX8_isAhead_5 rfl hl 0 rfl ?_
  refine g_iload_n C dX8_isAhead_6 rfl hl 2 rfl ?_
  refine g_ci C G (g_runV (As := [.int (iz lb9)]) (rest := [.int (iz z_1)]) (pos := 192) C G (c_X8_turns l κ B n ad g ly th mk tx rl a0 wr s0 s1 rm f lb9 hn8 hM hN hok (by omega)) (cwV 1 C.1.2.2.2.2 gX8_isAhead_X8_turns rfl rfl rfl (by decide +kernel) ⟨Nat.le_of_ble_eq_true rfl, Nat.le_of_ble_eq_true rfl⟩) (by omega) hM (T := TX8) (N := 17) rfl rfl hl rfl (Nat.le_of_ble_eq_true rfl) dX8_isAhead_7 ⟨Nat.le_of_ble_eq_true rfl, Nat.le_of_ble_eq_true rfl⟩) (fun z_3 g9 H locs hw G => ?_)
  obtain ⟨hg9, h_4⟩ := hw
  replace hg9 := hg9.symm
  subst hg9
  refine g_icmp_eq (tgt := 32) C (by omega) (by omega) dX8_isAhead_10 (by decide) (fun c_5 => ?_) (fun c_5 => ?_)
  · refine g_aload_n C dX8_isAhead_32 rfl hl 0 rfl ?_
    refine g_iload_n C dX8_isAhead_33 rfl hl 1 rfl ?_
    refine g_ci C G (g_runV (As := [.int (iz la)]) (rest := []) (pos := 192) C G (c_X8_lobes l κ B n ad g ly th mk tx rl a0 wr s0 s1 rm f la hn8 hM hN hok (by omega)) (cwV 1 C.1.2.2.2.2 gX8_isAhead_X8_lobes rfl rfl rfl (by decide +kernel) ⟨Nat.le_of_ble_eq_true rfl, Nat.le_of_ble_eq_true rfl⟩) (by omega) hM (T := TX8) (N := 17) rfl rfl hl rfl (Nat.le_of_ble_eq_true rfl) dX8_isAhead_34 ⟨Nat.le_of_ble_eq_true rfl, Nat.le_of_ble_eq_true rfl⟩) (fun z_6 g9 H locs hw G => ?_)
    obtain ⟨hg9, h_7⟩ := hw
    replace hg9 := hg9.symm
    subst hg9
    refine g_aload_n C dX8_isAhead_37 rfl hl 0 rfl ?_
    refine g_iload_n C dX8_isAhead_38 rfl hl 2 rfl ?_
    refine g_ci C G (g_runV (As := [.int (iz lb9)]) (rest := [.int (iz z_6)]) (pos := 192) C G (c_X8_lobes l κ B n ad g ly th mk tx rl a0 wr s0 s1 rm f lb9 hn8 hM hN hok (by omega)) (cwV 1 C.1.2.2.2.2 gX8_isAhead_X8_lobes rfl rfl rfl (by decide +kernel) ⟨Nat.le_of_ble_eq_true rfl, Nat.le_of_ble_eq_true rfl⟩) (by omega) hM (T := TX8) (N := 17) rfl rfl hl rfl (Nat.le_of_ble_eq_true rfl) dX8_isAhead_39 ⟨Nat.le_of_ble_eq_true rfl, Nat.le_of_ble_eq_true rfl⟩) (fun z_8 g9 H locs hw G => ?_)
    obtain ⟨hg9, h_9⟩ := hw
    replace hg9 := hg9.symm
    subst hg9
    refine g_icmp_eq (tgt := 64) C (by omega) (by omega) dX8_isAhead_42 (by decide) (fun c_10 => ?_) (fun c_10 => ?_)
    · refine g_iload_n C dX8_isAhead_64 rfl hl 1 rfl ?_
      refine g_iload_n C dX8_isAhead_65 rfl hl 2 rfl ?_
      refine g_icmp_ge (tgt := 73) C (by omega) (by omega) dX8_isAhead_66 (by decide) (fun c_11 => ?_) (fun c_11 => ?_)
      · refine g_iconst (a := 0) C dX8_isAhead_73 rfl ?_
        refine g_zret C G hr hlk (by decide) (Nat.le_of_ble_eq_true rfl) (Nat.le_of_ble_eq_true rfl) dX8_isAhead_74 ?_
        have e0 := h_2.1
        have e1 := h_4.1
        have e4 := h_7.1
        have e5 := h_9.1
        refine ⟨rfl, ?_⟩
        unfold CBf
        refine Or.inr ⟨?_, rfl⟩
        repeat' split
        all_goals omega
      · refine g_iconst (a := 1) C dX8_isAhead_69 rfl ?_
        refine g_goto (tgt := 74) C dX8_isAhead_70 (by decide) ?_
        refine g_zret C G hr hlk (by decide) (Nat.le_of_ble_eq_true rfl) (Nat.le_of_ble_eq_true rfl) dX8_isAhead_74 ?_
        have e0 := h_2.1
        have e1 := h_4.1
        have e4 := h_7.1
        have e5 := h_9.1
        refine ⟨rfl, ?_⟩
        unfold CBf
        refine Or.inl ⟨?_, rfl⟩
        repeat' split
        all_goals omega
    · refine g_aload_n C dX8_isAhead_45 rfl hl 0 rfl ?_
      refine g_iload_n C dX8_isAhead_46 rfl hl 1 rfl ?_
      refine g_ci C G (g_runV (As := [.int (iz la)]) (rest := []) (pos := 192) C G (c_X8_lobes l κ B n ad g ly th mk tx rl a0 wr s0 s1 rm f la hn8 hM hN hok (by omega)) (cwV 1 C.1.2.2.2.2 gX8_isAhead_X8_lobes rfl rfl rfl (by decide +kernel) ⟨Nat.le_of_ble_eq_true rfl, Nat.le_of_ble_eq_true rfl⟩) (by omega) hM (T := TX8) (N := 17) rfl rfl hl rfl (Nat.le_of_ble_eq_true rfl) dX8_isAhead_47 ⟨Nat.le_of_ble_eq_true rfl, Nat.le_of_ble_eq_true rfl⟩) (fun z_12 g9 H locs hw G => ?_)
      obtain ⟨hg9, h_13⟩ := hw
      replace hg9 := hg9.symm
      subst hg9
      refine g_aload_n C dX8_isAhead_50 rfl hl 0 rfl ?_
      refine g_iload_n C dX8_isAhead_51 rfl hl 2 rfl ?_
      refine g_ci C G (g_runV (As := [.int (iz lb9)]) (rest := [.int (iz z_12)]) (pos := 192) C G (c_X8_lobes l κ B n ad g ly th mk tx rl a0 wr s0 s1 rm f lb9 hn8 hM hN hok (by omega)) (cwV 1 C.1.2.2.2.2 gX8_isAhead_X8_lobes rfl rfl rfl (by decide +kernel) ⟨Nat.le_of_ble_eq_true rfl, Nat.le_of_ble_eq_true rfl⟩) (by omega) hM (T := TX8) (N := 17) rfl rfl hl rfl (Nat.le_of_ble_eq_true rfl) dX8_isAhead_52 ⟨Nat.le_of_ble_eq_true rfl, Nat.le_of_ble_eq_true rfl⟩) (fun z_14 g9 H locs hw G => ?_)
      obtain ⟨hg9, h_15⟩ := hw
      replace hg9 := hg9.symm
      subst hg9
      refine g_icmp_le (tgt := 62) C (by omega) (by omega) dX8_isAhead_55 (by decide) (fun c_16 => ?_) (fun c_16 => ?_)
      · refine g_iconst (a := 0) C dX8_isAhead_62 rfl ?_
        refine g_zret C G hr hlk (by decide) (Nat.le_of_ble_eq_true rfl) (Nat.le_of_ble_eq_true rfl) dX8_isAhead_63 ?_
        have e0 := h_2.1
        have e1 := h_4.1
        have e4 := h_7.1
        have e5 := h_9.1
        have e6 := h_13.1
        have e7 := h_15.1
        refine ⟨rfl, ?_⟩
        unfold CBf
        refine Or.inr ⟨?_, rfl⟩
        repeat' split
        all_goals omega
      · refine g_iconst (a := 1) C dX8_isAhead_58 rfl ?_
        refine g_goto (tgt := 63) C dX8_isAhead_59 (by decide) ?_
        refine g_zret C G hr hlk (by decide) (Nat.le_of_ble_eq_true rfl) (Nat.le_of_ble_eq_true rfl) dX8_isAhead_63 ?_
        have e0 := h_2.1
        have e1 := h_4.1
        have e4 := h_7.1
        have e5 := h_9.1
        have e6 := h_13.1
        have e7 := h_15.1
        refine ⟨rfl, ?_⟩
        unfold CBf
        refine Or.inl ⟨?_, rfl⟩
        repeat' split
        all_goals omega
  · refine g_aload_n C dX8_isAhead_13 rfl hl 0 rfl ?_
    refine g_iload_n C dX8_isAhead_14 rfl hl 1 rfl ?_
    refine g_ci C G (g_runV (As := [.int (iz la)]) (rest := []) (pos := 192) C G (c_X8_turns l κ B n ad g ly th mk tx rl a0 wr s0 s1 rm f la hn8 hM hN hok (by omega)) (cwV 1 C.1.2.2.2.2 gX8_isAhead_X8_turns rfl rfl rfl (by decide +kernel) ⟨Nat.le_of_ble_eq_true rfl, Nat.le_of_ble_eq_true rfl⟩) (by omega) hM (T := TX8) (N := 17) rfl rfl hl rfl (Nat.le_of_ble_eq_true rfl) dX8_isAhead_15 ⟨Nat.le_of_ble_eq_true rfl, Nat.le_of_ble_eq_true rfl⟩) (fun z_17 g9 H locs hw G => ?_)
    obtain ⟨hg9, h_18⟩ := hw
    replace hg9 := hg9.symm
    subst hg9
    refine g_aload_n C dX8_isAhead_18 rfl hl 0 rfl ?_
    refine g_iload_n C dX8_isAhead_19 rfl hl 2 rfl ?_
    refine g_ci C G (g_runV (As := [.int (iz lb9)]) (rest := [.int (iz z_17)]) (pos := 192) C G (c_X8_turns l κ B n ad g ly th mk tx rl a0 wr s0 s1 rm f lb9 hn8 hM hN hok (by omega)) (cwV 1 C.1.2.2.2.2 gX8_isAhead_X8_turns rfl rfl rfl (by decide +kernel) ⟨Nat.le_of_ble_eq_true rfl, Nat.le_of_ble_eq_true rfl⟩) (by omega) hM (T := TX8) (N := 17) rfl rfl hl rfl (Nat.le_of_ble_eq_true rfl) dX8_isAhead_20 ⟨Nat.le_of_ble_eq_true rfl, Nat.le_of_ble_eq_true rfl⟩) (fun z_19 g9 H locs hw G => ?_)
    obtain ⟨hg9, h_20⟩ := hw
    replace hg9 := hg9.symm
    subst hg9
    refine g_icmp_ge (tgt := 30) C (by omega) (by omega) dX8_isAhead_23 (by decide) (fun c_21 => ?_) (fun c_21 => ?_)
    · refine g_iconst (a := 0) C dX8_isAhead_30 rfl ?_
      refine g_zret C G hr hlk (by decide) (Nat.le_of_ble_eq_true rfl) (Nat.le_of_ble_eq_true rfl) dX8_isAhead_31 ?_
      have e0 := h_2.1
      have e1 := h_4.1
      have e2 := h_18.1
      have e3 := h_20.1
      refine ⟨rfl, ?_⟩
      unfold CBf
      refine Or.inr ⟨?_, rfl⟩
      repeat' split
      all_goals omega
    · refine g_iconst (a := 1) C dX8_isAhead_26 rfl ?_
      refine g_goto (tgt := 31) C dX8_isAhead_27 (by decide) ?_
      refine g_zret C G hr hlk (by decide) (Nat.le_of_ble_eq_true rfl) (Nat.le_of_ble_eq_true rfl) dX8_isAhead_31 ?_
      have e0 := h_2.1
      have e1 := h_4.1
      have e2 := h_18.1
      have e3 := h_20.1
      refine ⟨rfl, ?_⟩
      unfold CBf
      refine Or.inl ⟨?_, rfl⟩
      repeat' split
      all_goals omega
