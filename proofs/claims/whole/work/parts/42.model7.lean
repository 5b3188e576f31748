/-! ROSETTEPLATEMODEL (X8): acts -/
theorem lay_v4 {f : Int → Int} {ly a b c9 d : Int} : vu (vu (vu (vu f (4 * ly + 1) a) (4 * ly + 2) b) (4 * ly + 3) c9) (4 * ly + 4) d = v4 f ly a b c9 d := by
  funext i
  unfold v4 vu
  repeat' split
  all_goals first | rfl | (exfalso; omega)
theorem fwX8_append_31 : gFldW wsX8_append RX8 31 8 2 .int false := ⟨RX8, TX8, 17, tyX8, rfl, by decide, by decide +kernel, by decide +kernel, tyX8_ok, nmX8, rfl, by decide +kernel, by decide +kernel⟩
theorem fX8_append_86 : gFld wsX8_append RX8 86 8 6 := ⟨RX8, TX8, 17, rfl, by decide, by decide +kernel, by decide +kernel⟩
theorem fX8_append_16 : gFld wsX8_append RX8 16 8 5 := ⟨RX8, TX8, 17, rfl, by decide, by decide +kernel, by decide +kernel⟩
theorem fwX8_append_86 : gFldW wsX8_append RX8 86 8 6 .int false := ⟨RX8, TX8, 17, tyX8, rfl, by decide, by decide +kernel, by decide +kernel, tyX8_ok, nmX8, rfl, by decide +kernel, by decide +kernel⟩
set_option maxHeartbeats 4000000 in
set_option maxRecDepth 100000 in
theorem c_X8_append (l : Launch) (κ : gKap) (B n : Nat) (ad : Nat → Nat) (g : Nat → va_E) (ly : Int) (th : Int) (mk : Int) (tx : Int) (rl : Int) (a0 : Int) (wr : Int) (s0 : Int) (s1 : Int) (rm : Int) (X9 : Int → Int) (ch : Int) (hn8 : 200 ≤ n) (hM : g 192 = oM ad ly th mk tx rl a0 wr s0 s1 rm) (hT : g 195 = aI κ 100 X9) (hch : inI ch) (htx : 0 ≤ tx ∧ tx ≤ 100) : Met l yX8_append wsX8_append ({ frames := 1, cells := 0, slots := 0, locals := 25 }) (gPre κ B n ad g [.ref (ad 192), .int (iz ch)]) (gQi κ B n ad (fun z g' => (¬ (0 ≤ ch ∧ ch ≤ 255) ∧ z = 0 ∧ g' 192 = oM ad ly 1 mk tx rl a0 wr s0 s1 rm ∧ g' 195 = aI κ 100 X9 ∧ ∀ q, q ≠ 192 → q ≠ 195 → g' q = g q) ∨ ((0 ≤ ch ∧ ch ≤ 255) ∧ tx = 100 ∧ z = 0 ∧ g' 192 = oM ad ly 2 mk tx rl a0 wr s0 s1 rm ∧ g' 195 = aI κ 100 X9 ∧ ∀ q, q ≠ 192 → q ≠ 195 → g' q = g q) ∨ ((0 ≤ ch ∧ ch ≤ 255) ∧ tx < 100 ∧ z = tx + 1 ∧ g' 192 = oM ad ly 0 mk (tx + 1) rl a0 wr s0 s1 rm ∧ g' 195 = aI κ 100 (vu X9 tx ch) ∧ ∀ q, q ≠ 192 → q ≠ 195 → g' q = g q))) 0 0 (gFree B) := by
  refine g_met RX8 (cc := cX8_append) (maxL := 2) (ret := (some .int)) (by decide) rfl rfl (Nat.le_of_ble_eq_true rfl) ?_
  intro p e s m args below meth c C hr hlk hnm G ls hl
  have hl : lv_has ls 2 [(0, .ref (ad 192)), (1, .int (iz ch))] := hl
  refine g_aload_n C dX8_append_0 rfl hl 0 rfl ?_
  refine g_iconst (a := 0) C dX8_append_1 rfl ?_
  refine g_put C G (pos := 192) (fs' := [.ref (ad 193), .int (iz ly), .int (iz 0), .ref (ad 194), .int (iz mk), .ref (ad 195), .int (iz tx), .ref (ad 196), .int (iz rl), .int (iz a0), .int (iz wr), .int (iz s0), .int (iz s1), .ref (ad 197), .int (iz rm), .ref (ad 198), .ref (ad 199)]) fwX8_append_31 (by omega) hM (Nat.le_of_ble_eq_true rfl) rfl rfl rfl dX8_append_2 (fun H locs G => ?_)
  obtain ⟨g_1, hg_2⟩ : ∃ g9, g9 = va_up g 192 (.inr (8, [.ref (ad 193), .int (iz ly), .int (iz 0), .ref (ad 194), .int (iz mk), .ref (ad 195), .int (iz tx), .ref (ad 196), .int (iz rl), .int (iz a0), .int (iz wr), .int (iz s0), .int (iz s1), .ref (ad 197), .int (iz rm), .ref (ad 198), .ref (ad 199)])) := ⟨_, rfl⟩
  rw [← hg_2] at G
  have hc_3 : g_1 192 = .inr (8, [.ref (ad 193), .int (iz ly), .int (iz 0), .ref (ad 194), .int (iz mk), .ref (ad 195), .int (iz tx), .ref (ad 196), .int (iz rl), .int (iz a0), .int (iz wr), .int (iz s0), .int (iz s1), .ref (ad 197), .int (iz rm), .ref (ad 198), .ref (ad 199)]) := by rw [hg_2]; exact gu_self _ _ _
  have hc_4 : g_1 195 = aI κ 100 X9 := by rw [hg_2, gu_ne (by decide)]; exact hT
  refine g_iload_n C dX8_append_5 rfl hl 1 rfl ?_
  refine g_i2l C (by omega) dX8_append_6 ?_
  refine g_lconst (a := 0) C dX8_append_7 (by decide) ?_
  refine g_ldc2 (a := 255) C (by decide +kernel) dX8_append_8 ?_
  refine g_ci C G (g_runS (As := [.long (jz ch), .long (jz 0), .long (jz 255)]) (rest := []) C G (c_X8_in l κ B n ad g_1 ch 0 255 (by omega) (by omega) (by omega)) (va_cwS 3 C.1.2.2.2.2 gX8_append_X8_in rfl rfl rfl (by decide +kernel) ⟨Nat.le_of_ble_eq_true rfl, Nat.le_of_ble_eq_true rfl⟩) rfl hl rfl (Nat.le_of_ble_eq_true rfl) dX8_append_11 ⟨Nat.le_of_ble_eq_true rfl, Nat.le_of_ble_eq_true rfl⟩) (fun z_6 g9 H locs hw G => ?_)
  obtain ⟨hg9, hw⟩ := hw
  replace hg9 := hg9.symm
  subst hg9
  rcases hw with ⟨b_5, rfl⟩ | ⟨b_5, rfl⟩
  · refine g_if_ne (tgt := 23) C (by decide) dX8_append_14 (by decide) (fun _ => ?_) (fun c9 => absurd c9 (by decide))
    refine g_aload_n C dX8_append_23 rfl hl 0 rfl ?_
    refine g_get C G (pos := 192) fX8_append_86 (by omega) hc_3 rfl dX8_append_24 ?_
    refine g_bipush (a := 100) C dX8_append_27 (by decide) ?_
    refine g_icmp_ne (tgt := 38) C (by omega) (by decide) dX8_append_29 (by decide) (fun c_7 => ?_) (fun c_7 => ?_)
    · refine g_aload_n C dX8_append_38 rfl hl 0 rfl ?_
      refine g_get C G (pos := 192) fX8_append_16 (by omega) hc_3 rfl dX8_append_39 ?_
      refine g_aload_n C dX8_append_42 rfl hl 0 rfl ?_
      refine g_get C G (pos := 192) fX8_append_86 (by omega) hc_3 rfl dX8_append_43 ?_
      refine g_iload_n C dX8_append_46 rfl hl 1 rfl ?_
      refine g_iastore C G (pos := 195) (by omega) hc_4 (by omega) (by omega) (by omega) dX8_append_47 (fun H locs G => ?_)
      obtain ⟨g_8, hg_9⟩ : ∃ g9, g9 = va_up g_1 195 (aI κ 100 (vu X9 tx ch)) := ⟨_, rfl⟩
      rw [← hg_9] at G
      have hc_10 : g_8 192 = .inr (8, [.ref (ad 193), .int (iz ly), .int (iz 0), .ref (ad 194), .int (iz mk), .ref (ad 195), .int (iz tx), .ref (ad 196), .int (iz rl), .int (iz a0), .int (iz wr), .int (iz s0), .int (iz s1), .ref (ad 197), .int (iz rm), .ref (ad 198), .ref (ad 199)]) := by rw [hg_9, gu_ne (by decide)]; exact hc_3
      have hc_11 : g_8 195 = aI κ 100 (vu X9 tx ch) := by rw [hg_9]; exact gu_self _ _ _
      refine g_aload_n C dX8_append_48 rfl hl 0 rfl ?_
      refine lv_dup C.1.1 C.1.2.1 dX8_append_49 rfl ?_
      refine g_get C G (pos := 192) fX8_append_86 (by omega) hc_10 rfl dX8_append_50 ?_
      refine g_iconst (a := 1) C dX8_append_53 rfl ?_
      refine g_iadd C dX8_append_54 ?_
      refine g_put C G (pos := 192) (fs' := [.ref (ad 193), .int (iz ly), .int (iz 0), .ref (ad 194), .int (iz mk), .ref (ad 195), .int (iz (tx + 1)), .ref (ad 196), .int (iz rl), .int (iz a0), .int (iz wr), .int (iz s0), .int (iz s1), .ref (ad 197), .int (iz rm), .ref (ad 198), .ref (ad 199)]) fwX8_append_86 (by omega) hc_10 (Nat.le_of_ble_eq_true rfl) rfl rfl rfl dX8_append_55 (fun H locs G => ?_)
      obtain ⟨g_12, hg_13⟩ : ∃ g9, g9 = va_up g_8 192 (.inr (8, [.ref (ad 193), .int (iz ly), .int (iz 0), .ref (ad 194), .int (iz mk), .ref (ad 195), .int (iz (tx + 1)), .ref (ad 196), .int (iz rl), .int (iz a0), .int (iz wr), .int (iz s0), .int (iz s1), .ref (ad 197), .int (iz rm), .ref (ad 198), .ref (ad 199)])) := ⟨_, rfl⟩
      rw [← hg_13] at G
      have hc_14 : g_12 192 = .inr (8, [.ref (ad 193), .int (iz ly), .int (iz 0), .ref (ad 194), .int (iz mk), .ref (ad 195), .int (iz (tx + 1)), .ref (ad 196), .int (iz rl), .int (iz a0), .int (iz wr), .int (iz s0), .int (iz s1), .ref (ad 197), .int (iz rm), .ref (ad 198), .ref (ad 199)]) := by rw [hg_13]; exact gu_self _ _ _
      have hc_15 : g_12 195 = aI κ 100 (vu X9 tx ch) := by rw [hg_13, gu_ne (by decide)]; exact hc_11
      refine g_aload_n C dX8_append_58 rfl hl 0 rfl ?_
      refine g_get C G (pos := 192) fX8_append_86 (by omega) hc_14 rfl dX8_append_59 ?_
      refine g_iret C G hr hlk (Nat.le_of_ble_eq_true rfl) (Nat.le_of_ble_eq_true rfl) dX8_append_62 ?_
      exact Or.inr (Or.inr ⟨by omega, by omega, rfl, hc_14, hc_15, fun q q1 q2 => by rw [hg_13, gu_ne (by omega), hg_9, gu_ne (by omega), hg_2, gu_ne (by omega)]⟩)
    · refine g_aload_n C dX8_append_32 rfl hl 0 rfl ?_
      refine g_iconst (a := 2) C dX8_append_33 rfl ?_
      refine g_ci C G (g_runV (As := [.int (iz 2)]) (rest := []) (pos := 192) C G (c_X8_refused l κ B n ad g_1 ly 0 mk tx rl a0 wr s0 s1 rm 2 hn8 hc_3) (cwV 1 C.1.2.2.2.2 gX8_append_X8_refused rfl rfl rfl (by decide +kernel) ⟨Nat.le_of_ble_eq_true rfl, Nat.le_of_ble_eq_true rfl⟩) (by omega) hc_3 (T := TX8) (N := 17) rfl rfl hl rfl (Nat.le_of_ble_eq_true rfl) dX8_append_34 ⟨Nat.le_of_ble_eq_true rfl, Nat.le_of_ble_eq_true rfl⟩) (fun z_16 g9 H locs hw G => ?_)
      obtain ⟨hw, h_17⟩ := hw
      subst hw
      obtain ⟨g_18, hg_19⟩ : ∃ g9, g9 = va_up g_1 192 (.inr (8, [.ref (ad 193), .int (iz ly), .int (iz 2), .ref (ad 194), .int (iz mk), .ref (ad 195), .int (iz tx), .ref (ad 196), .int (iz rl), .int (iz a0), .int (iz wr), .int (iz s0), .int (iz s1), .ref (ad 197), .int (iz rm), .ref (ad 198), .ref (ad 199)])) := ⟨_, rfl⟩
      rw [← hg_19] at G
      have hc_20 : g_18 192 = .inr (8, [.ref (ad 193), .int (iz ly), .int (iz 2), .ref (ad 194), .int (iz mk), .ref (ad 195), .int (iz tx), .ref (ad 196), .int (iz rl), .int (iz a0), .int (iz wr), .int (iz s0), .int (iz s1), .ref (ad 197), .int (iz rm), .ref (ad 198), .ref (ad 199)]) := by rw [hg_19]; exact gu_self _ _ _
      have hc_21 : g_18 195 = aI κ 100 X9 := by rw [hg_19, gu_ne (by decide)]; exact hc_4
      refine g_iret C G hr hlk (Nat.le_of_ble_eq_true rfl) (Nat.le_of_ble_eq_true rfl) dX8_append_37 ?_
      exact Or.inr (Or.inl ⟨by omega, by omega, by omega, hc_20, hc_21, fun q q1 q2 => by rw [hg_19, gu_ne (by omega), hg_2, gu_ne (by omega)]⟩)
  · refine g_if_ne (tgt := 23) C (by decide) dX8_append_14 (by decide) (fun c9 => absurd c9 (by decide)) (fun _ => ?_)
    refine g_aload_n C dX8_append_17 rfl hl 0 rfl ?_
    refine g_iconst (a := 1) C dX8_append_18 rfl ?_
    refine g_ci C G (g_runV (As := [.int (iz 1)]) (rest := []) (pos := 192) C G (c_X8_refused l κ B n ad g_1 ly 0 mk tx rl a0 wr s0 s1 rm 1 hn8 hc_3) (cwV 1 C.1.2.2.2.2 gX8_append_X8_refused rfl rfl rfl (by decide +kernel) ⟨Nat.le_of_ble_eq_true rfl, Nat.le_of_ble_eq_true rfl⟩) (by omega) hc_3 (T := TX8) (N := 17) rfl rfl hl rfl (Nat.le_of_ble_eq_true rfl) dX8_append_19 ⟨Nat.le_of_ble_eq_true rfl, Nat.le_of_ble_eq_true rfl⟩) (fun z_22 g9 H locs hw G => ?_)
    obtain ⟨hw, h_23⟩ := hw
    subst hw
    obtain ⟨g_24, hg_25⟩ : ∃ g9, g9 = va_up g_1 192 (.inr (8, [.ref (ad 193), .int (iz ly), .int (iz 1), .ref (ad 194), .int (iz mk), .ref (ad 195), .int (iz tx), .ref (ad 196), .int (iz rl), .int (iz a0), .int (iz wr), .int (iz s0), .int (iz s1), .ref (ad 197), .int (iz rm), .ref (ad 198), .ref (ad 199)])) := ⟨_, rfl⟩
    rw [← hg_25] at G
    have hc_26 : g_24 192 = .inr (8, [.ref (ad 193), .int (iz ly), .int (iz 1), .ref (ad 194), .int (iz mk), .ref (ad 195), .int (iz tx), .ref (ad 196), .int (iz rl), .int (iz a0), .int (iz wr), .int (iz s0), .int (iz s1), .ref (ad 197), .int (iz rm), .ref (ad 198), .ref (ad 199)]) := by rw [hg_25]; exact gu_self _ _ _
    have hc_27 : g_24 195 = aI κ 100 X9 := by rw [hg_25, gu_ne (by decide)]; exact hc_4
    refine g_iret C G hr hlk (Nat.le_of_ble_eq_true rfl) (Nat.le_of_ble_eq_true rfl) dX8_append_22 ?_
    exact Or.inl ⟨by omega, by omega, hc_26, hc_27, fun q q1 q2 => by rw [hg_25, gu_ne (by omega), hg_2, gu_ne (by omega)]⟩
theorem fwX8_clearText_31 : gFldW wsX8_clearText RX8 31 8 2 .int false := ⟨RX8, TX8, 17, tyX8, rfl, by decide, by decide +kernel, by decide +kernel, tyX8_ok, nmX8, rfl, by decide +kernel, by decide +kernel⟩
theorem fX8_clearText_86 : gFld wsX8_clearText RX8 86 8 6 := ⟨RX8, TX8, 17, rfl, by decide, by decide +kernel, by decide +kernel⟩
theorem fwX8_clearText_86 : gFldW wsX8_clearText RX8 86 8 6 .int false := ⟨RX8, TX8, 17, tyX8, rfl, by decide, by decide +kernel, by decide +kernel, tyX8_ok, nmX8, rfl, by decide +kernel, by decide +kernel⟩
set_option maxHeartbeats 4000000 in
set_option maxRecDepth 100000 in
theorem c_X8_clearText (l : Launch) (κ : gKap) (B n : Nat) (ad : Nat → Nat) (g : Nat → va_E) (ly : Int) (th : Int) (mk : Int) (tx : Int) (rl : Int) (a0 : Int) (wr : Int) (s0 : Int) (s1 : Int) (rm : Int) (hn8 : 200 ≤ n) (hM : g 192 = oM ad ly th mk tx rl a0 wr s0 s1 rm) : Met l yX8_clearText wsX8_clearText ({ frames := 0, cells := 0, slots := 0, locals := 0 }) (gPre κ B n ad g [.ref (ad 192)]) (gQi κ B n ad (fun z g' => z = tx ∧ g' 192 = oM ad ly 0 mk 0 rl a0 wr s0 s1 rm ∧ ∀ q, q ≠ 192 → g' q = g q)) 0 0 (gFree B) := by
  refine g_met RX8 (cc := cX8_clearText) (maxL := 2) (ret := (some .int)) (by decide) rfl rfl (Nat.le_of_ble_eq_true rfl) ?_
  intro p e s m args below meth c C hr hlk hnm G ls hl
  have hl : lv_has ls 2 [(0, .ref (ad 192))] := hl
  refine g_aload_n C dX8_clearText_0 rfl hl 0 rfl ?_
  refine g_iconst (a := 0) C dX8_clearText_1 rfl ?_
  refine g_put C G (pos := 192) (fs' := [.ref (ad 193), .int (iz ly), .int (iz 0), .ref (ad 194), .int (iz mk), .ref (ad 195), .int (iz tx), .ref (ad 196), .int (iz rl), .int (iz a0), .int (iz wr), .int (iz s0), .int (iz s1), .ref (ad 197), .int (iz rm), .ref (ad 198), .ref (ad 199)]) fwX8_clearText_31 (by omega) hM (Nat.le_of_ble_eq_true rfl) rfl rfl rfl dX8_clearText_2 (fun H locs G => ?_)
  obtain ⟨g_1, hg_2⟩ : ∃ g9, g9 = va_up g 192 (.inr (8, [.ref (ad 193), .int (iz ly), .int (iz 0), .ref (ad 194), .int (iz mk), .ref (ad 195), .int (iz tx), .ref (ad 196), .int (iz rl), .int (iz a0), .int (iz wr), .int (iz s0), .int (iz s1), .ref (ad 197), .int (iz rm), .ref (ad 198), .ref (ad 199)])) := ⟨_, rfl⟩
  rw [← hg_2] at G
  have hc_3 : g_1 192 = .inr (8, [.ref (ad 193), .int (iz ly), .int (iz 0), .ref (ad 194), .int (iz mk), .ref (ad 195), .int (iz tx), .ref (ad 196), .int (iz rl), .int (iz a0), .int (iz wr), .int (iz s0), .int (iz s1), .ref (ad 197), .int (iz rm), .ref (ad 198), .ref (ad 199)]) := by rw [hg_2]; exact gu_self _ _ _
  refine g_aload_n C dX8_clearText_5 rfl hl 0 rfl ?_
  refine g_get C G (pos := 192) fX8_clearText_86 (by omega) hc_3 rfl dX8_clearText_6 ?_
  refine lv_istore_n (lv' := [(1, .int (iz tx)), (0, .ref (ad 192))]) C.1.1 C.1.2.1 dX8_clearText_9 rfl hl (by decide) rfl (fun ls hl => ?_)
  refine g_aload_n C dX8_clearText_10 rfl hl 1 rfl ?_
  refine g_iconst (a := 0) C dX8_clearText_11 rfl ?_
  refine g_put C G (pos := 192) (fs' := [.ref (ad 193), .int (iz ly), .int (iz 0), .ref (ad 194), .int (iz mk), .ref (ad 195), .int (iz 0), .ref (ad 196), .int (iz rl), .int (iz a0), .int (iz wr), .int (iz s0), .int (iz s1), .ref (ad 197), .int (iz rm), .ref (ad 198), .ref (ad 199)]) fwX8_clearText_86 (by omega) hc_3 (Nat.le_of_ble_eq_true rfl) rfl rfl rfl dX8_clearText_12 (fun H locs G => ?_)
  obtain ⟨g_4, hg_5⟩ : ∃ g9, g9 = va_up g_1 192 (.inr (8, [.ref (ad 193), .int (iz ly), .int (iz 0), .ref (ad 194), .int (iz mk), .ref (ad 195), .int (iz 0), .ref (ad 196), .int (iz rl), .int (iz a0), .int (iz wr), .int (iz s0), .int (iz s1), .ref (ad 197), .int (iz rm), .ref (ad 198), .ref (ad 199)])) := ⟨_, rfl⟩
  rw [← hg_5] at G
  have hc_6 : g_4 192 = .inr (8, [.ref (ad 193), .int (iz ly), .int (iz 0), .ref (ad 194), .int (iz mk), .ref (ad 195), .int (iz 0), .ref (ad 196), .int (iz rl), .int (iz a0), .int (iz wr), .int (iz s0), .int (iz s1), .ref (ad 197), .int (iz rm), .ref (ad 198), .ref (ad 199)]) := by rw [hg_5]; exact gu_self _ _ _
  refine g_iload_n C dX8_clearText_15 rfl hl 0 rfl ?_
  refine g_iret C G hr hlk (Nat.le_of_ble_eq_true rfl) (Nat.le_of_ble_eq_true rfl) dX8_clearText_16 ?_
  exact ⟨rfl, hc_6, fun q q1 => by rw [hg_5, gu_ne (by omega), hg_2, gu_ne (by omega)]⟩
theorem fX8_lay_35 : gFld wsX8_lay RX8 35 8 1 := ⟨RX8, TX8, 17, rfl, by decide, by decide +kernel, by decide +kernel⟩
theorem fX8_lay_7 : gFld wsX8_lay RX8 7 8 0 := ⟨RX8, TX8, 17, rfl, by decide, by decide +kernel, by decide +kernel⟩
theorem fwX8_lay_35 : gFldW wsX8_lay RX8 35 8 1 .int false := ⟨RX8, TX8, 17, tyX8, rfl, by decide, by decide +kernel, by decide +kernel, tyX8_ok, nmX8, rfl, by decide +kernel, by decide +kernel⟩
set_option maxHeartbeats 4000000 in
set_option maxRecDepth 100000 in
theorem c_X8_lay (l : Launch) (κ : gKap) (B n : Nat) (ad : Nat → Nat) (g : Nat → va_E) (ly : Int) (th : Int) (mk : Int) (tx : Int) (rl : Int) (a0 : Int) (wr : Int) (s0 : Int) (s1 : Int) (rm : Int) (f : Int → Int) (qw : Int) (qs : Int) (qh : Int) (qt : Int) (hn8 : 200 ≤ n) (hM : g 192 = oM ad ly th mk tx rl a0 wr s0 s1 rm) (hN : g 193 = aI κ 42 f) (hly : 0 ≤ ly ∧ ly < 6) : Met l yX8_lay wsX8_lay ({ frames := 0, cells := 0, slots := 0, locals := 0 }) (gPre κ B n ad g [.ref (ad 192), .int (iz qw), .int (iz qs), .int (iz qh), .int (iz qt)]) (gQi κ B n ad (fun z g' => z = ly ∧ g' 192 = oM ad (ly + 1) th mk tx rl a0 wr s0 s1 rm ∧ g' 193 = aI κ 42 (v4 f ly qw qs qh qt) ∧ ∀ q, q ≠ 192 → q ≠ 193 → g' q = g q)) 0 0 (gFree B) := by
  refine g_met RX8 (cc := cX8_lay) (maxL := 6) (ret := (some .int)) (by decide) rfl rfl (Nat.le_of_ble_eq_true rfl) ?_
  intro p e s m args below meth c C hr hlk hnm G ls hl
  have hl : lv_has ls 6 [(0, .ref (ad 192)), (1, .int (iz qw)), (2, .int (iz qs)), (3, .int (iz qh)), (4, .int (iz qt))] := hl
  refine g_iconst (a := 4) C dX8_lay_0 rfl ?_
  refine g_aload_n C dX8_lay_1 rfl hl 0 rfl ?_
  refine g_get C G (pos := 192) fX8_lay_35 (by omega) hM rfl dX8_lay_2 ?_
  refine g_imul C dX8_lay_5 ?_
  refine lv_istore (lv' := [(5, .int (iz (4 * ly))), (0, .ref (ad 192)), (1, .int (iz qw)), (2, .int (iz qs)), (3, .int (iz qh)), (4, .int (iz qt))]) C.1.1 C.1.2.1 dX8_lay_6 hl (by decide) rfl (fun ls hl => ?_)
  refine g_aload_n C dX8_lay_8 rfl hl 1 rfl ?_
  refine g_get C G (pos := 192) fX8_lay_7 (by omega) hM rfl dX8_lay_9 ?_
  refine g_iload C dX8_lay_12 hl 0 rfl ?_
  refine g_iconst (a := 1) C dX8_lay_14 rfl ?_
  refine g_iadd C dX8_lay_15 ?_
  refine g_iload_n C dX8_lay_16 rfl hl 2 rfl ?_
  refine g_iastore C G (pos := 193) (by omega) hN (by omega) (by omega) (by omega) dX8_lay_17 (fun H locs G => ?_)
  obtain ⟨g_1, hg_2⟩ : ∃ g9, g9 = va_up g 193 (aI κ 42 (vu f ((4 * ly) + 1) qw)) := ⟨_, rfl⟩
  rw [← hg_2] at G
  have hc_3 : g_1 192 = .inr (8, [.ref (ad 193), .int (iz ly), .int (iz th), .ref (ad 194), .int (iz mk), .ref (ad 195), .int (iz tx), .ref (ad 196), .int (iz rl), .int (iz a0), .int (iz wr), .int (iz s0), .int (iz s1), .ref (ad 197), .int (iz rm), .ref (ad 198), .ref (ad 199)]) := by rw [hg_2, gu_ne (by decide)]; exact hM
  have hc_4 : g_1 193 = aI κ 42 (vu f ((4 * ly) + 1) qw) := by rw [hg_2]; exact gu_self _ _ _
  refine g_aload_n C dX8_lay_18 rfl hl 1 rfl ?_
  refine g_get C G (pos := 192) fX8_lay_7 (by omega) hc_3 rfl dX8_lay_19 ?_
  refine g_iload C dX8_lay_22 hl 0 rfl ?_
  refine g_iconst (a := 2) C dX8_lay_24 rfl ?_
  refine g_iadd C dX8_lay_25 ?_
  refine g_iload_n C dX8_lay_26 rfl hl 3 rfl ?_
  refine g_iastore C G (pos := 193) (by omega) hc_4 (by omega) (by omega) (by omega) dX8_lay_27 (fun H locs G => ?_)
  obtain ⟨g_5, hg_6⟩ : ∃ g9, g9 = va_up g_1 193 (aI κ 42 (vu (vu f ((4 * ly) + 1) qw) ((4 * ly) + 2) qs)) := ⟨_, rfl⟩
  rw [← hg_6] at G
  have hc_7 : g_5 192 = .inr (8, [.ref (ad 193), .int (iz ly), .int (iz th), .ref (ad 194), .int (iz mk), .ref (ad 195), .int (iz tx), .ref (ad 196), .int (iz rl), .int (iz a0), .int (iz wr), .int (iz s0), .int (iz s1), .ref (ad 197), .int (iz rm), .ref (ad 198), .ref (ad 199)]) := by rw [hg_6, gu_ne (by decide)]; exact hc_3
  have hc_8 : g_5 193 = aI κ 42 (vu (vu f ((4 * ly) + 1) qw) ((4 * ly) + 2) qs) := by rw [hg_6]; exact gu_self _ _ _
  refine g_aload_n C dX8_lay_28 rfl hl 1 rfl ?_
  refine g_get C G (pos := 192) fX8_lay_7 (by omega) hc_7 rfl dX8_lay_29 ?_
  refine g_iload C dX8_lay_32 hl 0 rfl ?_
  refine g_iconst (a := 3) C dX8_lay_34 rfl ?_
  refine g_iadd C dX8_lay_35 ?_
  refine g_iload_n C dX8_lay_36 rfl hl 4 rfl ?_
  refine g_iastore C G (pos := 193) (by omega) hc_8 (by omega) (by omega) (by omega) dX8_lay_37 (fun H locs G => ?_)
  obtain ⟨g_9, hg_10⟩ : ∃ g9, g9 = va_up g_5 193 (aI κ 42 (vu (vu (vu f ((4 * ly) + 1) qw) ((4 * ly) + 2) qs) ((4 * ly) + 3) qh)) := ⟨_, rfl⟩
  rw [← hg_10] at G
  have hc_11 : g_9 192 = .inr (8, [.ref (ad 193), .int (iz ly), .int (iz th), .ref (ad 194), .int (iz mk), .ref (ad 195), .int (iz tx), .ref (ad 196), .int (iz rl), .int (iz a0), .int (iz wr), .int (iz s0), .int (iz s1), .ref (ad 197), .int (iz rm), .ref (ad 198), .ref (ad 199)]) := by rw [hg_10, gu_ne (by decide)]; exact hc_7
  have hc_12 : g_9 193 = aI κ 42 (vu (vu (vu f ((4 * ly) + 1) qw) ((4 * ly) + 2) qs) ((4 * ly) + 3) qh) := by rw [hg_10]; exact gu_self _ _ _
  refine g_aload_n C dX8_lay_38 rfl hl 1 rfl ?_
  refine g_get C G (pos := 192) fX8_lay_7 (by omega) hc_11 rfl dX8_lay_39 ?_
  refine g_iload C dX8_lay_42 hl 0 rfl ?_
  refine g_iconst (a := 4) C dX8_lay_44 rfl ?_
  refine g_iadd C dX8_lay_45 ?_
  refine g_iload C dX8_lay_46 hl 5 rfl ?_
  refine g_iastore C G (pos := 193) (by omega) hc_12 (by omega) (by omega) (by omega) dX8_lay_48 (fun H locs G => ?_)
  obtain ⟨g_13, hg_14⟩ : ∃ g9, g9 = va_up g_9 193 (aI κ 42 (vu (vu (vu (vu f ((4 * ly) + 1) qw) ((4 * ly) + 2) qs) ((4 * ly) + 3) qh) ((4 * ly) + 4) qt)) := ⟨_, rfl⟩
  rw [← hg_14] at G
  have hc_15 : g_13 192 = .inr (8, [.ref (ad 193), .int (iz ly), .int (iz th), .ref (ad 194), .int (iz mk), .ref (ad 195), .int (iz tx), .ref (ad 196), .int (iz rl), .int (iz a0), .int (iz wr), .int (iz s0), .int (iz s1), .ref (ad 197), .int (iz rm), .ref (ad 198), .ref (ad 199)]) := by rw [hg_14, gu_ne (by decide)]; exact hc_11
  have hc_16 : g_13 193 = aI κ 42 (vu (vu (vu (vu f ((4 * ly) + 1) qw) ((4 * ly) + 2) qs) ((4 * ly) + 3) qh) ((4 * ly) + 4) qt) := by rw [hg_14]; exact gu_self _ _ _
  refine g_aload_n C dX8_lay_49 rfl hl 1 rfl ?_
  refine lv_dup C.1.1 C.1.2.1 dX8_lay_50 rfl ?_
  refine g_get C G (pos := 192) fX8_lay_35 (by omega) hc_15 rfl dX8_lay_51 ?_
  refine g_iconst (a := 1) C dX8_lay_54 rfl ?_
  refine g_iadd C dX8_lay_55 ?_
  refine g_put C G (pos := 192) (fs' := [.ref (ad 193), .int (iz (ly + 1)), .int (iz th), .ref (ad 194), .int (iz mk), .ref (ad 195), .int (iz tx), .ref (ad 196), .int (iz rl), .int (iz a0), .int (iz wr), .int (iz s0), .int (iz s1), .ref (ad 197), .int (iz rm), .ref (ad 198), .ref (ad 199)]) fwX8_lay_35 (by omega) hc_15 (Nat.le_of_ble_eq_true rfl) rfl rfl rfl dX8_lay_56 (fun H locs G => ?_)
  obtain ⟨g_17, hg_18⟩ : ∃ g9, g9 = va_up g_13 192 (.inr (8, [.ref (ad 193), .int (iz (ly + 1)), .int (iz th), .ref (ad 194), .int (iz mk), .ref (ad 195), .int (iz tx), .ref (ad 196), .int (iz rl), .int (iz a0), .int (iz wr), .int (iz s0), .int (iz s1), .ref (ad 197), .int (iz rm), .ref (ad 198), .ref (ad 199)])) := ⟨_, rfl⟩
  rw [← hg_18] at G
  have hc_19 : g_17 192 = .inr (8, [.ref (ad 193), .int (iz (ly + 1)), .int (iz th), .ref (ad 194), .int (iz mk), .ref (ad 195), .int (iz tx), .ref (ad 196), .int (iz rl), .int (iz a0), .int (iz wr), .int (iz s0), .int (iz s1), .ref (ad 197), .int (iz rm), .ref (ad 198), .ref (ad 199)]) := by rw [hg_18]; exact gu_self _ _ _
  have hc_20 : g_17 193 = aI κ 42 (vu (vu (vu (vu f ((4 * ly) + 1) qw) ((4 * ly) + 2) qs) ((4 * ly) + 3) qh) ((4 * ly) + 4) qt) := by rw [hg_18, gu_ne (by decide)]; exact hc_16
  refine g_aload_n C dX8_lay_59 rfl hl 1 rfl ?_
  refine g_get C G (pos := 192) fX8_lay_35 (by omega) hc_19 rfl dX8_lay_60 ?_
  refine g_iconst (a := 1) C dX8_lay_63 rfl ?_
  refine g_isub C dX8_lay_64 ?_
  refine g_iret C G hr hlk (Nat.le_of_ble_eq_true rfl) (Nat.le_of_ble_eq_true rfl) dX8_lay_65 ?_
  exact ⟨by omega, hc_19, hc_20.trans (aI_congr (fun k => congrFun lay_v4 _)), fun q q1 q2 => by rw [hg_18, gu_ne (by omega), hg_14, gu_ne (by omega), hg_10, gu_ne (by omega), hg_6, gu_ne (by omega), hg_2, gu_ne (by omega)]⟩
