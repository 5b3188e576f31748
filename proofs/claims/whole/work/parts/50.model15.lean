/-! ROSETTEPLATEMODEL (X8): questions -/
/-- the reference's object, but for the marks and what is left over -/
def jkM (κ : gKap) (ad : Nat → Nat) (g : Nat → va_E) (ly th tx s0 s1 rm b9 : Int) (f X9 pa sv : Int → Int) : Prop := ∃ mk rl a0 wr M9 q9 be, g 192 = oM ad ly th mk tx rl a0 wr s0 s1 rm ∧ g 193 = aI κ 42 f ∧ g 194 = aI κ 28896 M9 ∧ g 195 = aI κ 100 X9 ∧ g 196 = aI κ 42 q9 ∧ g 197 = aI κ 602 pa ∧ g 198 = aI κ 43 be ∧ g 199 = aI κ 86 sv ∧ (0 ≤ mk ∧ mk ≤ b9) ∧ (∀ i, 0 ≤ i → i < 28896 → 0 ≤ M9 i ∧ M9 i ≤ mk) ∧ inV q9
def frM (g g' : Nat → va_E) : Prop := ∀ q : Nat, (q < 192 ∨ 200 ≤ q) → g' q = g q
theorem fwX8_about_31 : gFldW wsX8_about RX8 31 8 2 .int false := ⟨RX8, TX8, 17, tyX8, rfl, by decide, by decide +kernel, by decide +kernel, tyX8_ok, nmX8, rfl, by decide +kernel, by decide +kernel⟩
theorem fX8_about_7 : gFld wsX8_about RX8 7 8 0 := ⟨RX8, TX8, 17, rfl, by decide, by decide +kernel, by decide +kernel⟩
theorem fX8_about_35 : gFld wsX8_about RX8 35 8 1 := ⟨RX8, TX8, 17, rfl, by decide, by decide +kernel, by decide +kernel⟩
set_option maxHeartbeats 4000000 in
set_option maxRecDepth 100000 in
theorem c_X8_about (l : Launch) (κ : gKap) (B n : Nat) (ad : Nat → Nat) (g : Nat → va_E) (ly : Int) (th : Int) (mk : Int) (tx : Int) (rl : Int) (a0 : Int) (wr : Int) (s0 : Int) (s1 : Int) (rm : Int) (f : Int → Int) (M9 : Int → Int) (X9 : Int → Int) (q9 : Int → Int) (pa : Int → Int) (be : Int → Int) (sv : Int → Int) (wh : Int) (hn8 : 200 ≤ n) (hM : g 192 = oM ad ly th mk tx rl a0 wr s0 s1 rm) (hN : g 193 = aI κ 42 f) (hK : g 194 = aI κ 28896 M9) (hT : g 195 = aI κ 100 X9) (hRd : g 196 = aI κ 42 q9) (hPa : g 197 = aI κ 602 pa) (hBe : g 198 = aI κ 43 be) (hSv : g 199 = aI κ 86 sv) (hok : okPl ly f) (hmk : 0 ≤ mk ∧ mk ≤ 800000000) (hMr : ∀ i, 0 ≤ i → i < 28896 → 0 ≤ M9 i ∧ M9 i ≤ mk) (hinq : inV q9) (hwh : inI wh) : Met l yX8_about wsX8_about ({ frames := 6, cells := 0, slots := 0, locals := 142 }) (gPre κ B n ad g [.ref (ad 192), .int (iz wh)]) (gQi κ B n ad (fun z g' => ∃ t9, ((t9 = 1 ∧ ¬ (0 ≤ wh ∧ wh ≤ 6)) ∨ (t9 = 0 ∧ ((wh = 0 ∧ z = f 0) ∨ (wh = 1 ∧ z = ly) ∨ (wh = 2 ∧ z = f 25) ∨ (wh = 3 ∧ z = (cntS (fun x y => ∃ l9, 0 ≤ l9 ∧ l9 < ly ∧ PTl f l9 x y) : Int)) ∨ (wh = 4 ∧ z = lsA f ly.toNat) ∨ (wh = 5 ∧ z = grA f ly.toNat) ∨ (wh = 6 ∧ z = fitN ly f)))) ∧ jkM κ ad g' ly t9 tx s0 s1 rm (mk + 1000) f X9 pa sv ∧ frM g g')) 0 0 (gFree B) := by
  refine g_met RX8 (cc := cX8_about) (maxL := 2) (ret := (some .int)) (by decide) rfl rfl (Nat.le_of_ble_eq_true rfl) ?_
  intro p e s m args below meth c C hr hlk hnm G ls hl
  have hl : lv_has ls 2 [(0, .ref (ad 192)), (1, .int (iz wh))] := hl
  obtain ⟨hn6, hv0, hv25, hlay, hsee⟩ := id hok
  refine g_aload_n C dX8_about_0 rfl hl 0 rfl ?_
  refine g_iconst (a := 0) C dX8_about_1 rfl ?_
  refine g_put C G (pos := 192) (fs' := [.ref (ad 193), .int (iz ly), .int (iz 0), .ref (ad 194), .int (iz mk), .ref (ad 195), .int (iz tx), .ref (ad 196), .int (iz rl), .int (iz a0), .int (iz wr), .int (iz s0), .int (iz s1), .ref (ad 197), .int (iz rm), .ref (ad 198), .ref (ad 199)]) fwX8_about_31 (by omega) hM (Nat.le_of_ble_eq_true rfl) rfl rfl rfl dX8_about_2 (fun H locs G => ?_)
  obtain ⟨g_1, hg_2⟩ : ∃ g9, g9 = va_up g 192 (.inr (8, [.ref (ad 193), .int (iz ly), .int (iz 0), .ref (ad 194), .int (iz mk), .ref (ad 195), .int (iz tx), .ref (ad 196), .int (iz rl), .int (iz a0), .int (iz wr), .int (iz s0), .int (iz s1), .ref (ad 197), .int (iz rm), .ref (ad 198), .ref (ad 199)])) := ⟨_, rfl⟩
  rw [← hg_2] at G
  have hc_3 : g_1 192 = .inr (8, [.ref (ad 193), .int (iz ly), .int (iz 0), .ref (ad 194), .int (iz mk), .ref (ad 195), .int (iz tx), .ref (ad 196), .int (iz rl), .int (iz a0), .int (iz wr), .int (iz s0), .int (iz s1), .ref (ad 197), .int (iz rm), .ref (ad 198), .ref (ad 199)]) := by rw [hg_2]; exact gu_self _ _ _
  have hc_4 : g_1 193 = aI κ 42 f := by rw [hg_2, gu_ne (by decide)]; exact hN
  have hc_5 : g_1 194 = aI κ 28896 M9 := by rw [hg_2, gu_ne (by decide)]; exact hK
  have hc_6 : g_1 195 = aI κ 100 X9 := by rw [hg_2, gu_ne (by decide)]; exact hT
  have hc_7 : g_1 196 = aI κ 42 q9 := by rw [hg_2, gu_ne (by decide)]; exact hRd
  have hc_8 : g_1 197 = aI κ 602 pa := by rw [hg_2, gu_ne (by decide)]; exact hPa
  have hc_9 : g_1 198 = aI κ 43 be := by rw [hg_2, gu_ne (by decide)]; exact hBe
  have hc_10 : g_1 199 = aI κ 86 sv := by rw [hg_2, gu_ne (by decide)]; exact hSv
  refine g_iload_n C dX8_about_5 rfl hl 1 rfl ?_
  by_cases e_11 : wh = 0
  · refine g_tswIn (v := 0) (off := 42) (tgt := 48) C dX8_about_6 e_11 (by decide) (by decide) (by decide) (by decide) (by decide) ?_
    refine g_aload_n C dX8_about_48 rfl hl 0 rfl ?_
    refine g_get C G (pos := 192) fX8_about_7 (by omega) hc_3 rfl dX8_about_49 ?_
    refine g_iconst (a := 0) C dX8_about_52 rfl ?_
    refine g_iaload C G (pos := 193) (by omega) hc_4 (by omega) (by omega) (by omega) dX8_about_53 ?_
    refine g_iret C G hr hlk (Nat.le_of_ble_eq_true rfl) (Nat.le_of_ble_eq_true rfl) dX8_about_54 ?_
    exact ⟨0, Or.inr ⟨rfl, Or.inl ⟨by omega, rfl⟩⟩, ⟨_, _, _, _, _, _, _, hc_3, hc_4, hc_5, hc_6, hc_7, hc_8, hc_9, hc_10, by omega, hMr, hinq⟩, fun q hq => ((congrFun hg_2 q).trans (gu_ne (by omega)))⟩
  by_cases e_12 : wh = 1
  · refine g_tswIn (v := 1) (off := 49) (tgt := 55) C dX8_about_6 e_12 (by decide) (by decide) (by decide) (by decide) (by decide) ?_
    refine g_aload_n C dX8_about_55 rfl hl 0 rfl ?_
    refine g_get C G (pos := 192) fX8_about_35 (by omega) hc_3 rfl dX8_about_56 ?_
    refine g_iret C G hr hlk (Nat.le_of_ble_eq_true rfl) (Nat.le_of_ble_eq_true rfl) dX8_about_59 ?_
    exact ⟨0, Or.inr ⟨rfl, Or.inr (Or.inl ⟨by omega, rfl⟩)⟩, ⟨_, _, _, _, _, _, _, hc_3, hc_4, hc_5, hc_6, hc_7, hc_8, hc_9, hc_10, by omega, hMr, hinq⟩, fun q hq => ((congrFun hg_2 q).trans (gu_ne (by omega)))⟩
  by_cases e_13 : wh = 2
  · refine g_tswIn (v := 2) (off := 54) (tgt := 60) C dX8_about_6 e_13 (by decide) (by decide) (by decide) (by decide) (by decide) ?_
    refine g_aload_n C dX8_about_60 rfl hl 0 rfl ?_
    refine g_get C G (pos := 192) fX8_about_7 (by omega) hc_3 rfl dX8_about_61 ?_
    refine g_bipush (a := 25) C dX8_about_64 (by decide) ?_
    refine g_iaload C G (pos := 193) (by omega) hc_4 (by omega) (by omega) (by omega) dX8_about_66 ?_
    refine g_iret C G hr hlk (Nat.le_of_ble_eq_true rfl) (Nat.le_of_ble_eq_true rfl) dX8_about_67 ?_
    exact ⟨0, Or.inr ⟨rfl, Or.inr (Or.inr (Or.inl ⟨by omega, rfl⟩))⟩, ⟨_, _, _, _, _, _, _, hc_3, hc_4, hc_5, hc_6, hc_7, hc_8, hc_9, hc_10, by omega, hMr, hinq⟩, fun q hq => ((congrFun hg_2 q).trans (gu_ne (by omega)))⟩
  by_cases e_14 : wh = 3
  · refine g_tswIn (v := 3) (off := 62) (tgt := 68) C dX8_about_6 e_14 (by decide) (by decide) (by decide) (by decide) (by decide) ?_
    refine g_aload_n C dX8_about_68 rfl hl 0 rfl ?_
    refine g_ci C G (g_runV (As := []) (rest := []) (pos := 192) C G (c_X8_markAll l κ B n ad g_1 ly 0 mk tx rl a0 wr s0 s1 rm f M9 hn8 hc_3 hc_4 hc_5 hok (by omega) hMr) (cwV 0 C.1.2.2.2.2 gX8_about_X8_markAll rfl rfl rfl (by decide +kernel) ⟨Nat.le_of_ble_eq_true rfl, Nat.le_of_ble_eq_true rfl⟩) (by omega) hc_3 (T := TX8) (N := 17) rfl rfl hl rfl (Nat.le_of_ble_eq_true rfl) dX8_about_69 ⟨Nat.le_of_ble_eq_true rfl, Nat.le_of_ble_eq_true rfl⟩) (fun z_17 g_20 H locs hw9 G => ?_)
    obtain ⟨V_15, hgs_19, hS_16, h_18⟩ := hw9
    have hc_21 : g_20 192 = .inr (8, [.ref (ad 193), .int (iz ly), .int (iz 0), .ref (ad 194), .int (iz (mk + 1)), .ref (ad 195), .int (iz tx), .ref (ad 196), .int (iz rl), .int (iz a0), .int (iz wr), .int (iz s0), .int (iz s1), .ref (ad 197), .int (iz rm), .ref (ad 198), .ref (ad 199)]) := by rw [hgs_19, gu_ne (by decide)]; exact gu_self _ _ _
    have hc_22 : g_20 193 = aI κ 42 f := by rw [hgs_19, gu_ne (by decide), gu_ne (by decide)]; exact hc_4
    have hc_23 : g_20 194 = aI κ 28896 V_15 := by rw [hgs_19]; exact gu_self _ _ _
    have hc_24 : g_20 195 = aI κ 100 X9 := by rw [hgs_19, gu_ne (by decide), gu_ne (by decide)]; exact hc_6
    have hc_25 : g_20 196 = aI κ 42 q9 := by rw [hgs_19, gu_ne (by decide), gu_ne (by decide)]; exact hc_7
    have hc_26 : g_20 197 = aI κ 602 pa := by rw [hgs_19, gu_ne (by decide), gu_ne (by decide)]; exact hc_8
    have hc_27 : g_20 198 = aI κ 43 be := by rw [hgs_19, gu_ne (by decide), gu_ne (by decide)]; exact hc_9
    have hc_28 : g_20 199 = aI κ 86 sv := by rw [hgs_19, gu_ne (by decide), gu_ne (by decide)]; exact hc_10
    refine g_iret C G hr hlk (Nat.le_of_ble_eq_true rfl) (Nat.le_of_ble_eq_true rfl) dX8_about_72 ?_
    exact ⟨0, Or.inr ⟨rfl, Or.inr (Or.inr (Or.inr (Or.inl ⟨by omega, h_18.1⟩)))⟩, ⟨_, _, _, _, _, _, _, hc_21, hc_22, hc_23, hc_24, hc_25, hc_26, hc_27, hc_28, by omega, hS_16.1, hinq⟩, fun q hq => (((congrFun hgs_19 q).trans ((gu_ne (by omega)).trans (gu_ne (by omega)))).trans ((congrFun hg_2 q).trans (gu_ne (by omega))))⟩
  by_cases e_29 : wh = 4
  · refine g_tswIn (v := 4) (off := 67) (tgt := 73) C dX8_about_6 e_29 (by decide) (by decide) (by decide) (by decide) (by decide) ?_
    refine g_aload_n C dX8_about_73 rfl hl 0 rfl ?_
    refine g_ci C G (g_runV (As := []) (rest := []) (pos := 192) C G (c_X8_leastOfAll l κ B n ad g_1 ly 0 mk tx rl a0 wr s0 s1 rm f hn8 hc_3 hc_4 hok) (cwV 0 C.1.2.2.2.2 gX8_about_X8_leastOfAll rfl rfl rfl (by decide +kernel) ⟨Nat.le_of_ble_eq_true rfl, Nat.le_of_ble_eq_true rfl⟩) (by omega) hc_3 (T := TX8) (N := 17) rfl rfl hl rfl (Nat.le_of_ble_eq_true rfl) dX8_about_74 ⟨Nat.le_of_ble_eq_true rfl, Nat.le_of_ble_eq_true rfl⟩) (fun z_30 g9 H locs hw G => ?_)
    obtain ⟨hg9, h_31⟩ := hw
    replace hg9 := hg9.symm
    subst hg9
    refine g_iret C G hr hlk (Nat.le_of_ble_eq_true rfl) (Nat.le_of_ble_eq_true rfl) dX8_about_77 ?_
    exact ⟨0, Or.inr ⟨rfl, Or.inr (Or.inr (Or.inr (Or.inr (Or.inl ⟨by omega, h_31.1⟩))))⟩, ⟨_, _, _, _, _, _, _, hc_3, hc_4, hc_5, hc_6, hc_7, hc_8, hc_9, hc_10, by omega, hMr, hinq⟩, fun q hq => ((congrFun hg_2 q).trans (gu_ne (by omega)))⟩
  by_cases e_32 : wh = 5
  · refine g_tswIn (v := 5) (off := 72) (tgt := 78) C dX8_about_6 e_32 (by decide) (by decide) (by decide) (by decide) (by decide) ?_
    refine g_aload_n C dX8_about_78 rfl hl 0 rfl ?_
    refine g_ci C G (g_runV (As := []) (rest := []) (pos := 192) C G (c_X8_greatestOfAll l κ B n ad g_1 ly 0 mk tx rl a0 wr s0 s1 rm f hn8 hc_3 hc_4 hok) (cwV 0 C.1.2.2.2.2 gX8_about_X8_greatestOfAll rfl rfl rfl (by decide +kernel) ⟨Nat.le_of_ble_eq_true rfl, Nat.le_of_ble_eq_true rfl⟩) (by omega) hc_3 (T := TX8) (N := 17) rfl rfl hl rfl (Nat.le_of_ble_eq_true rfl) dX8_about_79 ⟨Nat.le_of_ble_eq_true rfl, Nat.le_of_ble_eq_true rfl⟩) (fun z_33 g9 H locs hw G => ?_)
    obtain ⟨hg9, h_34⟩ := hw
    replace hg9 := hg9.symm
    subst hg9
    refine g_iret C G hr hlk (Nat.le_of_ble_eq_true rfl) (Nat.le_of_ble_eq_true rfl) dX8_about_82 ?_
    exact ⟨0, Or.inr ⟨rfl, Or.inr (Or.inr (Or.inr (Or.inr (Or.inr (Or.inl ⟨by omega, h_34.1⟩)))))⟩, ⟨_, _, _, _, _, _, _, hc_3, hc_4, hc_5, hc_6, hc_7, hc_8, hc_9, hc_10, by omega, hMr, hinq⟩, fun q hq => ((congrFun hg_2 q).trans (gu_ne (by omega)))⟩
  by_cases e_35 : wh = 6
  · refine g_tswIn (v := 6) (off := 77) (tgt := 83) C dX8_about_6 e_35 (by decide) (by decide) (by decide) (by decide) (by decide) ?_
    refine g_aload_n C dX8_about_83 rfl hl 0 rfl ?_
    refine g_ci C G (g_runV (As := []) (rest := []) (pos := 192) C G (c_X8_fitting l κ B n ad g_1 ly 0 mk tx rl a0 wr s0 s1 rm f hn8 hc_3 hc_4 hok) (cwV 0 C.1.2.2.2.2 gX8_about_X8_fitting rfl rfl rfl (by decide +kernel) ⟨Nat.le_of_ble_eq_true rfl, Nat.le_of_ble_eq_true rfl⟩) (by omega) hc_3 (T := TX8) (N := 17) rfl rfl hl rfl (Nat.le_of_ble_eq_true rfl) dX8_about_84 ⟨Nat.le_of_ble_eq_true rfl, Nat.le_of_ble_eq_true rfl⟩) (fun z_36 g9 H locs hw G => ?_)
    obtain ⟨hg9, h_37⟩ := hw
    replace hg9 := hg9.symm
    subst hg9
    refine g_iret C G hr hlk (Nat.le_of_ble_eq_true rfl) (Nat.le_of_ble_eq_true rfl) dX8_about_87 ?_
    exact ⟨0, Or.inr ⟨rfl, Or.inr (Or.inr (Or.inr (Or.inr (Or.inr (Or.inr (⟨by omega, h_37.1⟩))))))⟩, ⟨_, _, _, _, _, _, _, hc_3, hc_4, hc_5, hc_6, hc_7, hc_8, hc_9, hc_10, by omega, hMr, hinq⟩, fun q hq => ((congrFun hg_2 q).trans (gu_ne (by omega)))⟩
  refine g_tswOut (tgt := 88) C (by omega) dX8_about_6 (by omega) (by decide) ?_
  refine g_aload_n C dX8_about_88 rfl hl 0 rfl ?_
  refine g_iconst (a := 1) C dX8_about_89 rfl ?_
  refine g_ci C G (g_runV (As := [.int (iz 1)]) (rest := []) (pos := 192) C G (c_X8_refused l κ B n ad g_1 ly 0 mk tx rl a0 wr s0 s1 rm 1 hn8 hc_3) (cwV 1 C.1.2.2.2.2 gX8_about_X8_refused rfl rfl rfl (by decide +kernel) ⟨Nat.le_of_ble_eq_true rfl, Nat.le_of_ble_eq_true rfl⟩) (by omega) hc_3 (T := TX8) (N := 17) rfl rfl hl rfl (Nat.le_of_ble_eq_true rfl) dX8_about_90 ⟨Nat.le_of_ble_eq_true rfl, Nat.le_of_ble_eq_true rfl⟩) (fun z_38 g9 H locs hw G => ?_)
  obtain ⟨hw, h_39⟩ := hw
  subst hw
  obtain ⟨g_40, hg_41⟩ : ∃ g9, g9 = va_up g_1 192 (.inr (8, [.ref (ad 193), .int (iz ly), .int (iz 1), .ref (ad 194), .int (iz mk), .ref (ad 195), .int (iz tx), .ref (ad 196), .int (iz rl), .int (iz a0), .int (iz wr), .int (iz s0), .int (iz s1), .ref (ad 197), .int (iz rm), .ref (ad 198), .ref (ad 199)])) := ⟨_, rfl⟩
  rw [← hg_41] at G
  have hc_42 : g_40 192 = .inr (8, [.ref (ad 193), .int (iz ly), .int (iz 1), .ref (ad 194), .int (iz mk), .ref (ad 195), .int (iz tx), .ref (ad 196), .int (iz rl), .int (iz a0), .int (iz wr), .int (iz s0), .int (iz s1), .ref (ad 197), .int (iz rm), .ref (ad 198), .ref (ad 199)]) := by rw [hg_41]; exact gu_self _ _ _
  have hc_43 : g_40 193 = aI κ 42 f := by rw [hg_41, gu_ne (by decide)]; exact hc_4
  have hc_44 : g_40 194 = aI κ 28896 M9 := by rw [hg_41, gu_ne (by decide)]; exact hc_5
  have hc_45 : g_40 195 = aI κ 100 X9 := by rw [hg_41, gu_ne (by decide)]; exact hc_6
  have hc_46 : g_40 196 = aI κ 42 q9 := by rw [hg_41, gu_ne (by decide)]; exact hc_7
  have hc_47 : g_40 197 = aI κ 602 pa := by rw [hg_41, gu_ne (by decide)]; exact hc_8
  have hc_48 : g_40 198 = aI κ 43 be := by rw [hg_41, gu_ne (by decide)]; exact hc_9
  have hc_49 : g_40 199 = aI κ 86 sv := by rw [hg_41, gu_ne (by decide)]; exact hc_10
  refine g_iret C G hr hlk (Nat.le_of_ble_eq_true rfl) (Nat.le_of_ble_eq_true rfl) dX8_about_93 ?_
  exact ⟨1, Or.inl ⟨rfl, by omega⟩, ⟨_, _, _, _, _, _, _, hc_42, hc_43, hc_44, hc_45, hc_46, hc_47, hc_48, hc_49, by omega, hMr, hinq⟩, fun q hq => (((congrFun hg_41 q).trans (gu_ne (by omega))).trans ((congrFun hg_2 q).trans (gu_ne (by omega))))⟩
theorem fwX8_layer_31 : gFldW wsX8_layer RX8 31 8 2 .int false := ⟨RX8, TX8, 17, tyX8, rfl, by decide, by decide +kernel, by decide +kernel, tyX8_ok, nmX8, rfl, by decide +kernel, by decide +kernel⟩
theorem fX8_layer_7 : gFld wsX8_layer RX8 7 8 0 := ⟨RX8, TX8, 17, rfl, by decide, by decide +kernel, by decide +kernel⟩
set_option maxHeartbeats 4000000 in
set_option maxRecDepth 100000 in
theorem c_X8_layer (l : Launch) (κ : gKap) (B n : Nat) (ad : Nat → Nat) (g : Nat → va_E) (ly : Int) (th : Int) (mk : Int) (tx : Int) (rl : Int) (a0 : Int) (wr : Int) (s0 : Int) (s1 : Int) (rm : Int) (f : Int → Int) (M9 : Int → Int) (X9 : Int → Int) (q9 : Int → Int) (pa : Int → Int) (be : Int → Int) (sv : Int → Int) (li : Int) (wh : Int) (hn8 : 200 ≤ n) (hM : g 192 = oM ad ly th mk tx rl a0 wr s0 s1 rm) (hN : g 193 = aI κ 42 f) (hK : g 194 = aI κ 28896 M9) (hT : g 195 = aI κ 100 X9) (hRd : g 196 = aI κ 42 q9) (hPa : g 197 = aI κ 602 pa) (hBe : g 198 = aI κ 43 be) (hSv : g 199 = aI κ 86 sv) (hok : okPl ly f) (hmk : 0 ≤ mk ∧ mk ≤ 800000000) (hMr : ∀ i, 0 ≤ i → i < 28896 → 0 ≤ M9 i ∧ M9 i ≤ mk) (hinq : inV q9) (hli : inI li) (hwh : inI wh) : Met l yX8_layer wsX8_layer ({ frames := 5, cells := 0, slots := 0, locals := 118 }) (gPre κ B n ad g [.ref (ad 192), .int (iz li), .int (iz wh)]) (gQi κ B n ad (fun z g' => ∃ t9, ((t9 = 1 ∧ ¬ (0 ≤ li ∧ li < ly)) ∨ (t9 = 2 ∧ (0 ≤ li ∧ li < ly) ∧ ¬ (0 ≤ wh ∧ wh ≤ 9)) ∨ (t9 = 0 ∧ (0 ≤ li ∧ li < ly) ∧ ((wh = 0 ∧ z = f (4 * li + 1)) ∨ (wh = 1 ∧ z = f (4 * li + 2)) ∨ (wh = 2 ∧ z = f (4 * li + 3)) ∨ (wh = 3 ∧ z = f (4 * li + 4)) ∨ (wh = 4 ∧ z = pd (f 0) (f (4 * li + 1))) ∨ (wh = 5 ∧ z = tn (f 0) (f (4 * li + 1))) ∨ (wh = 6 ∧ z = lb (f 0) (f (4 * li + 1))) ∨ (wh = 7 ∧ z = (cntS (fun x y => PTl f li x y) : Int)) ∨ (wh = 8 ∧ z = lsr f li) ∨ (wh = 9 ∧ z = grr f li)))) ∧ jkM κ ad g' ly t9 tx s0 s1 rm (mk + 1000) f X9 pa sv ∧ frM g g')) 0 0 (gFree B) := by
  refine g_met RX8 (cc := cX8_layer) (maxL := 3) (ret := (some .int)) (by decide) rfl rfl (Nat.le_of_ble_eq_true rfl) ?_
  intro p e s m args below meth c C hr hlk hnm G ls hl
  have hl : lv_has ls 3 [(0, .ref (ad 192)), (1, .int (iz li)), (2, .int (iz wh))] := hl
  obtain ⟨hn6, hv0, hv25, hlay, hsee⟩ := id hok
  refine g_aload_n C dX8_layer_0 rfl hl 0 rfl ?_
  refine g_iconst (a := 0) C dX8_layer_1 rfl ?_
  refine g_put C G (pos := 192) (fs' := [.ref (ad 193), .int (iz ly), .int (iz 0), .ref (ad 194), .int (iz mk), .ref (ad 195), .int (iz tx), .ref (ad 196), .int (iz rl), .int (iz a0), .int (iz wr), .int (iz s0), .int (iz s1), .ref (ad 197), .int (iz rm), .ref (ad 198), .ref (ad 199)]) fwX8_layer_31 (by omega) hM (Nat.le_of_ble_eq_true rfl) rfl rfl rfl dX8_layer_2 (fun H locs G => ?_)
  obtain ⟨g_1, hg_2⟩ : ∃ g9, g9 = va_up g 192 (.inr (8, [.ref (ad 193), .int (iz ly), .int (iz 0), .ref (ad 194), .int (iz mk), .ref (ad 195), .int (iz tx), .ref (ad 196), .int (iz rl), .int (iz a0), .int (iz wr), .int (iz s0), .int (iz s1), .ref (ad 197), .int (iz rm), .ref (ad 198), .ref (ad 199)])) := ⟨_, rfl⟩
  rw [← hg_2] at G
  have hc_3 : g_1 192 = .inr (8, [.ref (ad 193), .int (iz ly), .int (iz 0), .ref (ad 194), .int (iz mk), .ref (ad 195), .int (iz tx), .ref (ad 196), .int (iz rl), .int (iz a0), .int (iz wr), .int (iz s0), .int (iz s1), .ref (ad 197), .int (iz rm), .ref (ad 198), .ref (ad 199)]) := by rw [hg_2]; exact gu_self _ _ _
  have hc_4 : g_1 193 = aI κ 42 f := by rw [hg_2, gu_ne (by decide)]; exact hN
  have hc_5 : g_1 194 = aI κ 28896 M9 := by rw [hg_2, gu_ne (by decide)]; exact hK
  have hc_6 : g_1 195 = aI κ 100 X9 := by rw [hg_2, gu_ne (by decide)]; exact hT
  have hc_7 : g_1 196 = aI κ 42 q9 := by rw [hg_2, gu_ne (by decide)]; exact hRd
  have hc_8 : g_1 197 = aI κ 602 pa := by rw [hg_2, gu_ne (by decide)]; exact hPa
  have hc_9 : g_1 198 = aI κ 43 be := by rw [hg_2, gu_ne (by decide)]; exact hBe
  have hc_10 : g_1 199 = aI κ 86 sv := by rw [hg_2, gu_ne (by decide)]; exact hSv
  refine g_aload_n C dX8_layer_5 rfl hl 0 rfl ?_
  refine g_iload_n C dX8_layer_6 rfl hl 1 rfl ?_
  refine g_ci C G (g_runV (As := [.int (iz li)]) (rest := []) (pos := 192) C G (c_X8_isLayer l κ B n ad g_1 ly 0 mk tx rl a0 wr s0 s1 rm li hn8 hc_3 hli (by omega)) (cwV 1 C.1.2.2.2.2 gX8_layer_X8_isLayer rfl rfl rfl (by decide +kernel) ⟨Nat.le_of_ble_eq_true rfl, Nat.le_of_ble_eq_true rfl⟩) (by omega) hc_3 (T := TX8) (N := 17) rfl rfl hl rfl (Nat.le_of_ble_eq_true rfl) dX8_layer_7 ⟨Nat.le_of_ble_eq_true rfl, Nat.le_of_ble_eq_true rfl⟩) (fun z_12 g9 H locs hw G => ?_)
  obtain ⟨hg9, hw⟩ := hw
  replace hg9 := hg9.symm
  subst hg9
  rcases hw with ⟨b_11, rfl⟩ | ⟨b_11, rfl⟩
  · refine g_if_ne (tgt := 19) C (by decide) dX8_layer_10 (by decide) (fun _ => ?_) (fun c9 => absurd c9 (by decide))
    refine g_iload_n C dX8_layer_19 rfl hl 2 rfl ?_
    by_cases e_13 : wh = 0
    · refine g_tswIn (v := 0) (off := 56) (tgt := 76) C dX8_layer_20 e_13 (by decide) (by decide) (by decide) (by decide) (by decide) ?_
      refine g_aload_n C dX8_layer_76 rfl hl 0 rfl ?_
      refine g_get C G (pos := 192) fX8_layer_7 (by omega) hc_3 rfl dX8_layer_77 ?_
      refine g_iconst (a := 4) C dX8_layer_80 rfl ?_
      refine g_iload_n C dX8_layer_81 rfl hl 1 rfl ?_
      refine g_imul C dX8_layer_82 ?_
      refine g_iconst (a := 1) C dX8_layer_83 rfl ?_
      refine g_iadd C dX8_layer_84 ?_
      refine g_iload_n C dX8_layer_85 rfl hl 2 rfl ?_
      refine g_iadd C dX8_layer_86 ?_
      refine g_iaload C G (pos := 193) (by omega) hc_4 (by omega) (by omega) (by omega) dX8_layer_87 ?_
      refine g_iret C G hr hlk (Nat.le_of_ble_eq_true rfl) (Nat.le_of_ble_eq_true rfl) dX8_layer_88 ?_
      exact ⟨0, Or.inr (Or.inr ⟨rfl, by omega, Or.inl ⟨by omega, congrArg f (by omega)⟩⟩), ⟨_, _, _, _, _, _, _, hc_3, hc_4, hc_5, hc_6, hc_7, hc_8, hc_9, hc_10, by omega, hMr, hinq⟩, fun q hq => ((congrFun hg_2 q).trans (gu_ne (by omega)))⟩
    by_cases e_14 : wh = 1
    · refine g_tswIn (v := 1) (off := 56) (tgt := 76) C dX8_layer_20 e_14 (by decide) (by decide) (by decide) (by decide) (by decide) ?_
      refine g_aload_n C dX8_layer_76 rfl hl 0 rfl ?_
      refine g_get C G (pos := 192) fX8_layer_7 (by omega) hc_3 rfl dX8_layer_77 ?_
      refine g_iconst (a := 4) C dX8_layer_80 rfl ?_
      refine g_iload_n C dX8_layer_81 rfl hl 1 rfl ?_
      refine g_imul C dX8_layer_82 ?_
      refine g_iconst (a := 1) C dX8_layer_83 rfl ?_
      refine g_iadd C dX8_layer_84 ?_
      refine g_iload_n C dX8_layer_85 rfl hl 2 rfl ?_
      refine g_iadd C dX8_layer_86 ?_
      refine g_iaload C G (pos := 193) (by omega) hc_4 (by omega) (by omega) (by omega) dX8_layer_87 ?_
      refine g_iret C G hr hlk (Nat.le_of_ble_eq_true rfl) (Nat.le_of_ble_eq_true rfl) dX8_layer_88 ?_
      exact ⟨0, Or.inr (Or.inr ⟨rfl, by omega, Or.inr (Or.inl ⟨by omega, congrArg f (by omega)⟩)⟩), ⟨_, _, _, _, _, _, _, hc_3, hc_4, hc_5, hc_6, hc_7, hc_8, hc_9, hc_10, by omega, hMr, hinq⟩, fun q hq => ((congrFun hg_2 q).trans (gu_ne (by omega)))⟩
    by_cases e_15 : wh = 2
    · refine g_tswIn (v := 2) (off := 56) (tgt := 76) C dX8_layer_20 e_15 (by decide) (by decide) (by decide) (by decide) (by decide) ?_
      refine g_aload_n C dX8_layer_76 rfl hl 0 rfl ?_
      refine g_get C G (pos := 192) fX8_layer_7 (by omega) hc_3 rfl dX8_layer_77 ?_
      refine g_iconst (a := 4) C dX8_layer_80 rfl ?_
      refine g_iload_n C dX8_layer_81 rfl hl 1 rfl ?_
      refine g_imul C dX8_layer_82 ?_
      refine g_iconst (a := 1) C dX8_layer_83 rfl ?_
      refine g_iadd C dX8_layer_84 ?_
      refine g_iload_n C dX8_layer_85 rfl hl 2 rfl ?_
      refine g_iadd C dX8_layer_86 ?_
      refine g_iaload C G (pos := 193) (by omega) hc_4 (by omega) (by omega) (by omega) dX8_layer_87 ?_
      refine g_iret C G hr hlk (Nat.le_of_ble_eq_true rfl) (Nat.le_of_ble_eq_true rfl) dX8_layer_88 ?_
      exact ⟨0, Or.inr (Or.inr ⟨rfl, by omega, Or.inr (Or.inr (Or.inl ⟨by omega, congrArg f (by omega)⟩))⟩), ⟨_, _, _, _, _, _, _, hc_3, hc_4, hc_5, hc_6, hc_7, hc_8, hc_9, hc_10, by omega, hMr, hinq⟩, fun q hq => ((congrFun hg_2 q).trans (gu_ne (by omega)))⟩
    by_cases e_16 : wh = 3
    · refine g_tswIn (v := 3) (off := 56) (tgt := 76) C dX8_layer_20 e_16 (by decide) (by decide) (by decide) (by decide) (by decide) ?_
      refine g_aload_n C dX8_layer_76 rfl hl 0 rfl ?_
      refine g_get C G (pos := 192) fX8_layer_7 (by omega) hc_3 rfl dX8_layer_77 ?_
      refine g_iconst (a := 4) C dX8_layer_80 rfl ?_
      refine g_iload_n C dX8_layer_81 rfl hl 1 rfl ?_
      refine g_imul C dX8_layer_82 ?_
      refine g_iconst (a := 1) C dX8_layer_83 rfl ?_
      refine g_iadd C dX8_layer_84 ?_
      refine g_iload_n C dX8_layer_85 rfl hl 2 rfl ?_
      refine g_iadd C dX8_layer_86 ?_
      refine g_iaload C G (pos := 193) (by omega) hc_4 (by omega) (by omega) (by omega) dX8_layer_87 ?_
      refine g_iret C G hr hlk (Nat.le_of_ble_eq_true rfl) (Nat.le_of_ble_eq_true rfl) dX8_layer_88 ?_
      exact ⟨0, Or.inr (Or.inr ⟨rfl, by omega, Or.inr (Or.inr (Or.inr (Or.inl ⟨by omega, congrArg f (by omega)⟩)))⟩), ⟨_, _, _, _, _, _, _, hc_3, hc_4, hc_5, hc_6, hc_7, hc_8, hc_9, hc_10, by omega, hMr, hinq⟩, fun q hq => ((congrFun hg_2 q).trans (gu_ne (by omega)))⟩
    by_cases e_17 : wh = 4
    · refine g_tswIn (v := 4) (off := 69) (tgt := 89) C dX8_layer_20 e_17 (by decide) (by decide) (by decide) (by decide) (by decide) ?_
      refine g_aload_n C dX8_layer_89 rfl hl 0 rfl ?_
      refine g_iload_n C dX8_layer_90 rfl hl 1 rfl ?_
      refine g_ci C G (g_runV (As := [.int (iz li)]) (rest := []) (pos := 192) C G (c_X8_period l κ B n ad g_1 ly 0 mk tx rl a0 wr s0 s1 rm f li hn8 hc_3 hc_4 hok (by omega)) (cwV 1 C.1.2.2.2.2 gX8_layer_X8_period rfl rfl rfl (by decide +kernel) ⟨Nat.le_of_ble_eq_true rfl, Nat.le_of_ble_eq_true rfl⟩) (by omega) hc_3 (T := TX8) (N := 17) rfl rfl hl rfl (Nat.le_of_ble_eq_true rfl) dX8_layer_91 ⟨Nat.le_of_ble_eq_true rfl, Nat.le_of_ble_eq_true rfl⟩) (fun z_18 g9 H locs hw G => ?_)
      obtain ⟨hg9, h_19⟩ := hw
      replace hg9 := hg9.symm
      subst hg9
      refine g_iret C G hr hlk (Nat.le_of_ble_eq_true rfl) (Nat.le_of_ble_eq_true rfl) dX8_layer_94 ?_
      exact ⟨0, Or.inr (Or.inr ⟨rfl, by omega, Or.inr (Or.inr (Or.inr (Or.inr (Or.inl ⟨by omega, h_19.1⟩))))⟩), ⟨_, _, _, _, _, _, _, hc_3, hc_4, hc_5, hc_6, hc_7, hc_8, hc_9, hc_10, by omega, hMr, hinq⟩, fun q hq => ((congrFun hg_2 q).trans (gu_ne (by omega)))⟩
    by_cases e_20 : wh = 5
    · refine g_tswIn (v := 5) (off := 75) (tgt := 95) C dX8_layer_20 e_20 (by decide) (by decide) (by decide) (by decide) (by decide) ?_
      refine g_aload_n C dX8_layer_95 rfl hl 0 rfl ?_
      refine g_iload_n C dX8_layer_96 rfl hl 1 rfl ?_
      refine g_ci C G (g_runV (As := [.int (iz li)]) (rest := []) (pos := 192) C G (c_X8_turns l κ B n ad g_1 ly 0 mk tx rl a0 wr s0 s1 rm f li hn8 hc_3 hc_4 hok (by omega)) (cwV 1 C.1.2.2.2.2 gX8_layer_X8_turns rfl rfl rfl (by decide +kernel) ⟨Nat.le_of_ble_eq_true rfl, Nat.le_of_ble_eq_true rfl⟩) (by omega) hc_3 (T := TX8) (N := 17) rfl rfl hl rfl (Nat.le_of_ble_eq_true rfl) dX8_layer_97 ⟨Nat.le_of_ble_eq_true rfl, Nat.le_of_ble_eq_true rfl⟩) (fun z_21 g9 H locs hw G => ?_)
      obtain ⟨hg9, h_22⟩ := hw
      replace hg9 := hg9.symm
      subst hg9
      refine g_iret C G hr hlk (Nat.le_of_ble_eq_true rfl) (Nat.le_of_ble_eq_true rfl) dX8_layer_100 ?_
      exact ⟨0, Or.inr (Or.inr ⟨rfl, by omega, Or.inr (Or.inr (Or.inr (Or.inr (Or.inr (Or.inl ⟨by omega, h_22.1⟩)))))⟩), ⟨_, _, _, _, _, _, _, hc_3, hc_4, hc_5, hc_6, hc_7, hc_8, hc_9, hc_10, by omega, hMr, hinq⟩, fun q hq => ((congrFun hg_2 q).trans (gu_ne (by omega)))⟩
    by_cases e_23 : wh = 6
    · refine g_tswIn (v := 6) (off := 81) (tgt := 101) C dX8_layer_20 e_23 (by decide) (by decide) (by decide) (by decide) (by decide) ?_
      refine g_aload_n C dX8_layer_101 rfl hl 0 rfl ?_
      refine g_iload_n C dX8_layer_102 rfl hl 1 rfl ?_
      refine g_ci C G (g_runV (As := [.int (iz li)]) (rest := []) (pos := 192) C G (c_X8_lobes l κ B n ad g_1 ly 0 mk tx rl a0 wr s0 s1 rm f li hn8 hc_3 hc_4 hok (by omega)) (cwV 1 C.1.2.2.2.2 gX8_layer_X8_lobes rfl rfl rfl (by decide +kernel) ⟨Nat.le_of_ble_eq_true rfl, Nat.le_of_ble_eq_true rfl⟩) (by omega) hc_3 (T := TX8) (N := 17) rfl rfl hl rfl (Nat.le_of_ble_eq_true rfl) dX8_layer_103 ⟨Nat.le_of_ble_eq_true rfl, Nat.le_of_ble_eq_true rfl⟩) (fun z_24 g9 H locs hw G => ?_)
      obtain ⟨hg9, h_25⟩ := hw
      replace hg9 := hg9.symm
      subst hg9
      refine g_iret C G hr hlk (Nat.le_of_ble_eq_true rfl) (Nat.le_of_ble_eq_true rfl) dX8_layer_106 ?_
      exact ⟨0, Or.inr (Or.inr ⟨rfl, by omega, Or.inr (Or.inr (Or.inr (Or.inr (Or.inr (Or.inr (Or.inl ⟨by omega, h_25.1⟩))))))⟩), ⟨_, _, _, _, _, _, _, hc_3, hc_4, hc_5, hc_6, hc_7, hc_8, hc_9, hc_10, by omega, hMr, hinq⟩, fun q hq => ((congrFun hg_2 q).trans (gu_ne (by omega)))⟩
    by_cases e_26 : wh = 7
    · refine g_tswIn (v := 7) (off := 87) (tgt := 107) C dX8_layer_20 e_26 (by decide) (by decide) (by decide) (by decide) (by decide) ?_
      refine g_aload_n C dX8_layer_107 rfl hl 0 rfl ?_
      refine g_iload_n C dX8_layer_108 rfl hl 1 rfl ?_
      refine g_ci C G (g_runV (As := [.int (iz li)]) (rest := []) (pos := 192) C G (c_X8_size l κ B n ad g_1 ly 0 mk tx rl a0 wr s0 s1 rm f M9 li hn8 hc_3 hc_4 hc_5 hok (by omega) (by omega) hMr) (cwV 1 C.1.2.2.2.2 gX8_layer_X8_size rfl rfl rfl (by decide +kernel) ⟨Nat.le_of_ble_eq_true rfl, Nat.le_of_ble_eq_true rfl⟩) (by omega) hc_3 (T := TX8) (N := 17) rfl rfl hl rfl (Nat.le_of_ble_eq_true rfl) dX8_layer_109 ⟨Nat.le_of_ble_eq_true rfl, Nat.le_of_ble_eq_true rfl⟩) (fun z_29 g_32 H locs hw9 G => ?_)
      obtain ⟨V_27, hgs_31, hS_28, h_30⟩ := hw9
      have hc_33 : g_32 192 = .inr (8, [.ref (ad 193), .int (iz ly), .int (iz 0), .ref (ad 194), .int (iz (mk + 1)), .ref (ad 195), .int (iz tx), .ref (ad 196), .int (iz rl), .int (iz a0), .int (iz wr), .int (iz s0), .int (iz s1), .ref (ad 197), .int (iz rm), .ref (ad 198), .ref (ad 199)]) := by rw [hgs_31, gu_ne (by decide)]; exact gu_self _ _ _
      have hc_34 : g_32 193 = aI κ 42 f := by rw [hgs_31, gu_ne (by decide), gu_ne (by decide)]; exact hc_4
      have hc_35 : g_32 194 = aI κ 28896 V_27 := by rw [hgs_31]; exact gu_self _ _ _
      have hc_36 : g_32 195 = aI κ 100 X9 := by rw [hgs_31, gu_ne (by decide), gu_ne (by decide)]; exact hc_6
      have hc_37 : g_32 196 = aI κ 42 q9 := by rw [hgs_31, gu_ne (by decide), gu_ne (by decide)]; exact hc_7
      have hc_38 : g_32 197 = aI κ 602 pa := by rw [hgs_31, gu_ne (by decide), gu_ne (by decide)]; exact hc_8
      have hc_39 : g_32 198 = aI κ 43 be := by rw [hgs_31, gu_ne (by decide), gu_ne (by decide)]; exact hc_9
      have hc_40 : g_32 199 = aI κ 86 sv := by rw [hgs_31, gu_ne (by decide), gu_ne (by decide)]; exact hc_10
      refine g_iret C G hr hlk (Nat.le_of_ble_eq_true rfl) (Nat.le_of_ble_eq_true rfl) dX8_layer_112 ?_
      exact ⟨0, Or.inr (Or.inr ⟨rfl, by omega, Or.inr (Or.inr (Or.inr (Or.inr (Or.inr (Or.inr (Or.inr (Or.inl ⟨by omega, h_30.1⟩)))))))⟩), ⟨_, _, _, _, _, _, _, hc_33, hc_34, hc_35, hc_36, hc_37, hc_38, hc_39, hc_40, by omega, hS_28.1, hinq⟩, fun q hq => (((congrFun hgs_31 q).trans ((gu_ne (by omega)).trans (gu_ne (by omega)))).trans ((congrFun hg_2 q).trans (gu_ne (by omega))))⟩
    by_cases e_41 : wh = 8
    · refine g_tswIn (v := 8) (off := 93) (tgt := 113) C dX8_layer_20 e_41 (by decide) (by decide) (by decide) (by decide) (by decide) ?_
      refine g_aload_n C dX8_layer_113 rfl hl 0 rfl ?_
      refine g_iload_n C dX8_layer_114 rfl hl 1 rfl ?_
      refine g_ci C G (g_runV (As := [.int (iz li)]) (rest := []) (pos := 192) C G (c_X8_least l κ B n ad g_1 ly 0 mk tx rl a0 wr s0 s1 rm f li hn8 hc_3 hc_4 hok (by omega)) (cwV 1 C.1.2.2.2.2 gX8_layer_X8_least rfl rfl rfl (by decide +kernel) ⟨Nat.le_of_ble_eq_true rfl, Nat.le_of_ble_eq_true rfl⟩) (by omega) hc_3 (T := TX8) (N := 17) rfl rfl hl rfl (Nat.le_of_ble_eq_true rfl) dX8_layer_115 ⟨Nat.le_of_ble_eq_true rfl, Nat.le_of_ble_eq_true rfl⟩) (fun z_42 g9 H locs hw G => ?_)
      obtain ⟨hg9, h_43⟩ := hw
      replace hg9 := hg9.symm
      subst hg9
      refine g_iret C G hr hlk (Nat.le_of_ble_eq_true rfl) (Nat.le_of_ble_eq_true rfl) dX8_layer_118 ?_
      exact ⟨0, Or.inr (Or.inr ⟨rfl, by omega, Or.inr (Or.inr (Or.inr (Or.inr (Or.inr (Or.inr (Or.inr (Or.inr (Or.inl ⟨by omega, h_43.1⟩))))))))⟩), ⟨_, _, _, _, _, _, _, hc_3, hc_4, hc_5, hc_6, hc_7, hc_8, hc_9, hc_10, by omega, hMr, hinq⟩, fun q hq => ((congrFun hg_2 q).trans (gu_ne (by omega)))⟩
    by_cases e_44 : wh = 9
    · refine g_tswIn (v := 9) (off := 99) (tgt := 119) C dX8_layer_20 e_44 (by decide) (by decide) (by decide) (by decide) (by decide) ?_
      refine g_aload_n C dX8_layer_119 rfl hl 0 rfl ?_
      refine g_iload_n C dX8_layer_120 rfl hl 1 rfl ?_
      refine g_ci C G (g_runV (As := [.int (iz li)]) (rest := []) (pos := 192) C G (c_X8_greatest l κ B n ad g_1 ly 0 mk tx rl a0 wr s0 s1 rm f li hn8 hc_3 hc_4 hok (by omega)) (cwV 1 C.1.2.2.2.2 gX8_layer_X8_greatest rfl rfl rfl (by decide +kernel) ⟨Nat.le_of_ble_eq_true rfl, Nat.le_of_ble_eq_true rfl⟩) (by omega) hc_3 (T := TX8) (N := 17) rfl rfl hl rfl (Nat.le_of_ble_eq_true rfl) dX8_layer_121 ⟨Nat.le_of_ble_eq_true rfl, Nat.le_of_ble_eq_true rfl⟩) (fun z_45 g9 H locs hw G => ?_)
      obtain ⟨hg9, h_46⟩ := hw
      replace hg9 := hg9.symm
      subst hg9
      refine g_iret C G hr hlk (Nat.le_of_ble_eq_true rfl) (Nat.le_of_ble_eq_true rfl) dX8_layer_124 ?_
      exact ⟨0, Or.inr (Or.inr ⟨rfl, by omega, Or.inr (Or.inr (Or.inr (Or.inr (Or.inr (Or.inr (Or.inr (Or.inr (Or.inr (⟨by omega, h_46.1⟩)))))))))⟩), ⟨_, _, _, _, _, _, _, hc_3, hc_4, hc_5, hc_6, hc_7, hc_8, hc_9, hc_10, by omega, hMr, hinq⟩, fun q hq => ((congrFun hg_2 q).trans (gu_ne (by omega)))⟩
    refine g_tswOut (tgt := 125) C (by omega) dX8_layer_20 (by omega) (by decide) ?_
    refine g_aload_n C dX8_layer_125 rfl hl 0 rfl ?_
    refine g_iconst (a := 2) C dX8_layer_126 rfl ?_
    refine g_ci C G (g_runV (As := [.int (iz 2)]) (rest := []) (pos := 192) C G (c_X8_refused l κ B n ad g_1 ly 0 mk tx rl a0 wr s0 s1 rm 2 hn8 hc_3) (cwV 1 C.1.2.2.2.2 gX8_layer_X8_refused rfl rfl rfl (by decide +kernel) ⟨Nat.le_of_ble_eq_true rfl, Nat.le_of_ble_eq_true rfl⟩) (by omega) hc_3 (T := TX8) (N := 17) rfl rfl hl rfl (Nat.le_of_ble_eq_true rfl) dX8_layer_127 ⟨Nat.le_of_ble_eq_true rfl, Nat.le_of_ble_eq_true rfl⟩) (fun z_47 g9 H locs hw G => ?_)
    obtain ⟨hw, h_48⟩ := hw
    subst hw
    obtain ⟨g_49, hg_50⟩ : ∃ g9, g9 = va_up g_1 192 (.inr (8, [.ref (ad 193), .int (iz ly), .int (iz 2), .ref (ad 194), .int (iz mk), .ref (ad 195), .int (iz tx), .ref (ad 196), .int (iz rl), .int (iz a0), .int (iz wr), .int (iz s0), .int (iz s1), .ref (ad 197), .int (iz rm), .ref (ad 198), .ref (ad 199)])) := ⟨_, rfl⟩
    rw [← hg_50] at G
    have hc_51 : g_49 192 = .inr (8, [.ref (ad 193), .int (iz ly), .int (iz 2), .ref (ad 194), .int (iz mk), .ref (ad 195), .int (iz tx), .ref (ad 196), .int (iz rl), .int (iz a0), .int (iz wr), .int (iz s0), .int (iz s1), .ref (ad 197), .int (iz rm), .ref (ad 198), .ref (ad 199)]) := by rw [hg_50]; exact gu_self _ _ _
    have hc_52 : g_49 193 = aI κ 42 f := by rw [hg_50, gu_ne (by decide)]; exact hc_4
    have hc_53 : g_49 194 = aI κ 28896 M9 := by rw [hg_50, gu_ne (by decide)]; exact hc_5
    have hc_54 : g_49 195 = aI κ 100 X9 := by rw [hg_50, gu_ne (by decide)]; exact hc_6
    have hc_55 : g_49 196 = aI κ 42 q9 := by rw [hg_50, gu_ne (by decide)]; exact hc_7
    have hc_56 : g_49 197 = aI κ 602 pa := by rw [hg_50, gu_ne (by decide)]; exact hc_8
    have hc_57 : g_49 198 = aI κ 43 be := by rw [hg_50, gu_ne (by decide)]; exact hc_9
    have hc_58 : g_49 199 = aI κ 86 sv := by rw [hg_50, gu_ne (by decide)]; exact hc_10
    refine g_iret C G hr hlk (Nat.le_of_ble_eq_true rfl) (Nat.le_of_ble_eq_true rfl) dX8_layer_130 ?_
    exact ⟨2, Or.inr (Or.inl ⟨rfl, by omega, by omega⟩), ⟨_, _, _, _, _, _, _, hc_51, hc_52, hc_53, hc_54, hc_55, hc_56, hc_57, hc_58, by omega, hMr, hinq⟩, fun q hq => (((congrFun hg_50 q).trans (gu_ne (by omega))).trans ((congrFun hg_2 q).trans (gu_ne (by omega))))⟩
  · refine g_if_ne (tgt := 19) C (by decide) dX8_layer_10 (by decide) (fun c9 => absurd c9 (by decide)) (fun _ => ?_)
    refine g_aload_n C dX8_layer_13 rfl hl 0 rfl ?_
    refine g_iconst (a := 1) C dX8_layer_14 rfl ?_
    refine g_ci C G (g_runV (As := [.int (iz 1)]) (rest := []) (pos := 192) C G (c_X8_refused l κ B n ad g_1 ly 0 mk tx rl a0 wr s0 s1 rm 1 hn8 hc_3) (cwV 1 C.1.2.2.2.2 gX8_layer_X8_refused rfl rfl rfl (by decide +kernel) ⟨Nat.le_of_ble_eq_true rfl, Nat.le_of_ble_eq_true rfl⟩) (by omega) hc_3 (T := TX8) (N := 17) rfl rfl hl rfl (Nat.le_of_ble_eq_true rfl) dX8_layer_15 ⟨Nat.le_of_ble_eq_true rfl, Nat.le_of_ble_eq_true rfl⟩) (fun z_59 g9 H locs hw G => ?_)
    obtain ⟨hw, h_60⟩ := hw
    subst hw
    obtain ⟨g_61, hg_62⟩ : ∃ g9, g9 = va_up g_1 192 (.inr (8, [.ref (ad 193), .int (iz ly), .int (iz 1), .ref (ad 194), .int (iz mk), .ref (ad 195), .int (iz tx), .ref (ad 196), .int (iz rl), .int (iz a0), .int (iz wr), .int (iz s0), .int (iz s1), .ref (ad 197), .int (iz rm), .ref (ad 198), .ref (ad 199)])) := ⟨_, rfl⟩
    rw [← hg_62] at G
    have hc_63 : g_61 192 = .inr (8, [.ref (ad 193), .int (iz ly), .int (iz 1), .ref (ad 194), .int (iz mk), .ref (ad 195), .int (iz tx), .ref (ad 196), .int (iz rl), .int (iz a0), .int (iz wr), .int (iz s0), .int (iz s1), .ref (ad 197), .int (iz rm), .ref (ad 198), .ref (ad 199)]) := by rw [hg_62]; exact gu_self _ _ _
    have hc_64 : g_61 193 = aI κ 42 f := by rw [hg_62, gu_ne (by decide)]; exact hc_4
    have hc_65 : g_61 194 = aI κ 28896 M9 := by rw [hg_62, gu_ne (by decide)]; exact hc_5
    have hc_66 : g_61 195 = aI κ 100 X9 := by rw [hg_62, gu_ne (by decide)]; exact hc_6
    have hc_67 : g_61 196 = aI κ 42 q9 := by rw [hg_62, gu_ne (by decide)]; exact hc_7
    have hc_68 : g_61 197 = aI κ 602 pa := by rw [hg_62, gu_ne (by decide)]; exact hc_8
    have hc_69 : g_61 198 = aI κ 43 be := by rw [hg_62, gu_ne (by decide)]; exact hc_9
    have hc_70 : g_61 199 = aI κ 86 sv := by rw [hg_62, gu_ne (by decide)]; exact hc_10
    refine g_iret C G hr hlk (Nat.le_of_ble_eq_true rfl) (Nat.le_of_ble_eq_true rfl) dX8_layer_18 ?_
    exact ⟨1, Or.inl ⟨rfl, by omega⟩, ⟨_, _, _, _, _, _, _, hc_63, hc_64, hc_65, hc_66, hc_67, hc_68, hc_69, hc_70, by omega, hMr, hinq⟩, fun q hq => (((congrFun hg_62 q).trans (gu_ne (by omega))).trans ((congrFun hg_2 q).trans (gu_ne (by omega))))⟩
theorem fwX8_pen_31 : gFldW wsX8_pen RX8 31 8 2 .int false := ⟨RX8, TX8, 17, tyX8, rfl, by decide, by decide +kernel, by decide +kernel, tyX8_ok, nmX8, rfl, by decide +kernel, by decide +kernel⟩
theorem fX8_pen_7 : gFld wsX8_pen RX8 7 8 0 := ⟨RX8, TX8, 17, rfl, by decide, by decide +kernel, by decide +kernel⟩
set_option maxHeartbeats 4000000 in
set_option maxRecDepth 100000 in
theorem c_X8_pen (l : Launch) (κ : gKap) (B n : Nat) (ad : Nat → Nat) (g : Nat → va_E) (ly : Int) (th : Int) (mk : Int) (tx : Int) (rl : Int) (a0 : Int) (wr : Int) (s0 : Int) (s1 : Int) (rm : Int) (f : Int → Int) (M9 : Int → Int) (X9 : Int → Int) (q9 : Int → Int) (pa : Int → Int) (be : Int → Int) (sv : Int → Int) (li : Int) (t : Int) (hn8 : 200 ≤ n) (hM : g 192 = oM ad ly th mk tx rl a0 wr s0 s1 rm) (hN : g 193 = aI κ 42 f) (hK : g 194 = aI κ 28896 M9) (hT : g 195 = aI κ 100 X9) (hRd : g 196 = aI κ 42 q9) (hPa : g 197 = aI κ 602 pa) (hBe : g 198 = aI κ 43 be) (hSv : g 199 = aI κ 86 sv) (hok : okPl ly f) (hmk : 0 ≤ mk ∧ mk ≤ 800000000) (hMr : ∀ i, 0 ≤ i → i < 28896 → 0 ≤ M9 i ∧ M9 i ≤ mk) (hinq : inV q9) (hli : inI li) (ht : inJ t) : Met l yX8_pen wsX8_pen ({ frames := 2, cells := 0, slots := 0, locals := 50 }) (gPre κ B n ad g [.ref (ad 192), .int (iz li), .long (jz t)]) (gQi κ B n ad (fun z g' => ∃ t9, ((t9 = 1 ∧ ¬ (0 ≤ li ∧ li < ly)) ∨ (t9 = 2 ∧ (0 ≤ li ∧ li < ly) ∧ t < 0) ∨ (t9 = 0 ∧ (0 ≤ li ∧ li < ly) ∧ 0 ≤ t ∧ z = 1000 * ((f (4 * li + 4) + t) % f 0) + rad (f (4 * li + 1)) (f (4 * li + 2)) (f (4 * li + 3)) (t % f (4 * li + 1)))) ∧ jkM κ ad g' ly t9 tx s0 s1 rm (mk + 1000) f X9 pa sv ∧ frM g g')) 0 0 (gFree B) := by
  refine g_met RX8 (cc := cX8_pen) (maxL := 5) (ret := (some .int)) (by decide) rfl rfl (Nat.le_of_ble_eq_true rfl) ?_
  intro p e s m args below meth c C hr hlk hnm G ls hl
  have hl : lv_has ls 5 [(0, .ref (ad 192)), (1, .int (iz li)), (2, .long (jz t))] := hl
  obtain ⟨hn6, hv0, hv25, hlay, hsee⟩ := id hok
  refine g_aload_n C dX8_pen_0 rfl hl 0 rfl ?_
  refine g_iconst (a := 0) C dX8_pen_1 rfl ?_
  refine g_put C G (pos := 192) (fs' := [.ref (ad 193), .int (iz ly), .int (iz 0), .ref (ad 194), .int (iz mk), .ref (ad 195), .int (iz tx), .ref (ad 196), .int (iz rl), .int (iz a0), .int (iz wr), .int (iz s0), .int (iz s1), .ref (ad 197), .int (iz rm), .ref (ad 198), .ref (ad 199)]) fwX8_pen_31 (by omega) hM (Nat.le_of_ble_eq_true rfl) rfl rfl rfl dX8_pen_2 (fun H locs G => ?_)
  obtain ⟨g_1, hg_2⟩ : ∃ g9, g9 = va_up g 192 (.inr (8, [.ref (ad 193), .int (iz ly), .int (iz 0), .ref (ad 194), .int (iz mk), .ref (ad 195), .int (iz tx), .ref (ad 196), .int (iz rl), .int (iz a0), .int (iz wr), .int (iz s0), .int (iz s1), .ref (ad 197), .int (iz rm), .ref (ad 198), .ref (ad 199)])) := ⟨_, rfl⟩
  rw [← hg_2] at G
  have hc_3 : g_1 192 = .inr (8, [.ref (ad 193), .int (iz ly), .int (iz 0), .ref (ad 194), .int (iz mk), .ref (ad 195), .int (iz tx), .ref (ad 196), .int (iz rl), .int (iz a0), .int (iz wr), .int (iz s0), .int (iz s1), .ref (ad 197), .int (iz rm), .ref (ad 198), .ref (ad 199)]) := by rw [hg_2]; exact gu_self _ _ _
  have hc_4 : g_1 193 = aI κ 42 f := by rw [hg_2, gu_ne (by decide)]; exact hN
  have hc_5 : g_1 194 = aI κ 28896 M9 := by rw [hg_2, gu_ne (by decide)]; exact hK
  have hc_6 : g_1 195 = aI κ 100 X9 := by rw [hg_2, gu_ne (by decide)]; exact hT
  have hc_7 : g_1 196 = aI κ 42 q9 := by rw [hg_2, gu_ne (by decide)]; exact hRd
  have hc_8 : g_1 197 = aI κ 602 pa := by rw [hg_2, gu_ne (by decide)]; exact hPa
  have hc_9 : g_1 198 = aI κ 43 be := by rw [hg_2, gu_ne (by decide)]; exact hBe
  have hc_10 : g_1 199 = aI κ 86 sv := by rw [hg_2, gu_ne (by decide)]; exact hSv
  refine g_aload_n C dX8_pen_5 rfl hl 0 rfl ?_
  refine g_iload_n C dX8_pen_6 rfl hl 1 rfl ?_
  refine g_ci C G (g_runV (As := [.int (iz li)]) (rest := []) (pos := 192) C G (c_X8_isLayer l κ B n ad g_1 ly 0 mk tx rl a0 wr s0 s1 rm li hn8 hc_3 hli (by omega)) (cwV 1 C.1.2.2.2.2 gX8_pen_X8_isLayer rfl rfl rfl (by decide +kernel) ⟨Nat.le_of_ble_eq_true rfl, Nat.le_of_ble_eq_true rfl⟩) (by omega) hc_3 (T := TX8) (N := 17) rfl rfl hl rfl (Nat.le_of_ble_eq_true rfl) dX8_pen_7 ⟨Nat.le_of_ble_eq_true rfl, Nat.le_of_ble_eq_true rfl⟩) (fun z_12 g9 H locs hw G => ?_)
  obtain ⟨hg9, hw⟩ := hw
  replace hg9 := hg9.symm
  subst hg9
  rcases hw with ⟨b_11, rfl⟩ | ⟨b_11, rfl⟩
  · refine g_if_ne (tgt := 19) C (by decide) dX8_pen_10 (by decide) (fun _ => ?_) (fun c9 => absurd c9 (by decide))
    refine g_lload_n C dX8_pen_19 rfl hl 2 rfl ?_
    refine g_lconst (a := 0) C dX8_pen_20 (by decide) ?_
    refine g_lcmp C (by omega) (by decide) dX8_pen_21 (fun z_13 h_14 => ?_)
    refine g_if_ge (tgt := 31) C (by omega) dX8_pen_22 (by decide) (fun c_15 => ?_) (fun c_15 => ?_)
    · refine g_aload_n C dX8_pen_31 rfl hl 0 rfl ?_
      refine g_iload_n C dX8_pen_32 rfl hl 1 rfl ?_
      have hla := hlay li (by omega) (by omega)
      refine g_ci C G (g_runV (As := [.int (iz li)]) (rest := []) (pos := 192) C G (c_X8_start l κ B n ad g_1 ly 0 mk tx rl a0 wr s0 s1 rm f li hn8 hc_3 hc_4 (by omega)) (cwV 1 C.1.2.2.2.2 gX8_pen_X8_start rfl rfl rfl (by decide +kernel) ⟨Nat.le_of_ble_eq_true rfl, Nat.le_of_ble_eq_true rfl⟩) (by omega) hc_3 (T := TX8) (N := 17) rfl rfl hl rfl (Nat.le_of_ble_eq_true rfl) dX8_pen_33 ⟨Nat.le_of_ble_eq_true rfl, Nat.le_of_ble_eq_true rfl⟩) (fun z_16 g9 H locs hw G => ?_)
      obtain ⟨hg9, h_17⟩ := hw
      replace hg9 := hg9.symm
      subst hg9
      subst h_17
      refine g_lload_n C dX8_pen_36 rfl hl 2 rfl ?_
      refine g_aload_n C dX8_pen_37 rfl hl 0 rfl ?_
      refine g_get C G (pos := 192) fX8_pen_7 (by omega) hc_3 rfl dX8_pen_38 ?_
      refine g_iconst (a := 0) C dX8_pen_41 rfl ?_
      refine g_iaload C G (pos := 193) (by omega) hc_4 (by omega) (by omega) (by omega) dX8_pen_42 ?_
      refine g_i2l C (by omega) dX8_pen_43 ?_
      refine g_lrem C (by omega) (by omega) (by omega) dX8_pen_44 ?_
      rw [show Int.tmod t (f 0) = t % f 0 from tmod_pos (by omega)]
      have hm0 := Int.emod_nonneg t (show f 0 ≠ 0 by omega)
      have hm1 := Int.emod_lt_of_pos t (show 0 < f 0 by omega)
      refine g_l2i C dX8_pen_45 ?_
      refine g_iadd C dX8_pen_46 ?_
      refine g_aload_n C dX8_pen_47 rfl hl 0 rfl ?_
      refine g_get C G (pos := 192) fX8_pen_7 (by omega) hc_3 rfl dX8_pen_48 ?_
      refine g_iconst (a := 0) C dX8_pen_51 rfl ?_
      refine g_iaload C G (pos := 193) (by omega) hc_4 (by omega) (by omega) (by omega) dX8_pen_52 ?_
      refine g_irem C (by omega) (by omega) (by omega) dX8_pen_53 ?_
      rw [show (Int.tmod ((f (4 * li + 4)) + (t % f 0)) (f 0) : Int) = (f (4 * li + 4) + t) % f 0 from (by rw [tmod_pos (by omega), Int.add_emod_emod])]
      have hs0 := Int.emod_nonneg (f (4 * li + 4) + t) (show f 0 ≠ 0 by omega)
      have hs1 := Int.emod_lt_of_pos (f (4 * li + 4) + t) (show 0 < f 0 by omega)
      refine lv_istore (lv' := [(4, .int (iz ((f (4 * li + 4) + t) % f 0))), (0, .ref (ad 192)), (1, .int (iz li)), (2, .long (jz t))]) C.1.1 C.1.2.1 dX8_pen_54 hl (by decide) rfl (fun ls hl => ?_)
      refine g_sipush (a := 1000) C dX8_pen_56 (by decide) ?_
      refine g_iload C dX8_pen_59 hl 0 rfl ?_
      refine g_imul C dX8_pen_61 ?_
      refine g_aload_n C dX8_pen_62 rfl hl 1 rfl ?_
      refine g_iload_n C dX8_pen_63 rfl hl 2 rfl ?_
      refine g_lload_n C dX8_pen_64 rfl hl 3 rfl ?_
      refine g_ci C G (g_runV (As := [.int (iz li), .long (jz t)]) (rest := [.int (iz (1000 * ((f (4 * li + 4) + t) % f 0)))]) (pos := 192) C G (c_X8_radiusAt l κ B n ad g_1 ly 0 mk tx rl a0 wr s0 s1 rm f li t hn8 hc_3 hc_4 hok (by omega) (by omega)) (cwV 2 C.1.2.2.2.2 gX8_pen_X8_radiusAt rfl rfl rfl (by decide +kernel) ⟨Nat.le_of_ble_eq_true rfl, Nat.le_of_ble_eq_true rfl⟩) (by omega) hc_3 (T := TX8) (N := 17) rfl rfl hl rfl (Nat.le_of_ble_eq_true rfl) dX8_pen_65 ⟨Nat.le_of_ble_eq_true rfl, Nat.le_of_ble_eq_true rfl⟩) (fun z_18 g9 H locs hw G => ?_)
      obtain ⟨hg9, h_19⟩ := hw
      replace hg9 := hg9.symm
      subst hg9
      refine g_iadd C dX8_pen_68 ?_
      refine g_iret C G hr hlk (Nat.le_of_ble_eq_true rfl) (Nat.le_of_ble_eq_true rfl) dX8_pen_69 ?_
      exact ⟨0, Or.inr (Or.inr ⟨rfl, by omega, by omega, by rw [← h_19.1]⟩), ⟨_, _, _, _, _, _, _, hc_3, hc_4, hc_5, hc_6, hc_7, hc_8, hc_9, hc_10, by omega, hMr, hinq⟩, fun q hq => ((congrFun hg_2 q).trans (gu_ne (by omega)))⟩
    · refine g_aload_n C dX8_pen_25 rfl hl 0 rfl ?_
      refine g_iconst (a := 2) C dX8_pen_26 rfl ?_
      refine g_ci C G (g_runV (As := [.int (iz 2)]) (rest := []) (pos := 192) C G (c_X8_refused l κ B n ad g_1 ly 0 mk tx rl a0 wr s0 s1 rm 2 hn8 hc_3) (cwV 1 C.1.2.2.2.2 gX8_pen_X8_refused rfl rfl rfl (by decide +kernel) ⟨Nat.le_of_ble_eq_true rfl, Nat.le_of_ble_eq_true rfl⟩) (by omega) hc_3 (T := TX8) (N := 17) rfl rfl hl rfl (Nat.le_of_ble_eq_true rfl) dX8_pen_27 ⟨Nat.le_of_ble_eq_true rfl, Nat.le_of_ble_eq_true rfl⟩) (fun z_20 g9 H locs hw G => ?_)
      obtain ⟨hw, h_21⟩ := hw
      subst hw
      obtain ⟨g_22, hg_23⟩ : ∃ g9, g9 = va_up g_1 192 (.inr (8, [.ref (ad 193), .int (iz ly), .int (iz 2), .ref (ad 194), .int (iz mk), .ref (ad 195), .int (iz tx), .ref (ad 196), .int (iz rl), .int (iz a0), .int (iz wr), .int (iz s0), .int (iz s1), .ref (ad 197), .int (iz rm), .ref (ad 198), .ref (ad 199)])) := ⟨_, rfl⟩
      rw [← hg_23] at G
      have hc_24 : g_22 192 = .inr (8, [.ref (ad 193), .int (iz ly), .int (iz 2), .ref (ad 194), .int (iz mk), .ref (ad 195), .int (iz tx), .ref (ad 196), .int (iz rl), .int (iz a0), .int (iz wr), .int (iz s0), .int (iz s1), .ref (ad 197), .int (iz rm), .ref (ad 198), .ref (ad 199)]) := by rw [hg_23]; exact gu_self _ _ _
      have hc_25 : g_22 193 = aI κ 42 f := by rw [hg_23, gu_ne (by decide)]; exact hc_4
      have hc_26 : g_22 194 = aI κ 28896 M9 := by rw [hg_23, gu_ne (by decide)]; exact hc_5
      have hc_27 : g_22 195 = aI κ 100 X9 := by rw [hg_23, gu_ne (by decide)]; exact hc_6
      have hc_28 : g_22 196 = aI κ 42 q9 := by rw [hg_23, gu_ne (by decide)]; exact hc_7
      have hc_29 : g_22 197 = aI κ 602 pa := by rw [hg_23, gu_ne (by decide)]; exact hc_8
      have hc_30 : g_22 198 = aI κ 43 be := by rw [hg_23, gu_ne (by decide)]; exact hc_9
      have hc_31 : g_22 199 = aI κ 86 sv := by rw [hg_23, gu_ne (by decide)]; exact hc_10
      refine g_iret C G hr hlk (Nat.le_of_ble_eq_true rfl) (Nat.le_of_ble_eq_true rfl) dX8_pen_30 ?_
      exact ⟨2, Or.inr (Or.inl ⟨rfl, by omega, by omega⟩), ⟨_, _, _, _, _, _, _, hc_24, hc_25, hc_26, hc_27, hc_28, hc_29, hc_30, hc_31, by omega, hMr, hinq⟩, fun q hq => (((congrFun hg_23 q).trans (gu_ne (by omega))).trans ((congrFun hg_2 q).trans (gu_ne (by omega))))⟩
  · refine g_if_ne (tgt := 19) C (by decide) dX8_pen_10 (by decide) (fun c9 => absurd c9 (by decide)) (fun _ => ?_)
    refine g_aload_n C dX8_pen_13 rfl hl 0 rfl ?_
    refine g_iconst (a := 1) C dX8_pen_14 rfl ?_
    refine g_ci C G (g_runV (As := [.int (iz 1)]) (rest := []) (pos := 192) C G (c_X8_refused l κ B n ad g_1 ly 0 mk tx rl a0 wr s0 s1 rm 1 hn8 hc_3) (cwV 1 C.1.2.2.2.2 gX8_pen_X8_refused rfl rfl rfl (by decide +kernel) ⟨Nat.le_of_ble_eq_true rfl, Nat.le_of_ble_eq_true rfl⟩) (by omega) hc_3 (T := TX8) (N := 17) rfl rfl hl rfl (Nat.le_of_ble_eq_true rfl) dX8_pen_15 ⟨Nat.le_of_ble_eq_true rfl, Nat.le_of_ble_eq_true rfl⟩) (fun z_32 g9 H locs hw G => ?_)
    obtain ⟨hw, h_33⟩ := hw
    subst hw
    obtain ⟨g_34, hg_35⟩ : ∃ g9, g9 = va_up g_1 192 (.inr (8, [.ref (ad 193), .int (iz ly), .int (iz 1), .ref (ad 194), .int (iz mk), .ref (ad 195), .int (iz tx), .ref (ad 196), .int (iz rl), .int (iz a0), .int (iz wr), .int (iz s0), .int (iz s1), .ref (ad 197), .int (iz rm), .ref (ad 198), .ref (ad 199)])) := ⟨_, rfl⟩
    rw [← hg_35] at G
    have hc_36 : g_34 192 = .inr (8, [.ref (ad 193), .int (iz ly), .int (iz 1), .ref (ad 194), .int (iz mk), .ref (ad 195), .int (iz tx), .ref (ad 196), .int (iz rl), .int (iz a0), .int (iz wr), .int (iz s0), .int (iz s1), .ref (ad 197), .int (iz rm), .ref (ad 198), .ref (ad 199)]) := by rw [hg_35]; exact gu_self _ _ _
    have hc_37 : g_34 193 = aI κ 42 f := by rw [hg_35, gu_ne (by decide)]; exact hc_4
    have hc_38 : g_34 194 = aI κ 28896 M9 := by rw [hg_35, gu_ne (by decide)]; exact hc_5
    have hc_39 : g_34 195 = aI κ 100 X9 := by rw [hg_35, gu_ne (by decide)]; exact hc_6
    have hc_40 : g_34 196 = aI κ 42 q9 := by rw [hg_35, gu_ne (by decide)]; exact hc_7
    have hc_41 : g_34 197 = aI κ 602 pa := by rw [hg_35, gu_ne (by decide)]; exact hc_8
    have hc_42 : g_34 198 = aI κ 43 be := by rw [hg_35, gu_ne (by decide)]; exact hc_9
    have hc_43 : g_34 199 = aI κ 86 sv := by rw [hg_35, gu_ne (by decide)]; exact hc_10
    refine g_iret C G hr hlk (Nat.le_of_ble_eq_true rfl) (Nat.le_of_ble_eq_true rfl) dX8_pen_18 ?_
    exact ⟨1, Or.inl ⟨rfl, by omega⟩, ⟨_, _, _, _, _, _, _, hc_36, hc_37, hc_38, hc_39, hc_40, hc_41, hc_42, hc_43, by omega, hMr, hinq⟩, fun q hq => (((congrFun hg_35 q).trans (gu_ne (by omega))).trans ((congrFun hg_2 q).trans (gu_ne (by omega))))⟩
theorem fwX8_comes_31 : gFldW wsX8_comes RX8 31 8 2 .int false := ⟨RX8, TX8, 17, tyX8, rfl, by decide, by decide +kernel, by decide +kernel, tyX8_ok, nmX8, rfl, by decide +kernel, by decide +kernel⟩
set_option maxHeartbeats 4000000 in
set_option maxRecDepth 100000 in
theorem c_X8_comes (l : Launch) (κ : gKap) (B n : Nat) (ad : Nat → Nat) (g : Nat → va_E) (ly : Int) (th : Int) (mk : Int) (tx : Int) (rl : Int) (a0 : Int) (wr : Int) (s0 : Int) (s1 : Int) (rm : Int) (f : Int → Int) (M9 : Int → Int) (X9 : Int → Int) (q9 : Int → Int) (pa : Int → Int) (be : Int → Int) (sv : Int → Int) (li : Int) (an : Int) (ra : Int) (hn8 : 200 ≤ n) (hM : g 192 = oM ad ly th mk tx rl a0 wr s0 s1 rm) (hN : g 193 = aI κ 42 f) (hK : g 194 = aI κ 28896 M9) (hT : g 195 = aI κ 100 X9) (hRd : g 196 = aI κ 42 q9) (hPa : g 197 = aI κ 602 pa) (hBe : g 198 = aI κ 43 be) (hSv : g 199 = aI κ 86 sv) (hok : okPl ly f) (hmk : 0 ≤ mk ∧ mk ≤ 800000000) (hMr : ∀ i, 0 ≤ i → i < 28896 → 0 ≤ M9 i ∧ M9 i ≤ mk) (hinq : inV q9) (hli : inI li) (han : inI an) (hra : inI ra) : Met l yX8_comes wsX8_comes ({ frames := 4, cells := 0, slots := 0, locals := 98 }) (gPre κ B n ad g [.ref (ad 192), .int (iz li), .int (iz an), .int (iz ra)]) (gQi κ B n ad (fun z g' => ∃ t9, ((t9 = 1 ∧ ¬ (0 ≤ li ∧ li < ly)) ∨ (t9 = 2 ∧ (0 ≤ li ∧ li < ly) ∧ ¬ ((0 ≤ an ∧ an < f 0) ∧ 0 ≤ ra ∧ ra ≤ 300)) ∨ (t9 = 0 ∧ (0 ≤ li ∧ li < ly) ∧ ((0 ≤ an ∧ an < f 0) ∧ 0 ≤ ra ∧ ra ≤ 300) ∧ isFirst (fun t => (f (4 * li + 4) + t) % f 0 = an ∧ rad (f (4 * li + 1)) (f (4 * li + 2)) (f (4 * li + 3)) (t % f (4 * li + 1)) = ra) (pd (f 0) (f (4 * li + 1))) z)) ∧ jkM κ ad g' ly t9 tx s0 s1 rm (mk + 1000) f X9 pa sv ∧ frM g g')) 0 0 (gFree B) := by
  refine g_met RX8 (cc := cX8_comes) (maxL := 4) (ret := (some .int)) (by decide) rfl rfl (Nat.le_of_ble_eq_true rfl) ?_
  intro p e s m args below meth c C hr hlk hnm G ls hl
  have hl : lv_has ls 4 [(0, .ref (ad 192)), (1, .int (iz li)), (2, .int (iz an)), (3, .int (iz ra))] := hl
  obtain ⟨hn6, hv0, hv25, hlay, hsee⟩ := id hok
  refine g_aload_n C dX8_comes_0 rfl hl 0 rfl ?_
  refine g_iconst (a := 0) C dX8_comes_1 rfl ?_
  refine g_put C G (pos := 192) (fs' := [.ref (ad 193), .int (iz ly), .int (iz 0), .ref (ad 194), .int (iz mk), .ref (ad 195), .int (iz tx), .ref (ad 196), .int (iz rl), .int (iz a0), .int (iz wr), .int (iz s0), .int (iz s1), .ref (ad 197), .int (iz rm), .ref (ad 198), .ref (ad 199)]) fwX8_comes_31 (by omega) hM (Nat.le_of_ble_eq_true rfl) rfl rfl rfl dX8_comes_2 (fun H locs G => ?_)
  obtain ⟨g_1, hg_2⟩ : ∃ g9, g9 = va_up g 192 (.inr (8, [.ref (ad 193), .int (iz ly), .int (iz 0), .ref (ad 194), .int (iz mk), .ref (ad 195), .int (iz tx), .ref (ad 196), .int (iz rl), .int (iz a0), .int (iz wr), .int (iz s0), .int (iz s1), .ref (ad 197), .int (iz rm), .ref (ad 198), .ref (ad 199)])) := ⟨_, rfl⟩
  rw [← hg_2] at G
  have hc_3 : g_1 192 = .inr (8, [.ref (ad 193), .int (iz ly), .int (iz 0), .ref (ad 194), .int (iz mk), .ref (ad 195), .int (iz tx), .ref (ad 196), .int (iz rl), .int (iz a0), .int (iz wr), .int (iz s0), .int (iz s1), .ref (ad 197), .int (iz rm), .ref (ad 198), .ref (ad 199)]) := by rw [hg_2]; exact gu_self _ _ _
  have hc_4 : g_1 193 = aI κ 42 f := by rw [hg_2, gu_ne (by decide)]; exact hN
  have hc_5 : g_1 194 = aI κ 28896 M9 := by rw [hg_2, gu_ne (by decide)]; exact hK
  have hc_6 : g_1 195 = aI κ 100 X9 := by rw [hg_2, gu_ne (by decide)]; exact hT
  have hc_7 : g_1 196 = aI κ 42 q9 := by rw [hg_2, gu_ne (by decide)]; exact hRd
  have hc_8 : g_1 197 = aI κ 602 pa := by rw [hg_2, gu_ne (by decide)]; exact hPa
  have hc_9 : g_1 198 = aI κ 43 be := by rw [hg_2, gu_ne (by decide)]; exact hBe
  have hc_10 : g_1 199 = aI κ 86 sv := by rw [hg_2, gu_ne (by decide)]; exact hSv
  refine g_aload_n C dX8_comes_5 rfl hl 0 rfl ?_
  refine g_iload_n C dX8_comes_6 rfl hl 1 rfl ?_
  refine g_ci C G (g_runV (As := [.int (iz li)]) (rest := []) (pos := 192) C G (c_X8_isLayer l κ B n ad g_1 ly 0 mk tx rl a0 wr s0 s1 rm li hn8 hc_3 hli (by omega)) (cwV 1 C.1.2.2.2.2 gX8_comes_X8_isLayer rfl rfl rfl (by decide +kernel) ⟨Nat.le_of_ble_eq_true rfl, Nat.le_of_ble_eq_true rfl⟩) (by omega) hc_3 (T := TX8) (N := 17) rfl rfl hl rfl (Nat.le_of_ble_eq_true rfl) dX8_comes_7 ⟨Nat.le_of_ble_eq_true rfl, Nat.le_of_ble_eq_true rfl⟩) (fun z_12 g9 H locs hw G => ?_)
  obtain ⟨hg9, hw⟩ := hw
  replace hg9 := hg9.symm
  subst hg9
  rcases hw with ⟨b_11, rfl⟩ | ⟨b_11, rfl⟩
  · refine g_if_ne (tgt := 19) C (by decide) dX8_comes_10 (by decide) (fun _ => ?_) (fun c9 => absurd c9 (by decide))
    refine g_aload_n C dX8_comes_19 rfl hl 0 rfl ?_
    refine g_iload_n C dX8_comes_20 rfl hl 2 rfl ?_
    refine g_ci C G (g_runV (As := [.int (iz an)]) (rest := []) (pos := 192) C G (c_X8_isAngle l κ B n ad g_1 ly 0 mk tx rl a0 wr s0 s1 rm f an hn8 hc_3 hc_4 hok han) (cwV 1 C.1.2.2.2.2 gX8_comes_X8_isAngle rfl rfl rfl (by decide +kernel) ⟨Nat.le_of_ble_eq_true rfl, Nat.le_of_ble_eq_true rfl⟩) (by omega) hc_3 (T := TX8) (N := 17) rfl rfl hl rfl (Nat.le_of_ble_eq_true rfl) dX8_comes_21 ⟨Nat.le_of_ble_eq_true rfl, Nat.le_of_ble_eq_true rfl⟩) (fun z_14 g9 H locs hw G => ?_)
    obtain ⟨hg9, hw⟩ := hw
    replace hg9 := hg9.symm
    subst hg9
    rcases hw with ⟨b_13, rfl⟩ | ⟨b_13, rfl⟩
    · refine g_if_eq (tgt := 39) C (by decide) dX8_comes_24 (by decide) (fun c9 => absurd c9 (by decide)) (fun _ => ?_)
      refine g_iload_n C dX8_comes_27 rfl hl 3 rfl ?_
      refine g_i2l C (by omega) dX8_comes_28 ?_
      refine g_lconst (a := 0) C dX8_comes_29 (by decide) ?_
      refine g_ldc2 (a := 300) C (by decide +kernel) dX8_comes_30 ?_
      refine g_ci C G (g_runS (As := [.long (jz ra), .long (jz 0), .long (jz 300)]) (rest := []) C G (c_X8_in l κ B n ad g_1 ra 0 300 (by omega) (by omega) (by omega)) (va_cwS 3 C.1.2.2.2.2 gX8_comes_X8_in rfl rfl rfl (by decide +kernel) ⟨Nat.le_of_ble_eq_true rfl, Nat.le_of_ble_eq_true rfl⟩) rfl hl rfl (Nat.le_of_ble_eq_true rfl) dX8_comes_33 ⟨Nat.le_of_ble_eq_true rfl, Nat.le_of_ble_eq_true rfl⟩) (fun z_16 g9 H locs hw G => ?_)
      obtain ⟨hg9, hw⟩ := hw
      replace hg9 := hg9.symm
      subst hg9
      rcases hw with ⟨b_15, rfl⟩ | ⟨b_15, rfl⟩
      · refine g_if_ne (tgt := 45) C (by decide) dX8_comes_36 (by decide) (fun _ => ?_) (fun c9 => absurd c9 (by decide))
        refine g_aload_n C dX8_comes_45 rfl hl 0 rfl ?_
        refine g_iload_n C dX8_comes_46 rfl hl 1 rfl ?_
        refine g_iload_n C dX8_comes_47 rfl hl 2 rfl ?_
        refine g_iload_n C dX8_comes_48 rfl hl 3 rfl ?_
        refine g_ci C G (g_runV (As := [.int (iz li), .int (iz an), .int (iz ra)]) (rest := []) (pos := 192) C G (c_X8_comesTo l κ B n ad g_1 ly 0 mk tx rl a0 wr s0 s1 rm f li an ra hn8 hc_3 hc_4 hok (by omega) (by omega) (by omega)) (cwV 3 C.1.2.2.2.2 gX8_comes_X8_comesTo rfl rfl rfl (by decide +kernel) ⟨Nat.le_of_ble_eq_true rfl, Nat.le_of_ble_eq_true rfl⟩) (by omega) hc_3 (T := TX8) (N := 17) rfl rfl hl rfl (Nat.le_of_ble_eq_true rfl) dX8_comes_49 ⟨Nat.le_of_ble_eq_true rfl, Nat.le_of_ble_eq_true rfl⟩) (fun z_17 g9 H locs hw G => ?_)
        obtain ⟨hg9, h_18⟩ := hw
        replace hg9 := hg9.symm
        subst hg9
        refine g_iret C G hr hlk (Nat.le_of_ble_eq_true rfl) (Nat.le_of_ble_eq_true rfl) dX8_comes_52 ?_
        exact ⟨0, Or.inr (Or.inr ⟨rfl, by omega, by omega, h_18⟩), ⟨_, _, _, _, _, _, _, hc_3, hc_4, hc_5, hc_6, hc_7, hc_8, hc_9, hc_10, by omega, hMr, hinq⟩, fun q hq => ((congrFun hg_2 q).trans (gu_ne (by omega)))⟩
      · refine g_if_ne (tgt := 45) C (by decide) dX8_comes_36 (by decide) (fun c9 => absurd c9 (by decide)) (fun _ => ?_)
        refine g_aload_n C dX8_comes_39 rfl hl 0 rfl ?_
        refine g_iconst (a := 2) C dX8_comes_40 rfl ?_
        refine g_ci C G (g_runV (As := [.int (iz 2)]) (rest := []) (pos := 192) C G (c_X8_refused l κ B n ad g_1 ly 0 mk tx rl a0 wr s0 s1 rm 2 hn8 hc_3) (cwV 1 C.1.2.2.2.2 gX8_comes_X8_refused rfl rfl rfl (by decide +kernel) ⟨Nat.le_of_ble_eq_true rfl, Nat.le_of_ble_eq_true rfl⟩) (by omega) hc_3 (T := TX8) (N := 17) rfl rfl hl rfl (Nat.le_of_ble_eq_true rfl) dX8_comes_41 ⟨Nat.le_of_ble_eq_true rfl, Nat.le_of_ble_eq_true rfl⟩) (fun z_19 g9 H locs hw G => ?_)
        obtain ⟨hw, h_20⟩ := hw
        subst hw
        obtain ⟨g_21, hg_22⟩ : ∃ g9, g9 = va_up g_1 192 (.inr (8, [.ref (ad 193), .int (iz ly), .int (iz 2), .ref (ad 194), .int (iz mk), .ref (ad 195), .int (iz tx), .ref (ad 196), .int (iz rl), .int (iz a0), .int (iz wr), .int (iz s0), .int (iz s1), .ref (ad 197), .int (iz rm), .ref (ad 198), .ref (ad 199)])) := ⟨_, rfl⟩
        rw [← hg_22] at G
        have hc_23 : g_21 192 = .inr (8, [.ref (ad 193), .int (iz ly), .int (iz 2), .ref (ad 194), .int (iz mk), .ref (ad 195), .int (iz tx), .ref (ad 196), .int (iz rl), .int (iz a0), .int (iz wr), .int (iz s0), .int (iz s1), .ref (ad 197), .int (iz rm), .ref (ad 198), .ref (ad 199)]) := by rw [hg_22]; exact gu_self _ _ _
        have hc_24 : g_21 193 = aI κ 42 f := by rw [hg_22, gu_ne (by decide)]; exact hc_4
        have hc_25 : g_21 194 = aI κ 28896 M9 := by rw [hg_22, gu_ne (by decide)]; exact hc_5
        have hc_26 : g_21 195 = aI κ 100 X9 := by rw [hg_22, gu_ne (by decide)]; exact hc_6
        have hc_27 : g_21 196 = aI κ 42 q9 := by rw [hg_22, gu_ne (by decide)]; exact hc_7
        have hc_28 : g_21 197 = aI κ 602 pa := by rw [hg_22, gu_ne (by decide)]; exact hc_8
        have hc_29 : g_21 198 = aI κ 43 be := by rw [hg_22, gu_ne (by decide)]; exact hc_9
        have hc_30 : g_21 199 = aI κ 86 sv := by rw [hg_22, gu_ne (by decide)]; exact hc_10
        refine g_iret C G hr hlk (Nat.le_of_ble_eq_true rfl) (Nat.le_of_ble_eq_true rfl) dX8_comes_44 ?_
        exact ⟨2, Or.inr (Or.inl ⟨rfl, by omega, by omega⟩), ⟨_, _, _, _, _, _, _, hc_23, hc_24, hc_25, hc_26, hc_27, hc_28, hc_29, hc_30, by omega, hMr, hinq⟩, fun q hq => (((congrFun hg_22 q).trans (gu_ne (by omega))).trans ((congrFun hg_2 q).trans (gu_ne (by omega))))⟩
    · refine g_if_eq (tgt := 39) C (by decide) dX8_comes_24 (by decide) (fun _ => ?_) (fun c9 => absurd c9 (by decide))
      refine g_aload_n C dX8_comes_39 rfl hl 0 rfl ?_
      refine g_iconst (a := 2) C dX8_comes_40 rfl ?_
      refine g_ci C G (g_runV (As := [.int (iz 2)]) (rest := []) (pos := 192) C G (c_X8_refused l κ B n ad g_1 ly 0 mk tx rl a0 wr s0 s1 rm 2 hn8 hc_3) (cwV 1 C.1.2.2.2.2 gX8_comes_X8_refused rfl rfl rfl (by decide +kernel) ⟨Nat.le_of_ble_eq_true rfl, Nat.le_of_ble_eq_true rfl⟩) (by omega) hc_3 (T := TX8) (N := 17) rfl rfl hl rfl (Nat.le_of_ble_eq_true rfl) dX8_comes_41 ⟨Nat.le_of_ble_eq_true rfl, Nat.le_of_ble_eq_true rfl⟩) (fun z_31 g9 H locs hw G => ?_)
      obtain ⟨hw, h_32⟩ := hw
      subst hw
      obtain ⟨g_33, hg_34⟩ : ∃ g9, g9 = va_up g_1 192 (.inr (8, [.ref (ad 193), .int (iz ly), .int (iz 2), .ref (ad 194), .int (iz mk), .ref (ad 195), .int (iz tx), .ref (ad 196), .int (iz rl), .int (iz a0), .int (iz wr), .int (iz s0), .int (iz s1), .ref (ad 197), .int (iz rm), .ref (ad 198), .ref (ad 199)])) := ⟨_, rfl⟩
      rw [← hg_34] at G
      have hc_35 : g_33 192 = .inr (8, [.ref (ad 193), .int (iz ly), .int (iz 2), .ref (ad 194), .int (iz mk), .ref (ad 195), .int (iz tx), .ref (ad 196), .int (iz rl), .int (iz a0), .int (iz wr), .int (iz s0), .int (iz s1), .ref (ad 197), .int (iz rm), .ref (ad 198), .ref (ad 199)]) := by rw [hg_34]; exact gu_self _ _ _
      have hc_36 : g_33 193 = aI κ 42 f := by rw [hg_34, gu_ne (by decide)]; exact hc_4
      have hc_37 : g_33 194 = aI κ 28896 M9 := by rw [hg_34, gu_ne (by decide)]; exact hc_5
      have hc_38 : g_33 195 = aI κ 100 X9 := by rw [hg_34, gu_ne (by decide)]; exact hc_6
      have hc_39 : g_33 196 = aI κ 42 q9 := by rw [hg_34, gu_ne (by decide)]; exact hc_7
      have hc_40 : g_33 197 = aI κ 602 pa := by rw [hg_34, gu_ne (by decide)]; exact hc_8
      have hc_41 : g_33 198 = aI κ 43 be := by rw [hg_34, gu_ne (by decide)]; exact hc_9
      have hc_42 : g_33 199 = aI κ 86 sv := by rw [hg_34, gu_ne (by decide)]; exact hc_10
      refine g_iret C G hr hlk (Nat.le_of_ble_eq_true rfl) (Nat.le_of_ble_eq_true rfl) dX8_comes_44 ?_
      exact ⟨2, Or.inr (Or.inl ⟨rfl, by omega, by omega⟩), ⟨_, _, _, _, _, _, _, hc_35, hc_36, hc_37, hc_38, hc_39, hc_40, hc_41, hc_42, by omega, hMr, hinq⟩, fun q hq => (((congrFun hg_34 q).trans (gu_ne (by omega))).trans ((congrFun hg_2 q).trans (gu_ne (by omega))))⟩
  · refine g_if_ne (tgt := 19) C (by decide) dX8_comes_10 (by decide) (fun c9 => absurd c9 (by decide)) (fun _ => ?_)
    refine g_aload_n C dX8_comes_13 rfl hl 0 rfl ?_
    refine g_iconst (a := 1) C dX8_comes_14 rfl ?_
    refine g_ci C G (g_runV (As := [.int (iz 1)]) (rest := []) (pos := 192) C G (c_X8_refused l κ B n ad g_1 ly 0 mk tx rl a0 wr s0 s1 rm 1 hn8 hc_3) (cwV 1 C.1.2.2.2.2 gX8_comes_X8_refused rfl rfl rfl (by decide +kernel) ⟨Nat.le_of_ble_eq_true rfl, Nat.le_of_ble_eq_true rfl⟩) (by omega) hc_3 (T := TX8) (N := 17) rfl rfl hl rfl (Nat.le_of_ble_eq_true rfl) dX8_comes_15 ⟨Nat.le_of_ble_eq_true rfl, Nat.le_of_ble_eq_true rfl⟩) (fun z_43 g9 H locs hw G => ?_)
    obtain ⟨hw, h_44⟩ := hw
    subst hw
    obtain ⟨g_45, hg_46⟩ : ∃ g9, g9 = va_up g_1 192 (.inr (8, [.ref (ad 193), .int (iz ly), .int (iz 1), .ref (ad 194), .int (iz mk), .ref (ad 195), .int (iz tx), .ref (ad 196), .int (iz rl), .int (iz a0), .int (iz wr), .int (iz s0), .int (iz s1), .ref (ad 197), .int (iz rm), .ref (ad 198), .ref (ad 199)])) := ⟨_, rfl⟩
    rw [← hg_46] at G
    have hc_47 : g_45 192 = .inr (8, [.ref (ad 193), .int (iz ly), .int (iz 1), .ref (ad 194), .int (iz mk), .ref (ad 195), .int (iz tx), .ref (ad 196), .int (iz rl), .int (iz a0), .int (iz wr), .int (iz s0), .int (iz s1), .ref (ad 197), .int (iz rm), .ref (ad 198), .ref (ad 199)]) := by rw [hg_46]; exact gu_self _ _ _
    have hc_48 : g_45 193 = aI κ 42 f := by rw [hg_46, gu_ne (by decide)]; exact hc_4
    have hc_49 : g_45 194 = aI κ 28896 M9 := by rw [hg_46, gu_ne (by decide)]; exact hc_5
    have hc_50 : g_45 195 = aI κ 100 X9 := by rw [hg_46, gu_ne (by decide)]; exact hc_6
    have hc_51 : g_45 196 = aI κ 42 q9 := by rw [hg_46, gu_ne (by decide)]; exact hc_7
    have hc_52 : g_45 197 = aI κ 602 pa := by rw [hg_46, gu_ne (by decide)]; exact hc_8
    have hc_53 : g_45 198 = aI κ 43 be := by rw [hg_46, gu_ne (by decide)]; exact hc_9
    have hc_54 : g_45 199 = aI κ 86 sv := by rw [hg_46, gu_ne (by decide)]; exact hc_10
    refine g_iret C G hr hlk (Nat.le_of_ble_eq_true rfl) (Nat.le_of_ble_eq_true rfl) dX8_comes_18 ?_
    exact ⟨1, Or.inl ⟨rfl, by omega⟩, ⟨_, _, _, _, _, _, _, hc_47, hc_48, hc_49, hc_50, hc_51, hc_52, hc_53, hc_54, by omega, hMr, hinq⟩, fun q hq => (((congrFun hg_46 q).trans (gu_ne (by omega))).trans ((congrFun hg_2 q).trans (gu_ne (by omega))))⟩
theorem fwX8_at_31 : gFldW wsX8_at RX8 31 8 2 .int false := ⟨RX8, TX8, 17, tyX8, rfl, by decide, by decide +kernel, by decide +kernel, tyX8_ok, nmX8, rfl, by decide +kernel, by decide +kernel⟩
set_option maxHeartbeats 4000000 in
set_option maxRecDepth 100000 in
theorem c_X8_at (l : Launch) (κ : gKap) (B n : Nat) (ad : Nat → Nat) (g : Nat → va_E) (ly : Int) (th : Int) (mk : Int) (tx : Int) (rl : Int) (a0 : Int) (wr : Int) (s0 : Int) (s1 : Int) (rm : Int) (f : Int → Int) (M9 : Int → Int) (X9 : Int → Int) (q9 : Int → Int) (pa : Int → Int) (be : Int → Int) (sv : Int → Int) (ra : Int) (hn8 : 200 ≤ n) (hM : g 192 = oM ad ly th mk tx rl a0 wr s0 s1 rm) (hN : g 193 = aI κ 42 f) (hK : g 194 = aI κ 28896 M9) (hT : g 195 = aI κ 100 X9) (hRd : g 196 = aI κ 42 q9) (hPa : g 197 = aI κ 602 pa) (hBe : g 198 = aI κ 43 be) (hSv : g 199 = aI κ 86 sv) (hok : okPl ly f) (hmk : 0 ≤ mk ∧ mk ≤ 800000000) (hMr : ∀ i, 0 ≤ i → i < 28896 → 0 ≤ M9 i ∧ M9 i ≤ mk) (hinq : inV q9) (hra : inI ra) : Met l yX8_at wsX8_at ({ frames := 5, cells := 0, slots := 0, locals := 119 }) (gPre κ B n ad g [.ref (ad 192), .int (iz ra)]) (gQi κ B n ad (fun z g' => ∃ t9, ((t9 = 1 ∧ ¬ (0 ≤ ra ∧ ra ≤ 300)) ∨ (t9 = 0 ∧ (0 ≤ ra ∧ ra ≤ 300) ∧ z = (cntR (fun x y => ∃ l9, 0 ≤ l9 ∧ l9 < ly ∧ PTl f l9 x y) ra : Int))) ∧ jkM κ ad g' ly t9 tx s0 s1 rm (mk + 1000) f X9 pa sv ∧ frM g g')) 0 0 (gFree B) := by
  refine g_met RX8 (cc := cX8_at) (maxL := 2) (ret := (some .int)) (by decide) rfl rfl (Nat.le_of_ble_eq_true rfl) ?_
  intro p e s m args below meth c C hr hlk hnm G ls hl
  have hl : lv_has ls 2 [(0, .ref (ad 192)), (1, .int (iz ra))] := hl
  obtain ⟨hn6, hv0, hv25, hlay, hsee⟩ := id hok
  refine g_aload_n C dX8_at_0 rfl hl 0 rfl ?_
  refine g_iconst (a := 0) C dX8_at_1 rfl ?_
  refine g_put C G (pos := 192) (fs' := [.ref (ad 193), .int (iz ly), .int (iz 0), .ref (ad 194), .int (iz mk), .ref (ad 195), .int (iz tx), .ref (ad 196), .int (iz rl), .int (iz a0), .int (iz wr), .int (iz s0), .int (iz s1), .ref (ad 197), .int (iz rm), .ref (ad 198), .ref (ad 199)]) fwX8_at_31 (by omega) hM (Nat.le_of_ble_eq_true rfl) rfl rfl rfl dX8_at_2 (fun H locs G => ?_)
  obtain ⟨g_1, hg_2⟩ : ∃ g9, g9 = va_up g 192 (.inr (8, [.ref (ad 193), .int (iz ly), .int (iz 0), .ref (ad 194), .int (iz mk), .ref (ad 195), .int (iz tx), .ref (ad 196), .int (iz rl), .int (iz a0), .int (iz wr), .int (iz s0), .int (iz s1), .ref (ad 197), .int (iz rm), .ref (ad 198), .ref (ad 199)])) := ⟨_, rfl⟩
  rw [← hg_2] at G
  have hc_3 : g_1 192 = .inr (8, [.ref (ad 193), .int (iz ly), .int (iz 0), .ref (ad 194), .int (iz mk), .ref (ad 195), .int (iz tx), .ref (ad 196), .int (iz rl), .int (iz a0), .int (iz wr), .int (iz s0), .int (iz s1), .ref (ad 197), .int (iz rm), .ref (ad 198), .ref (ad 199)]) := by rw [hg_2]; exact gu_self _ _ _
  have hc_4 : g_1 193 = aI κ 42 f := by rw [hg_2, gu_ne (by decide)]; exact hN
  have hc_5 : g_1 194 = aI κ 28896 M9 := by rw [hg_2, gu_ne (by decide)]; exact hK
  have hc_6 : g_1 195 = aI κ 100 X9 := by rw [hg_2, gu_ne (by decide)]; exact hT
  have hc_7 : g_1 196 = aI κ 42 q9 := by rw [hg_2, gu_ne (by decide)]; exact hRd
  have hc_8 : g_1 197 = aI κ 602 pa := by rw [hg_2, gu_ne (by decide)]; exact hPa
  have hc_9 : g_1 198 = aI κ 43 be := by rw [hg_2, gu_ne (by decide)]; exact hBe
  have hc_10 : g_1 199 = aI κ 86 sv := by rw [hg_2, gu_ne (by decide)]; exact hSv
  refine g_iload_n C dX8_at_5 rfl hl 1 rfl ?_
  refine g_i2l C (by omega) dX8_at_6 ?_
  refine g_lconst (a := 0) C dX8_at_7 (by decide) ?_
  refine g_ldc2 (a := 300) C (by decide +kernel) dX8_at_8 ?_
  refine g_ci C G (g_runS (As := [.long (jz ra), .long (jz 0), .long (jz 300)]) (rest := []) C G (c_X8_in l κ B n ad g_1 ra 0 300 (by omega) (by omega) (by omega)) (va_cwS 3 C.1.2.2.2.2 gX8_at_X8_in rfl rfl rfl (by decide +kernel) ⟨Nat.le_of_ble_eq_true rfl, Nat.le_of_ble_eq_true rfl⟩) rfl hl rfl (Nat.le_of_ble_eq_true rfl) dX8_at_11 ⟨Nat.le_of_ble_eq_true rfl, Nat.le_of_ble_eq_true rfl⟩) (fun z_12 g9 H locs hw G => ?_)
  obtain ⟨hg9, hw⟩ := hw
  replace hg9 := hg9.symm
  subst hg9
  rcases hw with ⟨b_11, rfl⟩ | ⟨b_11, rfl⟩
  · refine g_if_ne (tgt := 23) C (by decide) dX8_at_14 (by decide) (fun _ => ?_) (fun c9 => absurd c9 (by decide))
    refine g_aload_n C dX8_at_23 rfl hl 0 rfl ?_
    refine g_ci C G (g_runV (As := []) (rest := []) (pos := 192) C G (c_X8_markAll l κ B n ad g_1 ly 0 mk tx rl a0 wr s0 s1 rm f M9 hn8 hc_3 hc_4 hc_5 hok (by omega) hMr) (cwV 0 C.1.2.2.2.2 gX8_at_X8_markAll rfl rfl rfl (by decide +kernel) ⟨Nat.le_of_ble_eq_true rfl, Nat.le_of_ble_eq_true rfl⟩) (by omega) hc_3 (T := TX8) (N := 17) rfl rfl hl rfl (Nat.le_of_ble_eq_true rfl) dX8_at_24 ⟨Nat.le_of_ble_eq_true rfl, Nat.le_of_ble_eq_true rfl⟩) (fun z_15 g_18 H locs hw9 G => ?_)
    obtain ⟨V_13, hgs_17, hS_14, h_16⟩ := hw9
    have hc_19 : g_18 192 = .inr (8, [.ref (ad 193), .int (iz ly), .int (iz 0), .ref (ad 194), .int (iz (mk + 1)), .ref (ad 195), .int (iz tx), .ref (ad 196), .int (iz rl), .int (iz a0), .int (iz wr), .int (iz s0), .int (iz s1), .ref (ad 197), .int (iz rm), .ref (ad 198), .ref (ad 199)]) := by rw [hgs_17, gu_ne (by decide)]; exact gu_self _ _ _
    have hc_20 : g_18 193 = aI κ 42 f := by rw [hgs_17, gu_ne (by decide), gu_ne (by decide)]; exact hc_4
    have hc_21 : g_18 194 = aI κ 28896 V_13 := by rw [hgs_17]; exact gu_self _ _ _
    have hc_22 : g_18 195 = aI κ 100 X9 := by rw [hgs_17, gu_ne (by decide), gu_ne (by decide)]; exact hc_6
    have hc_23 : g_18 196 = aI κ 42 q9 := by rw [hgs_17, gu_ne (by decide), gu_ne (by decide)]; exact hc_7
    have hc_24 : g_18 197 = aI κ 602 pa := by rw [hgs_17, gu_ne (by decide), gu_ne (by decide)]; exact hc_8
    have hc_25 : g_18 198 = aI κ 43 be := by rw [hgs_17, gu_ne (by decide), gu_ne (by decide)]; exact hc_9
    have hc_26 : g_18 199 = aI κ 86 sv := by rw [hgs_17, gu_ne (by decide), gu_ne (by decide)]; exact hc_10
    refine lv_pop C.1.1 C.1.2.1 dX8_at_27 rfl ?_
    refine g_aload_n C dX8_at_28 rfl hl 0 rfl ?_
    refine g_iload_n C dX8_at_29 rfl hl 1 rfl ?_
    refine g_ci C G (g_runV (As := [.int (iz ra)]) (rest := []) (pos := 192) C G (c_X8_markedAt l κ B n ad g_18 ly 0 (mk + 1) tx rl a0 wr s0 s1 rm f V_13 ra (fun x y => ∃ l9, 0 ≤ l9 ∧ l9 < ly ∧ PTl f l9 x y) hn8 hc_19 hc_20 hc_21 hok (by omega) hS_14 (by omega) (fun x y ⟨l9, _, _, q⟩ => q.lt hv0)) (cwV 1 C.1.2.2.2.2 gX8_at_X8_markedAt rfl rfl rfl (by decide +kernel) ⟨Nat.le_of_ble_eq_true rfl, Nat.le_of_ble_eq_true rfl⟩) (by omega) hc_19 (T := TX8) (N := 17) rfl rfl hl rfl (Nat.le_of_ble_eq_true rfl) dX8_at_30 ⟨Nat.le_of_ble_eq_true rfl, Nat.le_of_ble_eq_true rfl⟩) (fun z_27 g9 H locs hw G => ?_)
    obtain ⟨hg9, h_28⟩ := hw
    replace hg9 := hg9.symm
    subst hg9
    refine g_iret C G hr hlk (Nat.le_of_ble_eq_true rfl) (Nat.le_of_ble_eq_true rfl) dX8_at_33 ?_
    exact ⟨0, Or.inr ⟨rfl, by omega, h_28.1⟩, ⟨_, _, _, _, _, _, _, hc_19, hc_20, hc_21, hc_22, hc_23, hc_24, hc_25, hc_26, by omega, hS_14.1, hinq⟩, fun q hq => (((congrFun hgs_17 q).trans ((gu_ne (by omega)).trans (gu_ne (by omega)))).trans ((congrFun hg_2 q).trans (gu_ne (by omega))))⟩
  · refine g_if_ne (tgt := 23) C (by decide) dX8_at_14 (by decide) (fun c9 => absurd c9 (by decide)) (fun _ => ?_)
    refine g_aload_n C dX8_at_17 rfl hl 0 rfl ?_
    refine g_iconst (a := 1) C dX8_at_18 rfl ?_
    refine g_ci C G (g_runV (As := [.int (iz 1)]) (rest := []) (pos := 192) C G (c_X8_refused l κ B n ad g_1 ly 0 mk tx rl a0 wr s0 s1 rm 1 hn8 hc_3) (cwV 1 C.1.2.2.2.2 gX8_at_X8_refused rfl rfl rfl (by decide +kernel) ⟨Nat.le_of_ble_eq_true rfl, Nat.le_of_ble_eq_true rfl⟩) (by omega) hc_3 (T := TX8) (N := 17) rfl rfl hl rfl (Nat.le_of_ble_eq_true rfl) dX8_at_19 ⟨Nat.le_of_ble_eq_true rfl, Nat.le_of_ble_eq_true rfl⟩) (fun z_29 g9 H locs hw G => ?_)
    obtain ⟨hw, h_30⟩ := hw
    subst hw
    obtain ⟨g_31, hg_32⟩ : ∃ g9, g9 = va_up g_1 192 (.inr (8, [.ref (ad 193), .int (iz ly), .int (iz 1), .ref (ad 194), .int (iz mk), .ref (ad 195), .int (iz tx), .ref (ad 196), .int (iz rl), .int (iz a0), .int (iz wr), .int (iz s0), .int (iz s1), .ref (ad 197), .int (iz rm), .ref (ad 198), .ref (ad 199)])) := ⟨_, rfl⟩
    rw [← hg_32] at G
    have hc_33 : g_31 192 = .inr (8, [.ref (ad 193), .int (iz ly), .int (iz 1), .ref (ad 194), .int (iz mk), .ref (ad 195), .int (iz tx), .ref (ad 196), .int (iz rl), .int (iz a0), .int (iz wr), .int (iz s0), .int (iz s1), .ref (ad 197), .int (iz rm), .ref (ad 198), .ref (ad 199)]) := by rw [hg_32]; exact gu_self _ _ _
    have hc_34 : g_31 193 = aI κ 42 f := by rw [hg_32, gu_ne (by decide)]; exact hc_4
    have hc_35 : g_31 194 = aI κ 28896 M9 := by rw [hg_32, gu_ne (by decide)]; exact hc_5
    have hc_36 : g_31 195 = aI κ 100 X9 := by rw [hg_32, gu_ne (by decide)]; exact hc_6
    have hc_37 : g_31 196 = aI κ 42 q9 := by rw [hg_32, gu_ne (by decide)]; exact hc_7
    have hc_38 : g_31 197 = aI κ 602 pa := by rw [hg_32, gu_ne (by decide)]; exact hc_8
    have hc_39 : g_31 198 = aI κ 43 be := by rw [hg_32, gu_ne (by decide)]; exact hc_9
    have hc_40 : g_31 199 = aI κ 86 sv := by rw [hg_32, gu_ne (by decide)]; exact hc_10
    refine g_iret C G hr hlk (Nat.le_of_ble_eq_true rfl) (Nat.le_of_ble_eq_true rfl) dX8_at_22 ?_
    exact ⟨1, Or.inl ⟨rfl, by omega⟩, ⟨_, _, _, _, _, _, _, hc_33, hc_34, hc_35, hc_36, hc_37, hc_38, hc_39, hc_40, by omega, hMr, hinq⟩, fun q hq => (((congrFun hg_32 q).trans (gu_ne (by omega))).trans ((congrFun hg_2 q).trans (gu_ne (by omega))))⟩
