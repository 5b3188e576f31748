/-! ROSETTEPLATEMODEL (X8): a part of the text -/
theorem fX8_part_16 : gFld wsX8_part RX8 16 8 5 := ⟨RX8, TX8, 17, rfl, by decide, by decide +kernel, by decide +kernel⟩
theorem fX8_part_93 : gFld wsX8_part RX8 93 8 9 := ⟨RX8, TX8, 17, rfl, by decide, by decide +kernel, by decide +kernel⟩
theorem fX8_part_98 : gFld wsX8_part RX8 98 8 8 := ⟨RX8, TX8, 17, rfl, by decide, by decide +kernel, by decide +kernel⟩
theorem fwX8_part_89 : gFldW wsX8_part RX8 89 8 10 .boolean false := ⟨RX8, TX8, 17, tyX8, rfl, by decide, by decide +kernel, by decide +kernel, tyX8_ok, nmX8, rfl, by decide +kernel, by decide +kernel⟩
theorem fwX8_part_93 : gFldW wsX8_part RX8 93 8 9 .int false := ⟨RX8, TX8, 17, tyX8, rfl, by decide, by decide +kernel, by decide +kernel, tyX8_ok, nmX8, rfl, by decide +kernel, by decide +kernel⟩
theorem fX8_part_19 : gFld wsX8_part RX8 19 8 7 := ⟨RX8, TX8, 17, rfl, by decide, by decide +kernel, by decide +kernel⟩
theorem fwX8_part_98 : gFldW wsX8_part RX8 98 8 8 .int false := ⟨RX8, TX8, 17, tyX8, rfl, by decide, by decide +kernel, by decide +kernel, tyX8_ok, nmX8, rfl, by decide +kernel, by decide +kernel⟩
set_option maxHeartbeats 4000000 in
set_option maxRecDepth 100000 in
theorem c_X8_part (l : Launch) (κ : gKap) (B n : Nat) (ad : Nat → Nat) (g : Nat → va_E) (ly : Int) (th : Int) (mk : Int) (tx : Int) (rl : Int) (a0 : Int) (wr : Int) (s0 : Int) (s1 : Int) (rm : Int) (X9 : Int → Int) (q9 : Int → Int) (hn8 : 200 ≤ n) (hM : g 192 = oM ad ly th mk tx rl a0 wr s0 s1 rm) (hT : g 195 = aI κ 100 X9) (hRd : g 196 = aI κ 42 q9) (hwr : wr = 0) (hokR : okR rl q9) (htx : 0 ≤ tx ∧ tx ≤ 100) (ha0 : 0 ≤ a0 ∧ a0 < tx) (hTx : ∀ i, 0 ≤ i → i < 100 → 0 ≤ X9 i ∧ X9 i ≤ 255) : Met l yX8_part wsX8_part ({ frames := 2, cells := 0, slots := 0, locals := 53 }) (gPre κ B n ad g [.ref (ad 192)]) (gQv κ B n ad (fun g' => ((rpS X9 tx a0 rl q9).1 = true ∧ g' 192 = oM ad ly th mk tx ((rpS X9 tx a0 rl q9).2.2.1) ((rpS X9 tx a0 rl q9).2.1) 0 s0 s1 rm ∧ g' 196 = aI κ 42 (rpS X9 tx a0 rl q9).2.2.2 ∧ ∀ x, x ≠ 192 → x ≠ 196 → g' x = g x) ∨ ((rpS X9 tx a0 rl q9).1 = false ∧ ∃ l9 q8, g' 192 = oM ad ly th mk tx l9 ((rpS X9 tx a0 rl q9).2.1) 1 s0 s1 rm ∧ g' 196 = aI κ 42 q8 ∧ inV q8 ∧ ∀ x, x ≠ 192 → x ≠ 196 → g' x = g x))) 0 0 (gFree B) := by
  refine g_met RX8 (cc := cX8_part) (maxL := 3) (ret := none) (by decide) rfl rfl (Nat.le_of_ble_eq_true rfl) ?_
  intro p e s m args below meth c C hr hlk hnm G ls hl
  have hl : lv_has ls 3 [(0, .ref (ad 192))] := hl
  subst hwr
  obtain ⟨hn6, hv0, hv25, hlay, hsee⟩ := id hokR.1
  refine g_aload_n C dX8_part_0 rfl hl 0 rfl ?_
  refine g_get C G (pos := 192) fX8_part_16 (by omega) hM rfl dX8_part_1 ?_
  refine g_aload_n C dX8_part_4 rfl hl 0 rfl ?_
  refine g_get C G (pos := 192) fX8_part_93 (by omega) hM rfl dX8_part_5 ?_
  have hx9 := hTx a0 (by omega) (by omega)
  refine g_iaload C G (pos := 195) (by omega) hT (by omega) (by omega) (by omega) dX8_part_8 ?_
  refine lv_istore_n (lv' := [(1, .int (iz (X9 a0))), (0, .ref (ad 192))]) C.1.1 C.1.2.1 dX8_part_9 rfl hl (by decide) rfl (fun ls hl => ?_)
  refine g_iload_n C dX8_part_10 rfl hl 0 rfl ?_
  refine g_bipush (a := 105) C dX8_part_11 (by decide) ?_
  refine g_icmp_eq (tgt := 22) C (by omega) (by decide) dX8_part_13 (by decide) (fun c_1 => ?_) (fun c_1 => ?_)
  · refine g_aload_n C dX8_part_22 rfl hl 1 rfl ?_
    refine g_get C G (pos := 192) fX8_part_98 (by omega) hM rfl dX8_part_23 ?_
    refine g_bipush (a := 6) C dX8_part_26 (by decide) ?_
    refine g_icmp_ge (tgt := 134) C (by omega) (by decide) dX8_part_28 (by decide) (fun c_2 => ?_) (fun c_2 => ?_)
    · refine g_iload_n C dX8_part_134 rfl hl 0 rfl ?_
      refine g_bipush (a := 115) C dX8_part_135 (by decide) ?_
      refine g_icmp_ne (tgt := 226) C (by omega) (by decide) dX8_part_137 (by decide) (fun c_3 => ?_) (fun c_3 => absurd c_3 (by omega))
      refine g_aload_n C dX8_part_226 rfl hl 1 rfl ?_
      refine g_iconst (a := 1) C dX8_part_227 rfl ?_
      refine g_put C G (pos := 192) (fs' := [.ref (ad 193), .int (iz ly), .int (iz th), .ref (ad 194), .int (iz mk), .ref (ad 195), .int (iz tx), .ref (ad 196), .int (iz rl), .int (iz a0), .int (iz 1), .int (iz s0), .int (iz s1), .ref (ad 197), .int (iz rm), .ref (ad 198), .ref (ad 199)]) fwX8_part_89 (by omega) hM (Nat.le_of_ble_eq_true rfl) rfl (gnar_z (by decide)) rfl dX8_part_228 (fun H locs G => ?_)
      obtain ⟨g_4, hg_5⟩ : ∃ g9, g9 = va_up g 192 (.inr (8, [.ref (ad 193), .int (iz ly), .int (iz th), .ref (ad 194), .int (iz mk), .ref (ad 195), .int (iz tx), .ref (ad 196), .int (iz rl), .int (iz a0), .int (iz 1), .int (iz s0), .int (iz s1), .ref (ad 197), .int (iz rm), .ref (ad 198), .ref (ad 199)])) := ⟨_, rfl⟩
      rw [← hg_5] at G
      have hc_6 : g_4 192 = .inr (8, [.ref (ad 193), .int (iz ly), .int (iz th), .ref (ad 194), .int (iz mk), .ref (ad 195), .int (iz tx), .ref (ad 196), .int (iz rl), .int (iz a0), .int (iz 1), .int (iz s0), .int (iz s1), .ref (ad 197), .int (iz rm), .ref (ad 198), .ref (ad 199)]) := by rw [hg_5]; exact gu_self _ _ _
      have hc_7 : g_4 195 = aI κ 100 X9 := by rw [hg_5, gu_ne (by decide)]; exact hT
      have hc_8 : g_4 196 = aI κ 42 q9 := by rw [hg_5, gu_ne (by decide)]; exact hRd
      refine g_vret C G hr hlk (Nat.le_of_ble_eq_true rfl) (Nat.le_of_ble_eq_true rfl) dX8_part_231 ?_
      have hF : rpS X9 tx a0 rl q9 = (false, a0, rl, q9) := by
        unfold rpS
        repeat' split
        all_goals first | rfl | (exfalso; omega)
      rw [hF]
      exact Or.inr ⟨rfl, _, _, hc_6, hc_8, hokR.2, fun x x1 x2 => by rw [hg_5, gu_ne (by omega)]⟩
    · refine g_aload_n C dX8_part_31 rfl hl 1 rfl ?_
      refine lv_dup C.1.1 C.1.2.1 dX8_part_32 rfl ?_
      refine g_get C G (pos := 192) fX8_part_93 (by omega) hM rfl dX8_part_33 ?_
      refine g_iconst (a := 1) C dX8_part_36 rfl ?_
      refine g_iadd C dX8_part_37 ?_
      refine g_put C G (pos := 192) (fs' := [.ref (ad 193), .int (iz ly), .int (iz th), .ref (ad 194), .int (iz mk), .ref (ad 195), .int (iz tx), .ref (ad 196), .int (iz rl), .int (iz (a0 + 1)), .int (iz 0), .int (iz s0), .int (iz s1), .ref (ad 197), .int (iz rm), .ref (ad 198), .ref (ad 199)]) fwX8_part_93 (by omega) hM (Nat.le_of_ble_eq_true rfl) rfl rfl rfl dX8_part_38 (fun H locs G => ?_)
      obtain ⟨g_9, hg_10⟩ : ∃ g9, g9 = va_up g 192 (.inr (8, [.ref (ad 193), .int (iz ly), .int (iz th), .ref (ad 194), .int (iz mk), .ref (ad 195), .int (iz tx), .ref (ad 196), .int (iz rl), .int (iz (a0 + 1)), .int (iz 0), .int (iz s0), .int (iz s1), .ref (ad 197), .int (iz rm), .ref (ad 198), .ref (ad 199)])) := ⟨_, rfl⟩
      rw [← hg_10] at G
      have hc_11 : g_9 192 = .inr (8, [.ref (ad 193), .int (iz ly), .int (iz th), .ref (ad 194), .int (iz mk), .ref (ad 195), .int (iz tx), .ref (ad 196), .int (iz rl), .int (iz (a0 + 1)), .int (iz 0), .int (iz s0), .int (iz s1), .ref (ad 197), .int (iz rm), .ref (ad 198), .ref (ad 199)]) := by rw [hg_10]; exact gu_self _ _ _
      have hc_12 : g_9 195 = aI κ 100 X9 := by rw [hg_10, gu_ne (by decide)]; exact hT
      have hc_13 : g_9 196 = aI κ 42 q9 := by rw [hg_10, gu_ne (by decide)]; exact hRd
      refine g_iconst (a := 4) C dX8_part_41 rfl ?_
      refine g_aload_n C dX8_part_42 rfl hl 1 rfl ?_
      refine g_get C G (pos := 192) fX8_part_98 (by omega) hc_11 rfl dX8_part_43 ?_
      refine g_imul C dX8_part_46 ?_
      refine lv_istore_n (lv' := [(2, .int (iz (4 * rl))), (1, .int (iz (X9 a0))), (0, .ref (ad 192))]) C.1.1 C.1.2.1 dX8_part_47 rfl hl (by decide) rfl (fun ls hl => ?_)
      refine g_aload_n C dX8_part_48 rfl hl 2 rfl ?_
      refine g_get C G (pos := 192) fX8_part_19 (by omega) hc_11 rfl dX8_part_49 ?_
      refine g_iload_n C dX8_part_52 rfl hl 0 rfl ?_
      refine g_iconst (a := 1) C dX8_part_53 rfl ?_
      refine g_iadd C dX8_part_54 ?_
      refine g_aload_n C dX8_part_55 rfl hl 2 rfl ?_
      refine g_iconst (a := 2) C dX8_part_56 rfl ?_
      refine g_iconst (a := 5) C dX8_part_57 rfl ?_
      refine g_bipush (a := 60) C dX8_part_58 (by decide) ?_
      refine g_ci C G (g_runV (As := [.int (iz 2), .int (iz 5), .int (iz 60)]) (rest := [.int (iz ((4 * rl) + 1)), .ref (ad 196)]) (pos := 192) C G (c_X8_number l κ B n ad g_9 ly th mk tx rl (a0 + 1) 0 s0 s1 rm X9 2 5 60 hn8 hc_11 hc_12 rfl (by omega) (by omega) htx (by omega) hTx) (cwV 3 C.1.2.2.2.2 gX8_part_X8_number rfl rfl rfl (by decide +kernel) ⟨Nat.le_of_ble_eq_true rfl, Nat.le_of_ble_eq_true rfl⟩) (by omega) hc_11 (T := TX8) (N := 17) rfl rfl hl rfl (Nat.le_of_ble_eq_true rfl) dX8_part_60 ⟨Nat.le_of_ble_eq_true rfl, Nat.le_of_ble_eq_true rfl⟩) (fun z_14 g9 H locs hw9 G => ?_)
      have hr_18 := rd_range (T9 := X9) (L9 := tx) (lo := 5) (hi := 60) (dg := 2) (q := a0 + 1) (by omega) (by omega) (by omega)
      obtain ⟨r_16, p_17, e_15⟩ : ∃ r9 p9, rd X9 tx 5 60 2 (a0 + 1) = (r9, p9) := ⟨_, _, rfl⟩
      rw [e_15] at hw9 hr_18
      dsimp only at hw9 hr_18
      rcases hw9 with hw9 | hw9
      · obtain ⟨hq_19, hw, hq_19z⟩ := hw9
        subst hw
        obtain ⟨g_20, hg_21⟩ : ∃ g9, g9 = va_up g_9 192 (.inr (8, [.ref (ad 193), .int (iz ly), .int (iz th), .ref (ad 194), .int (iz mk), .ref (ad 195), .int (iz tx), .ref (ad 196), .int (iz rl), .int (iz p_17), .int (iz 1), .int (iz s0), .int (iz s1), .ref (ad 197), .int (iz rm), .ref (ad 198), .ref (ad 199)])) := ⟨_, rfl⟩
        rw [← hg_21] at G
        have hc_22 : g_20 192 = .inr (8, [.ref (ad 193), .int (iz ly), .int (iz th), .ref (ad 194), .int (iz mk), .ref (ad 195), .int (iz tx), .ref (ad 196), .int (iz rl), .int (iz p_17), .int (iz 1), .int (iz s0), .int (iz s1), .ref (ad 197), .int (iz rm), .ref (ad 198), .ref (ad 199)]) := by rw [hg_21]; exact gu_self _ _ _
        have hc_23 : g_20 195 = aI κ 100 X9 := by rw [hg_21, gu_ne (by decide)]; exact hc_12
        have hc_24 : g_20 196 = aI κ 42 q9 := by rw [hg_21, gu_ne (by decide)]; exact hc_13
        refine g_iastore C G (pos := 196) (by omega) hc_24 (by omega) (by omega) (by omega) dX8_part_63 (fun H locs G => ?_)
        obtain ⟨g_25, hg_26⟩ : ∃ g9, g9 = va_up g_20 196 (aI κ 42 (vu q9 ((4 * rl) + 1) z_14)) := ⟨_, rfl⟩
        rw [← hg_26] at G
        have hc_27 : g_25 192 = .inr (8, [.ref (ad 193), .int (iz ly), .int (iz th), .ref (ad 194), .int (iz mk), .ref (ad 195), .int (iz tx), .ref (ad 196), .int (iz rl), .int (iz p_17), .int (iz 1), .int (iz s0), .int (iz s1), .ref (ad 197), .int (iz rm), .ref (ad 198), .ref (ad 199)]) := by rw [hg_26, gu_ne (by decide)]; exact hc_22
        have hc_28 : g_25 195 = aI κ 100 X9 := by rw [hg_26, gu_ne (by decide)]; exact hc_23
        have hc_29 : g_25 196 = aI κ 42 (vu q9 ((4 * rl) + 1) z_14) := by rw [hg_26]; exact gu_self _ _ _
        refine g_aload_n C dX8_part_64 rfl hl 2 rfl ?_
        refine g_get C G (pos := 192) fX8_part_19 (by omega) hc_27 rfl dX8_part_65 ?_
        refine g_iload_n C dX8_part_68 rfl hl 0 rfl ?_
        refine g_iconst (a := 2) C dX8_part_69 rfl ?_
        refine g_iadd C dX8_part_70 ?_
        refine g_iload_n C dX8_part_71 rfl hl 1 rfl ?_
        refine g_bipush (a := 105) C dX8_part_72 (by decide) ?_
        refine g_icmp_ne (tgt := 81) C (by omega) (by decide) dX8_part_74 (by decide) (fun c_30 => absurd c_30 (by omega)) (fun c_30 => ?_)
        refine g_iconst (a := 0) C dX8_part_77 rfl ?_
        refine g_goto (tgt := 82) C dX8_part_78 (by decide) ?_
        refine g_iastore C G (pos := 196) (by omega) hc_29 (by omega) (by omega) (by omega) dX8_part_82 (fun H locs G => ?_)
        obtain ⟨g_31, hg_32⟩ : ∃ g9, g9 = va_up g_25 196 (aI κ 42 (vu (vu q9 ((4 * rl) + 1) z_14) ((4 * rl) + 2) 0)) := ⟨_, rfl⟩
        rw [← hg_32] at G
        have hc_33 : g_31 192 = .inr (8, [.ref (ad 193), .int (iz ly), .int (iz th), .ref (ad 194), .int (iz mk), .ref (ad 195), .int (iz tx), .ref (ad 196), .int (iz rl), .int (iz p_17), .int (iz 1), .int (iz s0), .int (iz s1), .ref (ad 197), .int (iz rm), .ref (ad 198), .ref (ad 199)]) := by rw [hg_32, gu_ne (by decide)]; exact hc_27
        have hc_34 : g_31 195 = aI κ 100 X9 := by rw [hg_32, gu_ne (by decide)]; exact hc_28
        have hc_35 : g_31 196 = aI κ 42 (vu (vu q9 ((4 * rl) + 1) z_14) ((4 * rl) + 2) 0) := by rw [hg_32]; exact gu_self _ _ _
        refine g_aload_n C dX8_part_83 rfl hl 2 rfl ?_
        refine g_get C G (pos := 192) fX8_part_19 (by omega) hc_33 rfl dX8_part_84 ?_
        refine g_iload_n C dX8_part_87 rfl hl 0 rfl ?_
        refine g_iconst (a := 3) C dX8_part_88 rfl ?_
        refine g_iadd C dX8_part_89 ?_
        refine g_aload_n C dX8_part_90 rfl hl 2 rfl ?_
        refine g_iconst (a := 2) C dX8_part_91 rfl ?_
        refine g_iconst (a := 0) C dX8_part_92 rfl ?_
        refine g_bipush (a := 20) C dX8_part_93 (by decide) ?_
        refine g_ci C G (g_runV (As := [.int (iz 2), .int (iz 0), .int (iz 20)]) (rest := [.int (iz ((4 * rl) + 3)), .ref (ad 196)]) (pos := 192) C G (c_X8_number1 l κ B n ad g_31 ly th mk tx rl p_17 1 s0 s1 rm 2 0 20 hn8 hc_33 rfl (by omega)) (cwV 3 C.1.2.2.2.2 gX8_part_X8_number rfl rfl rfl (by decide +kernel) ⟨Nat.le_of_ble_eq_true rfl, Nat.le_of_ble_eq_true rfl⟩) (by omega) hc_33 (T := TX8) (N := 17) rfl rfl hl rfl (Nat.le_of_ble_eq_true rfl) dX8_part_95 ⟨Nat.le_of_ble_eq_true rfl, Nat.le_of_ble_eq_true rfl⟩) (fun z_36 g9 H locs hw G => ?_)
        obtain ⟨hg9, h_37⟩ := hw
        replace hg9 := hg9.symm
        subst hg9
        refine g_iastore C G (pos := 196) (by omega) hc_35 (by omega) (by omega) (by omega) dX8_part_98 (fun H locs G => ?_)
        obtain ⟨g_38, hg_39⟩ : ∃ g9, g9 = va_up g_31 196 (aI κ 42 (vu (vu (vu q9 ((4 * rl) + 1) z_14) ((4 * rl) + 2) 0) ((4 * rl) + 3) z_36)) := ⟨_, rfl⟩
        rw [← hg_39] at G
        have hc_40 : g_38 192 = .inr (8, [.ref (ad 193), .int (iz ly), .int (iz th), .ref (ad 194), .int (iz mk), .ref (ad 195), .int (iz tx), .ref (ad 196), .int (iz rl), .int (iz p_17), .int (iz 1), .int (iz s0), .int (iz s1), .ref (ad 197), .int (iz rm), .ref (ad 198), .ref (ad 199)]) := by rw [hg_39, gu_ne (by decide)]; exact hc_33
        have hc_41 : g_38 195 = aI κ 100 X9 := by rw [hg_39, gu_ne (by decide)]; exact hc_34
        have hc_42 : g_38 196 = aI κ 42 (vu (vu (vu q9 ((4 * rl) + 1) z_14) ((4 * rl) + 2) 0) ((4 * rl) + 3) z_36) := by rw [hg_39]; exact gu_self _ _ _
        refine g_aload_n C dX8_part_99 rfl hl 2 rfl ?_
        refine g_get C G (pos := 192) fX8_part_19 (by omega) hc_40 rfl dX8_part_100 ?_
        refine g_iload_n C dX8_part_103 rfl hl 0 rfl ?_
        refine g_iconst (a := 4) C dX8_part_104 rfl ?_
        refine g_iadd C dX8_part_105 ?_
        refine g_aload_n C dX8_part_106 rfl hl 2 rfl ?_
        refine g_iconst (a := 2) C dX8_part_107 rfl ?_
        refine g_iconst (a := 0) C dX8_part_108 rfl ?_
        refine g_aload_n C dX8_part_109 rfl hl 2 rfl ?_
        refine g_get C G (pos := 192) fX8_part_19 (by omega) hc_40 rfl dX8_part_110 ?_
        refine g_iconst (a := 0) C dX8_part_113 rfl ?_
        refine g_iaload C G (pos := 196) (by omega) hc_42 (by omega) (by omega) (by omega) dX8_part_114 ?_
        rw [show ((vu (vu (vu q9 ((4 * rl) + 1) z_14) ((4 * rl) + 2) 0) ((4 * rl) + 3) z_36) 0 : Int) = q9 0 from (by simp only [vu]; repeat rw [if_neg (by omega)])]
        refine g_iconst (a := 1) C dX8_part_115 rfl ?_
        refine g_isub C dX8_part_116 ?_
        refine g_ci C G (g_runV (As := [.int (iz 2), .int (iz 0), .int (iz ((q9 0) - 1))]) (rest := [.int (iz ((4 * rl) + 4)), .ref (ad 196)]) (pos := 192) C G (c_X8_number1 l κ B n ad g_38 ly th mk tx rl p_17 1 s0 s1 rm 2 0 ((q9 0) - 1) hn8 hc_40 rfl (by omega)) (cwV 3 C.1.2.2.2.2 gX8_part_X8_number rfl rfl rfl (by decide +kernel) ⟨Nat.le_of_ble_eq_true rfl, Nat.le_of_ble_eq_true rfl⟩) (by omega) hc_40 (T := TX8) (N := 17) rfl rfl hl rfl (Nat.le_of_ble_eq_true rfl) dX8_part_117 ⟨Nat.le_of_ble_eq_true rfl, Nat.le_of_ble_eq_true rfl⟩) (fun z_43 g9 H locs hw G => ?_)
        obtain ⟨hg9, h_44⟩ := hw
        replace hg9 := hg9.symm
        subst hg9
        refine g_iastore C G (pos := 196) (by omega) hc_42 (by omega) (by omega) (by omega) dX8_part_120 (fun H locs G => ?_)
        obtain ⟨g_45, hg_46⟩ : ∃ g9, g9 = va_up g_38 196 (aI κ 42 (vu (vu (vu (vu q9 ((4 * rl) + 1) z_14) ((4 * rl) + 2) 0) ((4 * rl) + 3) z_36) ((4 * rl) + 4) z_43)) := ⟨_, rfl⟩
        rw [← hg_46] at G
        have hc_47 : g_45 192 = .inr (8, [.ref (ad 193), .int (iz ly), .int (iz th), .ref (ad 194), .int (iz mk), .ref (ad 195), .int (iz tx), .ref (ad 196), .int (iz rl), .int (iz p_17), .int (iz 1), .int (iz s0), .int (iz s1), .ref (ad 197), .int (iz rm), .ref (ad 198), .ref (ad 199)]) := by rw [hg_46, gu_ne (by decide)]; exact hc_40
        have hc_48 : g_45 195 = aI κ 100 X9 := by rw [hg_46, gu_ne (by decide)]; exact hc_41
        have hc_49 : g_45 196 = aI κ 42 (vu (vu (vu (vu q9 ((4 * rl) + 1) z_14) ((4 * rl) + 2) 0) ((4 * rl) + 3) z_36) ((4 * rl) + 4) z_43) := by rw [hg_46]; exact gu_self _ _ _
        refine g_aload_n C dX8_part_121 rfl hl 2 rfl ?_
        refine lv_dup C.1.1 C.1.2.1 dX8_part_122 rfl ?_
        refine g_get C G (pos := 192) fX8_part_98 (by omega) hc_47 rfl dX8_part_123 ?_
        refine g_iconst (a := 1) C dX8_part_126 rfl ?_
        refine g_iadd C dX8_part_127 ?_
        refine g_put C G (pos := 192) (fs' := [.ref (ad 193), .int (iz ly), .int (iz th), .ref (ad 194), .int (iz mk), .ref (ad 195), .int (iz tx), .ref (ad 196), .int (iz (rl + 1)), .int (iz p_17), .int (iz 1), .int (iz s0), .int (iz s1), .ref (ad 197), .int (iz rm), .ref (ad 198), .ref (ad 199)]) fwX8_part_98 (by omega) hc_47 (Nat.le_of_ble_eq_true rfl) rfl rfl rfl dX8_part_128 (fun H locs G => ?_)
        obtain ⟨g_50, hg_51⟩ : ∃ g9, g9 = va_up g_45 192 (.inr (8, [.ref (ad 193), .int (iz ly), .int (iz th), .ref (ad 194), .int (iz mk), .ref (ad 195), .int (iz tx), .ref (ad 196), .int (iz (rl + 1)), .int (iz p_17), .int (iz 1), .int (iz s0), .int (iz s1), .ref (ad 197), .int (iz rm), .ref (ad 198), .ref (ad 199)])) := ⟨_, rfl⟩
        rw [← hg_51] at G
        have hc_52 : g_50 192 = .inr (8, [.ref (ad 193), .int (iz ly), .int (iz th), .ref (ad 194), .int (iz mk), .ref (ad 195), .int (iz tx), .ref (ad 196), .int (iz (rl + 1)), .int (iz p_17), .int (iz 1), .int (iz s0), .int (iz s1), .ref (ad 197), .int (iz rm), .ref (ad 198), .ref (ad 199)]) := by rw [hg_51]; exact gu_self _ _ _
        have hc_53 : g_50 195 = aI κ 100 X9 := by rw [hg_51, gu_ne (by decide)]; exact hc_48
        have hc_54 : g_50 196 = aI κ 42 (vu (vu (vu (vu q9 ((4 * rl) + 1) z_14) ((4 * rl) + 2) 0) ((4 * rl) + 3) z_36) ((4 * rl) + 4) z_43) := by rw [hg_51, gu_ne (by decide)]; exact hc_49
        refine g_goto (tgt := 231) C dX8_part_131 (by decide) ?_
        refine g_vret C G hr hlk (Nat.le_of_ble_eq_true rfl) (Nat.le_of_ble_eq_true rfl) dX8_part_231 ?_
        have hF : rpS X9 tx a0 rl q9 = (false, p_17, rl, q9) := by
          unfold rpS
          rw [if_pos (by omega), if_neg (by omega)]
          unfold rlS
          simp only [e_15]
          rw [if_pos (by omega)]
        rw [hF]
        exact Or.inr ⟨rfl, _, _, hc_52, hc_54, ((((hokR.2.vu (by omega)).vu (by omega)).vu (by omega)).vu (by omega)), fun x x1 x2 => by rw [hg_51, gu_ne (by omega), hg_46, gu_ne (by omega), hg_39, gu_ne (by omega), hg_32, gu_ne (by omega), hg_26, gu_ne (by omega), hg_21, gu_ne (by omega), hg_10, gu_ne (by omega)]⟩
      · obtain ⟨hq_55, hw, hq_55z⟩ := hw9
        subst hw
        subst hq_55z
        obtain ⟨g_56, hg_57⟩ : ∃ g9, g9 = va_up g_9 192 (.inr (8, [.ref (ad 193), .int (iz ly), .int (iz th), .ref (ad 194), .int (iz mk), .ref (ad 195), .int (iz tx), .ref (ad 196), .int (iz rl), .int (iz p_17), .int (iz 0), .int (iz s0), .int (iz s1), .ref (ad 197), .int (iz rm), .ref (ad 198), .ref (ad 199)])) := ⟨_, rfl⟩
        rw [← hg_57] at G
        have hc_58 : g_56 192 = .inr (8, [.ref (ad 193), .int (iz ly), .int (iz th), .ref (ad 194), .int (iz mk), .ref (ad 195), .int (iz tx), .ref (ad 196), .int (iz rl), .int (iz p_17), .int (iz 0), .int (iz s0), .int (iz s1), .ref (ad 197), .int (iz rm), .ref (ad 198), .ref (ad 199)]) := by rw [hg_57]; exact gu_self _ _ _
        have hc_59 : g_56 195 = aI κ 100 X9 := by rw [hg_57, gu_ne (by decide)]; exact hc_12
        have hc_60 : g_56 196 = aI κ 42 q9 := by rw [hg_57, gu_ne (by decide)]; exact hc_13
        refine g_iastore C G (pos := 196) (by omega) hc_60 (by omega) (by omega) (by omega) dX8_part_63 (fun H locs G => ?_)
        obtain ⟨g_61, hg_62⟩ : ∃ g9, g9 = va_up g_56 196 (aI κ 42 (vu q9 ((4 * rl) + 1) z_14)) := ⟨_, rfl⟩
        rw [← hg_62] at G
        have hc_63 : g_61 192 = .inr (8, [.ref (ad 193), .int (iz ly), .int (iz th), .ref (ad 194), .int (iz mk), .ref (ad 195), .int (iz tx), .ref (ad 196), .int (iz rl), .int (iz p_17), .int (iz 0), .int (iz s0), .int (iz s1), .ref (ad 197), .int (iz rm), .ref (ad 198), .ref (ad 199)]) := by rw [hg_62, gu_ne (by decide)]; exact hc_58
        have hc_64 : g_61 195 = aI κ 100 X9 := by rw [hg_62, gu_ne (by decide)]; exact hc_59
        have hc_65 : g_61 196 = aI κ 42 (vu q9 ((4 * rl) + 1) z_14) := by rw [hg_62]; exact gu_self _ _ _
        refine g_aload_n C dX8_part_64 rfl hl 2 rfl ?_
        refine g_get C G (pos := 192) fX8_part_19 (by omega) hc_63 rfl dX8_part_65 ?_
        refine g_iload_n C dX8_part_68 rfl hl 0 rfl ?_
        refine g_iconst (a := 2) C dX8_part_69 rfl ?_
        refine g_iadd C dX8_part_70 ?_
        refine g_iload_n C dX8_part_71 rfl hl 1 rfl ?_
        refine g_bipush (a := 105) C dX8_part_72 (by decide) ?_
        refine g_icmp_ne (tgt := 81) C (by omega) (by decide) dX8_part_74 (by decide) (fun c_66 => absurd c_66 (by omega)) (fun c_66 => ?_)
        refine g_iconst (a := 0) C dX8_part_77 rfl ?_
        refine g_goto (tgt := 82) C dX8_part_78 (by decide) ?_
        refine g_iastore C G (pos := 196) (by omega) hc_65 (by omega) (by omega) (by omega) dX8_part_82 (fun H locs G => ?_)
        obtain ⟨g_67, hg_68⟩ : ∃ g9, g9 = va_up g_61 196 (aI κ 42 (vu (vu q9 ((4 * rl) + 1) z_14) ((4 * rl) + 2) 0)) := ⟨_, rfl⟩
        rw [← hg_68] at G
        have hc_69 : g_67 192 = .inr (8, [.ref (ad 193), .int (iz ly), .int (iz th), .ref (ad 194), .int (iz mk), .ref (ad 195), .int (iz tx), .ref (ad 196), .int (iz rl), .int (iz p_17), .int (iz 0), .int (iz s0), .int (iz s1), .ref (ad 197), .int (iz rm), .ref (ad 198), .ref (ad 199)]) := by rw [hg_68, gu_ne (by decide)]; exact hc_63
        have hc_70 : g_67 195 = aI κ 100 X9 := by rw [hg_68, gu_ne (by decide)]; exact hc_64
        have hc_71 : g_67 196 = aI κ 42 (vu (vu q9 ((4 * rl) + 1) z_14) ((4 * rl) + 2) 0) := by rw [hg_68]; exact gu_self _ _ _
        refine g_aload_n C dX8_part_83 rfl hl 2 rfl ?_
        refine g_get C G (pos := 192) fX8_part_19 (by omega) hc_69 rfl dX8_part_84 ?_
        refine g_iload_n C dX8_part_87 rfl hl 0 rfl ?_
        refine g_iconst (a := 3) C dX8_part_88 rfl ?_
        refine g_iadd C dX8_part_89 ?_
        refine g_aload_n C dX8_part_90 rfl hl 2 rfl ?_
        refine g_iconst (a := 2) C dX8_part_91 rfl ?_
        refine g_iconst (a := 0) C dX8_part_92 rfl ?_
        refine g_bipush (a := 20) C dX8_part_93 (by decide) ?_
        refine g_ci C G (g_runV (As := [.int (iz 2), .int (iz 0), .int (iz 20)]) (rest := [.int (iz ((4 * rl) + 3)), .ref (ad 196)]) (pos := 192) C G (c_X8_number l κ B n ad g_67 ly th mk tx rl p_17 0 s0 s1 rm X9 2 0 20 hn8 hc_69 hc_70 rfl (by omega) (by omega) htx (by omega) hTx) (cwV 3 C.1.2.2.2.2 gX8_part_X8_number rfl rfl rfl (by decide +kernel) ⟨Nat.le_of_ble_eq_true rfl, Nat.le_of_ble_eq_true rfl⟩) (by omega) hc_69 (T := TX8) (N := 17) rfl rfl hl rfl (Nat.le_of_ble_eq_true rfl) dX8_part_95 ⟨Nat.le_of_ble_eq_true rfl, Nat.le_of_ble_eq_true rfl⟩) (fun z_72 g9 H locs hw9 G => ?_)
        have hr_76 := rd_range (T9 := X9) (L9 := tx) (lo := 0) (hi := 20) (dg := 2) (q := p_17) (by omega) (by omega) (by omega)
        obtain ⟨r_74, p_75, e_73⟩ : ∃ r9 p9, rd X9 tx 0 20 2 p_17 = (r9, p9) := ⟨_, _, rfl⟩
        rw [e_73] at hw9 hr_76
        dsimp only at hw9 hr_76
        rcases hw9 with hw9 | hw9
        · obtain ⟨hq_77, hw, hq_77z⟩ := hw9
          subst hw
          obtain ⟨g_78, hg_79⟩ : ∃ g9, g9 = va_up g_67 192 (.inr (8, [.ref (ad 193), .int (iz ly), .int (iz th), .ref (ad 194), .int (iz mk), .ref (ad 195), .int (iz tx), .ref (ad 196), .int (iz rl), .int (iz p_75), .int (iz 1), .int (iz s0), .int (iz s1), .ref (ad 197), .int (iz rm), .ref (ad 198), .ref (ad 199)])) := ⟨_, rfl⟩
          rw [← hg_79] at G
          have hc_80 : g_78 192 = .inr (8, [.ref (ad 193), .int (iz ly), .int (iz th), .ref (ad 194), .int (iz mk), .ref (ad 195), .int (iz tx), .ref (ad 196), .int (iz rl), .int (iz p_75), .int (iz 1), .int (iz s0), .int (iz s1), .ref (ad 197), .int (iz rm), .ref (ad 198), .ref (ad 199)]) := by rw [hg_79]; exact gu_self _ _ _
          have hc_81 : g_78 195 = aI κ 100 X9 := by rw [hg_79, gu_ne (by decide)]; exact hc_70
          have hc_82 : g_78 196 = aI κ 42 (vu (vu q9 ((4 * rl) + 1) z_14) ((4 * rl) + 2) 0) := by rw [hg_79, gu_ne (by decide)]; exact hc_71
          refine g_iastore C G (pos := 196) (by omega) hc_82 (by omega) (by omega) (by omega) dX8_part_98 (fun H locs G => ?_)
          obtain ⟨g_83, hg_84⟩ : ∃ g9, g9 = va_up g_78 196 (aI κ 42 (vu (vu (vu q9 ((4 * rl) + 1) z_14) ((4 * rl) + 2) 0) ((4 * rl) + 3) z_72)) := ⟨_, rfl⟩
          rw [← hg_84] at G
          have hc_85 : g_83 192 = .inr (8, [.ref (ad 193), .int (iz ly), .int (iz th), .ref (ad 194), .int (iz mk), .ref (ad 195), .int (iz tx), .ref (ad 196), .int (iz rl), .int (iz p_75), .int (iz 1), .int (iz s0), .int (iz s1), .ref (ad 197), .int (iz rm), .ref (ad 198), .ref (ad 199)]) := by rw [hg_84, gu_ne (by decide)]; exact hc_80
          have hc_86 : g_83 195 = aI κ 100 X9 := by rw [hg_84, gu_ne (by decide)]; exact hc_81
          have hc_87 : g_83 196 = aI κ 42 (vu (vu (vu q9 ((4 * rl) + 1) z_14) ((4 * rl) + 2) 0) ((4 * rl) + 3) z_72) := by rw [hg_84]; exact gu_self _ _ _
          refine g_aload_n C dX8_part_99 rfl hl 2 rfl ?_
          refine g_get C G (pos := 192) fX8_part_19 (by omega) hc_85 rfl dX8_part_100 ?_
          refine g_iload_n C dX8_part_103 rfl hl 0 rfl ?_
          refine g_iconst (a := 4) C dX8_part_104 rfl ?_
          refine g_iadd C dX8_part_105 ?_
          refine g_aload_n C dX8_part_106 rfl hl 2 rfl ?_
          refine g_iconst (a := 2) C dX8_part_107 rfl ?_
          refine g_iconst (a := 0) C dX8_part_108 rfl ?_
          refine g_aload_n C dX8_part_109 rfl hl 2 rfl ?_
          refine g_get C G (pos := 192) fX8_part_19 (by omega) hc_85 rfl dX8_part_110 ?_
          refine g_iconst (a := 0) C dX8_part_113 rfl ?_
          refine g_iaload C G (pos := 196) (by omega) hc_87 (by omega) (by omega) (by omega) dX8_part_114 ?_
          rw [show ((vu (vu (vu q9 ((4 * rl) + 1) z_14) ((4 * rl) + 2) 0) ((4 * rl) + 3) z_72) 0 : Int) = q9 0 from (by simp only [vu]; repeat rw [if_neg (by omega)])]
          refine g_iconst (a := 1) C dX8_part_115 rfl ?_
          refine g_isub C dX8_part_116 ?_
          refine g_ci C G (g_runV (As := [.int (iz 2), .int (iz 0), .int (iz ((q9 0) - 1))]) (rest := [.int (iz ((4 * rl) + 4)), .ref (ad 196)]) (pos := 192) C G (c_X8_number1 l κ B n ad g_83 ly th mk tx rl p_75 1 s0 s1 rm 2 0 ((q9 0) - 1) hn8 hc_85 rfl (by omega)) (cwV 3 C.1.2.2.2.2 gX8_part_X8_number rfl rfl rfl (by decide +kernel) ⟨Nat.le_of_ble_eq_true rfl, Nat.le_of_ble_eq_true rfl⟩) (by omega) hc_85 (T := TX8) (N := 17) rfl rfl hl rfl (Nat.le_of_ble_eq_true rfl) dX8_part_117 ⟨Nat.le_of_ble_eq_true rfl, Nat.le_of_ble_eq_true rfl⟩) (fun z_88 g9 H locs hw G => ?_)
          obtain ⟨hg9, h_89⟩ := hw
          replace hg9 := hg9.symm
          subst hg9
          refine g_iastore C G (pos := 196) (by omega) hc_87 (by omega) (by omega) (by omega) dX8_part_120 (fun H locs G => ?_)
          obtain ⟨g_90, hg_91⟩ : ∃ g9, g9 = va_up g_83 196 (aI κ 42 (vu (vu (vu (vu q9 ((4 * rl) + 1) z_14) ((4 * rl) + 2) 0) ((4 * rl) + 3) z_72) ((4 * rl) + 4) z_88)) := ⟨_, rfl⟩
          rw [← hg_91] at G
          have hc_92 : g_90 192 = .inr (8, [.ref (ad 193), .int (iz ly), .int (iz th), .ref (ad 194), .int (iz mk), .ref (ad 195), .int (iz tx), .ref (ad 196), .int (iz rl), .int (iz p_75), .int (iz 1), .int (iz s0), .int (iz s1), .ref (ad 197), .int (iz rm), .ref (ad 198), .ref (ad 199)]) := by rw [hg_91, gu_ne (by decide)]; exact hc_85
          have hc_93 : g_90 195 = aI κ 100 X9 := by rw [hg_91, gu_ne (by decide)]; exact hc_86
          have hc_94 : g_90 196 = aI κ 42 (vu (vu (vu (vu q9 ((4 * rl) + 1) z_14) ((4 * rl) + 2) 0) ((4 * rl) + 3) z_72) ((4 * rl) + 4) z_88) := by rw [hg_91]; exact gu_self _ _ _
          refine g_aload_n C dX8_part_121 rfl hl 2 rfl ?_
          refine lv_dup C.1.1 C.1.2.1 dX8_part_122 rfl ?_
          refine g_get C G (pos := 192) fX8_part_98 (by omega) hc_92 rfl dX8_part_123 ?_
          refine g_iconst (a := 1) C dX8_part_126 rfl ?_
          refine g_iadd C dX8_part_127 ?_
          refine g_put C G (pos := 192) (fs' := [.ref (ad 193), .int (iz ly), .int (iz th), .ref (ad 194), .int (iz mk), .ref (ad 195), .int (iz tx), .ref (ad 196), .int (iz (rl + 1)), .int (iz p_75), .int (iz 1), .int (iz s0), .int (iz s1), .ref (ad 197), .int (iz rm), .ref (ad 198), .ref (ad 199)]) fwX8_part_98 (by omega) hc_92 (Nat.le_of_ble_eq_true rfl) rfl rfl rfl dX8_part_128 (fun H locs G => ?_)
          obtain ⟨g_95, hg_96⟩ : ∃ g9, g9 = va_up g_90 192 (.inr (8, [.ref (ad 193), .int (iz ly), .int (iz th), .ref (ad 194), .int (iz mk), .ref (ad 195), .int (iz tx), .ref (ad 196), .int (iz (rl + 1)), .int (iz p_75), .int (iz 1), .int (iz s0), .int (iz s1), .ref (ad 197), .int (iz rm), .ref (ad 198), .ref (ad 199)])) := ⟨_, rfl⟩
          rw [← hg_96] at G
          have hc_97 : g_95 192 = .inr (8, [.ref (ad 193), .int (iz ly), .int (iz th), .ref (ad 194), .int (iz mk), .ref (ad 195), .int (iz tx), .ref (ad 196), .int (iz (rl + 1)), .int (iz p_75), .int (iz 1), .int (iz s0), .int (iz s1), .ref (ad 197), .int (iz rm), .ref (ad 198), .ref (ad 199)]) := by rw [hg_96]; exact gu_self _ _ _
          have hc_98 : g_95 195 = aI κ 100 X9 := by rw [hg_96, gu_ne (by decide)]; exact hc_93
          have hc_99 : g_95 196 = aI κ 42 (vu (vu (vu (vu q9 ((4 * rl) + 1) z_14) ((4 * rl) + 2) 0) ((4 * rl) + 3) z_72) ((4 * rl) + 4) z_88) := by rw [hg_96, gu_ne (by decide)]; exact hc_94
          refine g_goto (tgt := 231) C dX8_part_131 (by decide) ?_
          refine g_vret C G hr hlk (Nat.le_of_ble_eq_true rfl) (Nat.le_of_ble_eq_true rfl) dX8_part_231 ?_
          have hF : rpS X9 tx a0 rl q9 = (false, p_75, rl, q9) := by
            unfold rpS
            rw [if_pos (by omega), if_neg (by omega)]
            unfold rlS
            simp only [e_15, e_73]
            rw [if_neg (by omega)]
            rw [if_pos (by omega)]
          rw [hF]
          exact Or.inr ⟨rfl, _, _, hc_97, hc_99, ((((hokR.2.vu (by omega)).vu (by omega)).vu (by omega)).vu (by omega)), fun x x1 x2 => by rw [hg_96, gu_ne (by omega), hg_91, gu_ne (by omega), hg_84, gu_ne (by omega), hg_79, gu_ne (by omega), hg_68, gu_ne (by omega), hg_62, gu_ne (by omega), hg_57, gu_ne (by omega), hg_10, gu_ne (by omega)]⟩
        · obtain ⟨hq_100, hw, hq_100z⟩ := hw9
          subst hw
          subst hq_100z
          obtain ⟨g_101, hg_102⟩ : ∃ g9, g9 = va_up g_67 192 (.inr (8, [.ref (ad 193), .int (iz ly), .int (iz th), .ref (ad 194), .int (iz mk), .ref (ad 195), .int (iz tx), .ref (ad 196), .int (iz rl), .int (iz p_75), .int (iz 0), .int (iz s0), .int (iz s1), .ref (ad 197), .int (iz rm), .ref (ad 198), .ref (ad 199)])) := ⟨_, rfl⟩
          rw [← hg_102] at G
          have hc_103 : g_101 192 = .inr (8, [.ref (ad 193), .int (iz ly), .int (iz th), .ref (ad 194), .int (iz mk), .ref (ad 195), .int (iz tx), .ref (ad 196), .int (iz rl), .int (iz p_75), .int (iz 0), .int (iz s0), .int (iz s1), .ref (ad 197), .int (iz rm), .ref (ad 198), .ref (ad 199)]) := by rw [hg_102]; exact gu_self _ _ _
          have hc_104 : g_101 195 = aI κ 100 X9 := by rw [hg_102, gu_ne (by decide)]; exact hc_70
          have hc_105 : g_101 196 = aI κ 42 (vu (vu q9 ((4 * rl) + 1) z_14) ((4 * rl) + 2) 0) := by rw [hg_102, gu_ne (by decide)]; exact hc_71
          refine g_iastore C G (pos := 196) (by omega) hc_105 (by omega) (by omega) (by omega) dX8_part_98 (fun H locs G => ?_)
          obtain ⟨g_106, hg_107⟩ : ∃ g9, g9 = va_up g_101 196 (aI κ 42 (vu (vu (vu q9 ((4 * rl) + 1) z_14) ((4 * rl) + 2) 0) ((4 * rl) + 3) z_72)) := ⟨_, rfl⟩
          rw [← hg_107] at G
          have hc_108 : g_106 192 = .inr (8, [.ref (ad 193), .int (iz ly), .int (iz th), .ref (ad 194), .int (iz mk), .ref (ad 195), .int (iz tx), .ref (ad 196), .int (iz rl), .int (iz p_75), .int (iz 0), .int (iz s0), .int (iz s1), .ref (ad 197), .int (iz rm), .ref (ad 198), .ref (ad 199)]) := by rw [hg_107, gu_ne (by decide)]; exact hc_103
          have hc_109 : g_106 195 = aI κ 100 X9 := by rw [hg_107, gu_ne (by decide)]; exact hc_104
          have hc_110 : g_106 196 = aI κ 42 (vu (vu (vu q9 ((4 * rl) + 1) z_14) ((4 * rl) + 2) 0) ((4 * rl) + 3) z_72) := by rw [hg_107]; exact gu_self _ _ _
          refine g_aload_n C dX8_part_99 rfl hl 2 rfl ?_
          refine g_get C G (pos := 192) fX8_part_19 (by omega) hc_108 rfl dX8_part_100 ?_
          refine g_iload_n C dX8_part_103 rfl hl 0 rfl ?_
          refine g_iconst (a := 4) C dX8_part_104 rfl ?_
          refine g_iadd C dX8_part_105 ?_
          refine g_aload_n C dX8_part_106 rfl hl 2 rfl ?_
          refine g_iconst (a := 2) C dX8_part_107 rfl ?_
          refine g_iconst (a := 0) C dX8_part_108 rfl ?_
          refine g_aload_n C dX8_part_109 rfl hl 2 rfl ?_
          refine g_get C G (pos := 192) fX8_part_19 (by omega) hc_108 rfl dX8_part_110 ?_
          refine g_iconst (a := 0) C dX8_part_113 rfl ?_
          refine g_iaload C G (pos := 196) (by omega) hc_110 (by omega) (by omega) (by omega) dX8_part_114 ?_
          rw [show ((vu (vu (vu q9 ((4 * rl) + 1) z_14) ((4 * rl) + 2) 0) ((4 * rl) + 3) z_72) 0 : Int) = q9 0 from (by simp only [vu]; repeat rw [if_neg (by omega)])]
          refine g_iconst (a := 1) C dX8_part_115 rfl ?_
          refine g_isub C dX8_part_116 ?_
          refine g_ci C G (g_runV (As := [.int (iz 2), .int (iz 0), .int (iz ((q9 0) - 1))]) (rest := [.int (iz ((4 * rl) + 4)), .ref (ad 196)]) (pos := 192) C G (c_X8_number l κ B n ad g_106 ly th mk tx rl p_75 0 s0 s1 rm X9 2 0 ((q9 0) - 1) hn8 hc_108 hc_109 rfl (by omega) (by omega) htx (by omega) hTx) (cwV 3 C.1.2.2.2.2 gX8_part_X8_number rfl rfl rfl (by decide +kernel) ⟨Nat.le_of_ble_eq_true rfl, Nat.le_of_ble_eq_true rfl⟩) (by omega) hc_108 (T := TX8) (N := 17) rfl rfl hl rfl (Nat.le_of_ble_eq_true rfl) dX8_part_117 ⟨Nat.le_of_ble_eq_true rfl, Nat.le_of_ble_eq_true rfl⟩) (fun z_111 g9 H locs hw9 G => ?_)
          have hr_115 := rd_range (T9 := X9) (L9 := tx) (lo := 0) (hi := (q9 0) - 1) (dg := 2) (q := p_75) (by omega) (by omega) (by omega)
          obtain ⟨r_113, p_114, e_112⟩ : ∃ r9 p9, rd X9 tx 0 ((q9 0) - 1) 2 p_75 = (r9, p9) := ⟨_, _, rfl⟩
          rw [e_112] at hw9 hr_115
          dsimp only at hw9 hr_115
          rcases hw9 with hw9 | hw9
          · obtain ⟨hq_116, hw, hq_116z⟩ := hw9
            subst hw
            obtain ⟨g_117, hg_118⟩ : ∃ g9, g9 = va_up g_106 192 (.inr (8, [.ref (ad 193), .int (iz ly), .int (iz th), .ref (ad 194), .int (iz mk), .ref (ad 195), .int (iz tx), .ref (ad 196), .int (iz rl), .int (iz p_114), .int (iz 1), .int (iz s0), .int (iz s1), .ref (ad 197), .int (iz rm), .ref (ad 198), .ref (ad 199)])) := ⟨_, rfl⟩
            rw [← hg_118] at G
            have hc_119 : g_117 192 = .inr (8, [.ref (ad 193), .int (iz ly), .int (iz th), .ref (ad 194), .int (iz mk), .ref (ad 195), .int (iz tx), .ref (ad 196), .int (iz rl), .int (iz p_114), .int (iz 1), .int (iz s0), .int (iz s1), .ref (ad 197), .int (iz rm), .ref (ad 198), .ref (ad 199)]) := by rw [hg_118]; exact gu_self _ _ _
            have hc_120 : g_117 195 = aI κ 100 X9 := by rw [hg_118, gu_ne (by decide)]; exact hc_109
            have hc_121 : g_117 196 = aI κ 42 (vu (vu (vu q9 ((4 * rl) + 1) z_14) ((4 * rl) + 2) 0) ((4 * rl) + 3) z_72) := by rw [hg_118, gu_ne (by decide)]; exact hc_110
            refine g_iastore C G (pos := 196) (by omega) hc_121 (by omega) (by omega) (by omega) dX8_part_120 (fun H locs G => ?_)
            obtain ⟨g_122, hg_123⟩ : ∃ g9, g9 = va_up g_117 196 (aI κ 42 (vu (vu (vu (vu q9 ((4 * rl) + 1) z_14) ((4 * rl) + 2) 0) ((4 * rl) + 3) z_72) ((4 * rl) + 4) z_111)) := ⟨_, rfl⟩
            rw [← hg_123] at G
            have hc_124 : g_122 192 = .inr (8, [.ref (ad 193), .int (iz ly), .int (iz th), .ref (ad 194), .int (iz mk), .ref (ad 195), .int (iz tx), .ref (ad 196), .int (iz rl), .int (iz p_114), .int (iz 1), .int (iz s0), .int (iz s1), .ref (ad 197), .int (iz rm), .ref (ad 198), .ref (ad 199)]) := by rw [hg_123, gu_ne (by decide)]; exact hc_119
            have hc_125 : g_122 195 = aI κ 100 X9 := by rw [hg_123, gu_ne (by decide)]; exact hc_120
            have hc_126 : g_122 196 = aI κ 42 (vu (vu (vu (vu q9 ((4 * rl) + 1) z_14) ((4 * rl) + 2) 0) ((4 * rl) + 3) z_72) ((4 * rl) + 4) z_111) := by rw [hg_123]; exact gu_self _ _ _
            refine g_aload_n C dX8_part_121 rfl hl 2 rfl ?_
            refine lv_dup C.1.1 C.1.2.1 dX8_part_122 rfl ?_
            refine g_get C G (pos := 192) fX8_part_98 (by omega) hc_124 rfl dX8_part_123 ?_
            refine g_iconst (a := 1) C dX8_part_126 rfl ?_
            refine g_iadd C dX8_part_127 ?_
            refine g_put C G (pos := 192) (fs' := [.ref (ad 193), .int (iz ly), .int (iz th), .ref (ad 194), .int (iz mk), .ref (ad 195), .int (iz tx), .ref (ad 196), .int (iz (rl + 1)), .int (iz p_114), .int (iz 1), .int (iz s0), .int (iz s1), .ref (ad 197), .int (iz rm), .ref (ad 198), .ref (ad 199)]) fwX8_part_98 (by omega) hc_124 (Nat.le_of_ble_eq_true rfl) rfl rfl rfl dX8_part_128 (fun H locs G => ?_)
            obtain ⟨g_127, hg_128⟩ : ∃ g9, g9 = va_up g_122 192 (.inr (8, [.ref (ad 193), .int (iz ly), .int (iz th), .ref (ad 194), .int (iz mk), .ref (ad 195), .int (iz tx), .ref (ad 196), .int (iz (rl + 1)), .int (iz p_114), .int (iz 1), .int (iz s0), .int (iz s1), .ref (ad 197), .int (iz rm), .ref (ad 198), .ref (ad 199)])) := ⟨_, rfl⟩
            rw [← hg_128] at G
            have hc_129 : g_127 192 = .inr (8, [.ref (ad 193), .int (iz ly), .int (iz th), .ref (ad 194), .int (iz mk), .ref (ad 195), .int (iz tx), .ref (ad 196), .int (iz (rl + 1)), .int (iz p_114), .int (iz 1), .int (iz s0), .int (iz s1), .ref (ad 197), .int (iz rm), .ref (ad 198), .ref (ad 199)]) := by rw [hg_128]; exact gu_self _ _ _
            have hc_130 : g_127 195 = aI κ 100 X9 := by rw [hg_128, gu_ne (by decide)]; exact hc_125
            have hc_131 : g_127 196 = aI κ 42 (vu (vu (vu (vu q9 ((4 * rl) + 1) z_14) ((4 * rl) + 2) 0) ((4 * rl) + 3) z_72) ((4 * rl) + 4) z_111) := by rw [hg_128, gu_ne (by decide)]; exact hc_126
            refine g_goto (tgt := 231) C dX8_part_131 (by decide) ?_
            refine g_vret C G hr hlk (Nat.le_of_ble_eq_true rfl) (Nat.le_of_ble_eq_true rfl) dX8_part_231 ?_
            have hF : rpS X9 tx a0 rl q9 = (false, p_114, rl, q9) := by
              unfold rpS
              rw [if_pos (by omega), if_neg (by omega)]
              unfold rlS
              simp only [e_15, e_73, e_112]
              rw [if_neg (by omega)]
              rw [if_neg (by omega)]
              rw [if_pos (by omega)]
            rw [hF]
            exact Or.inr ⟨rfl, _, _, hc_129, hc_131, ((((hokR.2.vu (by omega)).vu (by omega)).vu (by omega)).vu (by omega)), fun x x1 x2 => by rw [hg_128, gu_ne (by omega), hg_123, gu_ne (by omega), hg_118, gu_ne (by omega), hg_107, gu_ne (by omega), hg_102, gu_ne (by omega), hg_68, gu_ne (by omega), hg_62, gu_ne (by omega), hg_57, gu_ne (by omega), hg_10, gu_ne (by omega)]⟩
          · obtain ⟨hq_132, hw, hq_132z⟩ := hw9
            subst hw
            subst hq_132z
            obtain ⟨g_133, hg_134⟩ : ∃ g9, g9 = va_up g_106 192 (.inr (8, [.ref (ad 193), .int (iz ly), .int (iz th), .ref (ad 194), .int (iz mk), .ref (ad 195), .int (iz tx), .ref (ad 196), .int (iz rl), .int (iz p_114), .int (iz 0), .int (iz s0), .int (iz s1), .ref (ad 197), .int (iz rm), .ref (ad 198), .ref (ad 199)])) := ⟨_, rfl⟩
            rw [← hg_134] at G
            have hc_135 : g_133 192 = .inr (8, [.ref (ad 193), .int (iz ly), .int (iz th), .ref (ad 194), .int (iz mk), .ref (ad 195), .int (iz tx), .ref (ad 196), .int (iz rl), .int (iz p_114), .int (iz 0), .int (iz s0), .int (iz s1), .ref (ad 197), .int (iz rm), .ref (ad 198), .ref (ad 199)]) := by rw [hg_134]; exact gu_self _ _ _
            have hc_136 : g_133 195 = aI κ 100 X9 := by rw [hg_134, gu_ne (by decide)]; exact hc_109
            have hc_137 : g_133 196 = aI κ 42 (vu (vu (vu q9 ((4 * rl) + 1) z_14) ((4 * rl) + 2) 0) ((4 * rl) + 3) z_72) := by rw [hg_134, gu_ne (by decide)]; exact hc_110
            refine g_iastore C G (pos := 196) (by omega) hc_137 (by omega) (by omega) (by omega) dX8_part_120 (fun H locs G => ?_)
            obtain ⟨g_138, hg_139⟩ : ∃ g9, g9 = va_up g_133 196 (aI κ 42 (vu (vu (vu (vu q9 ((4 * rl) + 1) z_14) ((4 * rl) + 2) 0) ((4 * rl) + 3) z_72) ((4 * rl) + 4) z_111)) := ⟨_, rfl⟩
            rw [← hg_139] at G
            have hc_140 : g_138 192 = .inr (8, [.ref (ad 193), .int (iz ly), .int (iz th), .ref (ad 194), .int (iz mk), .ref (ad 195), .int (iz tx), .ref (ad 196), .int (iz rl), .int (iz p_114), .int (iz 0), .int (iz s0), .int (iz s1), .ref (ad 197), .int (iz rm), .ref (ad 198), .ref (ad 199)]) := by rw [hg_139, gu_ne (by decide)]; exact hc_135
            have hc_141 : g_138 195 = aI κ 100 X9 := by rw [hg_139, gu_ne (by decide)]; exact hc_136
            have hc_142 : g_138 196 = aI κ 42 (vu (vu (vu (vu q9 ((4 * rl) + 1) z_14) ((4 * rl) + 2) 0) ((4 * rl) + 3) z_72) ((4 * rl) + 4) z_111) := by rw [hg_139]; exact gu_self _ _ _
            refine g_aload_n C dX8_part_121 rfl hl 2 rfl ?_
            refine lv_dup C.1.1 C.1.2.1 dX8_part_122 rfl ?_
            refine g_get C G (pos := 192) fX8_part_98 (by omega) hc_140 rfl dX8_part_123 ?_
            refine g_iconst (a := 1) C dX8_part_126 rfl ?_
            refine g_iadd C dX8_part_127 ?_
            refine g_put C G (pos := 192) (fs' := [.ref (ad 193), .int (iz ly), .int (iz th), .ref (ad 194), .int (iz mk), .ref (ad 195), .int (iz tx), .ref (ad 196), .int (iz (rl + 1)), .int (iz p_114), .int (iz 0), .int (iz s0), .int (iz s1), .ref (ad 197), .int (iz rm), .ref (ad 198), .ref (ad 199)]) fwX8_part_98 (by omega) hc_140 (Nat.le_of_ble_eq_true rfl) rfl rfl rfl dX8_part_128 (fun H locs G => ?_)
            obtain ⟨g_143, hg_144⟩ : ∃ g9, g9 = va_up g_138 192 (.inr (8, [.ref (ad 193), .int (iz ly), .int (iz th), .ref (ad 194), .int (iz mk), .ref (ad 195), .int (iz tx), .ref (ad 196), .int (iz (rl + 1)), .int (iz p_114), .int (iz 0), .int (iz s0), .int (iz s1), .ref (ad 197), .int (iz rm), .ref (ad 198), .ref (ad 199)])) := ⟨_, rfl⟩
            rw [← hg_144] at G
            have hc_145 : g_143 192 = .inr (8, [.ref (ad 193), .int (iz ly), .int (iz th), .ref (ad 194), .int (iz mk), .ref (ad 195), .int (iz tx), .ref (ad 196), .int (iz (rl + 1)), .int (iz p_114), .int (iz 0), .int (iz s0), .int (iz s1), .ref (ad 197), .int (iz rm), .ref (ad 198), .ref (ad 199)]) := by rw [hg_144]; exact gu_self _ _ _
            have hc_146 : g_143 195 = aI κ 100 X9 := by rw [hg_144, gu_ne (by decide)]; exact hc_141
            have hc_147 : g_143 196 = aI κ 42 (vu (vu (vu (vu q9 ((4 * rl) + 1) z_14) ((4 * rl) + 2) 0) ((4 * rl) + 3) z_72) ((4 * rl) + 4) z_111) := by rw [hg_144, gu_ne (by decide)]; exact hc_142
            refine g_goto (tgt := 231) C dX8_part_131 (by decide) ?_
            refine g_vret C G hr hlk (Nat.le_of_ble_eq_true rfl) (Nat.le_of_ble_eq_true rfl) dX8_part_231 ?_
            have hF : rpS X9 tx a0 rl q9 = (true, p_114, rl + 1, v4 q9 rl z_14 0 z_72 z_111) := by
              unfold rpS
              rw [if_pos (by omega), if_neg (by omega)]
              unfold rlS
              simp only [e_15, e_73, e_112]
              rw [if_neg (by omega), if_neg (by omega), if_neg (by omega)]
            rw [hF]
            exact Or.inl ⟨rfl, hc_145, hc_147.trans (congrArg (fun q => aI κ 42 q) lay_v4), fun x x1 x2 => by rw [hg_144, gu_ne (by omega), hg_139, gu_ne (by omega), hg_134, gu_ne (by omega), hg_107, gu_ne (by omega), hg_102, gu_ne (by omega), hg_68, gu_ne (by omega), hg_62, gu_ne (by omega), hg_57, gu_ne (by omega), hg_10, gu_ne (by omega)]⟩
  · refine g_iload_n C dX8_part_16 rfl hl 0 rfl ?_
    refine g_bipush (a := 111) C dX8_part_17 (by decide) ?_
    refine g_icmp_ne (tgt := 134) C (by omega) (by decide) dX8_part_19 (by decide) (fun c_148 => ?_) (fun c_148 => ?_)
    · refine g_iload_n C dX8_part_134 rfl hl 0 rfl ?_
      refine g_bipush (a := 115) C dX8_part_135 (by decide) ?_
      refine g_icmp_ne (tgt := 226) C (by omega) (by decide) dX8_part_137 (by decide) (fun c_149 => ?_) (fun c_149 => ?_)
      · refine g_aload_n C dX8_part_226 rfl hl 1 rfl ?_
        refine g_iconst (a := 1) C dX8_part_227 rfl ?_
        refine g_put C G (pos := 192) (fs' := [.ref (ad 193), .int (iz ly), .int (iz th), .ref (ad 194), .int (iz mk), .ref (ad 195), .int (iz tx), .ref (ad 196), .int (iz rl), .int (iz a0), .int (iz 1), .int (iz s0), .int (iz s1), .ref (ad 197), .int (iz rm), .ref (ad 198), .ref (ad 199)]) fwX8_part_89 (by omega) hM (Nat.le_of_ble_eq_true rfl) rfl (gnar_z (by decide)) rfl dX8_part_228 (fun H locs G => ?_)
        obtain ⟨g_150, hg_151⟩ : ∃ g9, g9 = va_up g 192 (.inr (8, [.ref (ad 193), .int (iz ly), .int (iz th), .ref (ad 194), .int (iz mk), .ref (ad 195), .int (iz tx), .ref (ad 196), .int (iz rl), .int (iz a0), .int (iz 1), .int (iz s0), .int (iz s1), .ref (ad 197), .int (iz rm), .ref (ad 198), .ref (ad 199)])) := ⟨_, rfl⟩
        rw [← hg_151] at G
        have hc_152 : g_150 192 = .inr (8, [.ref (ad 193), .int (iz ly), .int (iz th), .ref (ad 194), .int (iz mk), .ref (ad 195), .int (iz tx), .ref (ad 196), .int (iz rl), .int (iz a0), .int (iz 1), .int (iz s0), .int (iz s1), .ref (ad 197), .int (iz rm), .ref (ad 198), .ref (ad 199)]) := by rw [hg_151]; exact gu_self _ _ _
        have hc_153 : g_150 195 = aI κ 100 X9 := by rw [hg_151, gu_ne (by decide)]; exact hT
        have hc_154 : g_150 196 = aI κ 42 q9 := by rw [hg_151, gu_ne (by decide)]; exact hRd
        refine g_vret C G hr hlk (Nat.le_of_ble_eq_true rfl) (Nat.le_of_ble_eq_true rfl) dX8_part_231 ?_
        have hF : rpS X9 tx a0 rl q9 = (false, a0, rl, q9) := by
          unfold rpS
          repeat' split
          all_goals first | rfl | (exfalso; omega)
        rw [hF]
        exact Or.inr ⟨rfl, _, _, hc_152, hc_154, hokR.2, fun x x1 x2 => by rw [hg_151, gu_ne (by omega)]⟩
      · refine g_aload_n C dX8_part_140 rfl hl 1 rfl ?_
        refine g_get C G (pos := 192) fX8_part_19 (by omega) hM rfl dX8_part_141 ?_
        refine g_bipush (a := 25) C dX8_part_144 (by decide) ?_
        refine g_iaload C G (pos := 196) (by omega) hRd (by omega) (by omega) (by omega) dX8_part_146 ?_
        refine g_bipush (a := 8) C dX8_part_147 (by decide) ?_
        refine g_icmp_ge (tgt := 226) C (by omega) (by decide) dX8_part_149 (by decide) (fun c_155 => ?_) (fun c_155 => ?_)
        · refine g_aload_n C dX8_part_226 rfl hl 1 rfl ?_
          refine g_iconst (a := 1) C dX8_part_227 rfl ?_
          refine g_put C G (pos := 192) (fs' := [.ref (ad 193), .int (iz ly), .int (iz th), .ref (ad 194), .int (iz mk), .ref (ad 195), .int (iz tx), .ref (ad 196), .int (iz rl), .int (iz a0), .int (iz 1), .int (iz s0), .int (iz s1), .ref (ad 197), .int (iz rm), .ref (ad 198), .ref (ad 199)]) fwX8_part_89 (by omega) hM (Nat.le_of_ble_eq_true rfl) rfl (gnar_z (by decide)) rfl dX8_part_228 (fun H locs G => ?_)
          obtain ⟨g_156, hg_157⟩ : ∃ g9, g9 = va_up g 192 (.inr (8, [.ref (ad 193), .int (iz ly), .int (iz th), .ref (ad 194), .int (iz mk), .ref (ad 195), .int (iz tx), .ref (ad 196), .int (iz rl), .int (iz a0), .int (iz 1), .int (iz s0), .int (iz s1), .ref (ad 197), .int (iz rm), .ref (ad 198), .ref (ad 199)])) := ⟨_, rfl⟩
          rw [← hg_157] at G
          have hc_158 : g_156 192 = .inr (8, [.ref (ad 193), .int (iz ly), .int (iz th), .ref (ad 194), .int (iz mk), .ref (ad 195), .int (iz tx), .ref (ad 196), .int (iz rl), .int (iz a0), .int (iz 1), .int (iz s0), .int (iz s1), .ref (ad 197), .int (iz rm), .ref (ad 198), .ref (ad 199)]) := by rw [hg_157]; exact gu_self _ _ _
          have hc_159 : g_156 195 = aI κ 100 X9 := by rw [hg_157, gu_ne (by decide)]; exact hT
          have hc_160 : g_156 196 = aI κ 42 q9 := by rw [hg_157, gu_ne (by decide)]; exact hRd
          refine g_vret C G hr hlk (Nat.le_of_ble_eq_true rfl) (Nat.le_of_ble_eq_true rfl) dX8_part_231 ?_
          have hF : rpS X9 tx a0 rl q9 = (false, a0, rl, q9) := by
            unfold rpS
            repeat' split
            all_goals first | rfl | (exfalso; omega)
          rw [hF]
          exact Or.inr ⟨rfl, _, _, hc_158, hc_160, hokR.2, fun x x1 x2 => by rw [hg_157, gu_ne (by omega)]⟩
        · refine g_aload_n C dX8_part_152 rfl hl 1 rfl ?_
          refine lv_dup C.1.1 C.1.2.1 dX8_part_153 rfl ?_
          refine g_get C G (pos := 192) fX8_part_93 (by omega) hM rfl dX8_part_154 ?_
          refine g_iconst (a := 1) C dX8_part_157 rfl ?_
          refine g_iadd C dX8_part_158 ?_
          refine g_put C G (pos := 192) (fs' := [.ref (ad 193), .int (iz ly), .int (iz th), .ref (ad 194), .int (iz mk), .ref (ad 195), .int (iz tx), .ref (ad 196), .int (iz rl), .int (iz (a0 + 1)), .int (iz 0), .int (iz s0), .int (iz s1), .ref (ad 197), .int (iz rm), .ref (ad 198), .ref (ad 199)]) fwX8_part_93 (by omega) hM (Nat.le_of_ble_eq_true rfl) rfl rfl rfl dX8_part_159 (fun H locs G => ?_)
          obtain ⟨g_161, hg_162⟩ : ∃ g9, g9 = va_up g 192 (.inr (8, [.ref (ad 193), .int (iz ly), .int (iz th), .ref (ad 194), .int (iz mk), .ref (ad 195), .int (iz tx), .ref (ad 196), .int (iz rl), .int (iz (a0 + 1)), .int (iz 0), .int (iz s0), .int (iz s1), .ref (ad 197), .int (iz rm), .ref (ad 198), .ref (ad 199)])) := ⟨_, rfl⟩
          rw [← hg_162] at G
          have hc_163 : g_161 192 = .inr (8, [.ref (ad 193), .int (iz ly), .int (iz th), .ref (ad 194), .int (iz mk), .ref (ad 195), .int (iz tx), .ref (ad 196), .int (iz rl), .int (iz (a0 + 1)), .int (iz 0), .int (iz s0), .int (iz s1), .ref (ad 197), .int (iz rm), .ref (ad 198), .ref (ad 199)]) := by rw [hg_162]; exact gu_self _ _ _
          have hc_164 : g_161 195 = aI κ 100 X9 := by rw [hg_162, gu_ne (by decide)]; exact hT
          have hc_165 : g_161 196 = aI κ 42 q9 := by rw [hg_162, gu_ne (by decide)]; exact hRd
          refine g_bipush (a := 26) C dX8_part_162 (by decide) ?_
          refine g_iconst (a := 2) C dX8_part_164 rfl ?_
          refine g_aload_n C dX8_part_165 rfl hl 1 rfl ?_
          refine g_get C G (pos := 192) fX8_part_19 (by omega) hc_163 rfl dX8_part_166 ?_
          refine g_bipush (a := 25) C dX8_part_169 (by decide) ?_
          refine g_iaload C G (pos := 196) (by omega) hc_165 (by omega) (by omega) (by omega) dX8_part_171 ?_
          refine g_imul C dX8_part_172 ?_
          refine g_iadd C dX8_part_173 ?_
          refine lv_istore_n (lv' := [(2, .int (iz (26 + (2 * (q9 25))))), (1, .int (iz (X9 a0))), (0, .ref (ad 192))]) C.1.1 C.1.2.1 dX8_part_174 rfl hl (by decide) rfl (fun ls hl => ?_)
          refine g_aload_n C dX8_part_175 rfl hl 2 rfl ?_
          refine g_get C G (pos := 192) fX8_part_19 (by omega) hc_163 rfl dX8_part_176 ?_
          refine g_iload_n C dX8_part_179 rfl hl 0 rfl ?_
          refine g_aload_n C dX8_part_180 rfl hl 2 rfl ?_
          refine g_iconst (a := 2) C dX8_part_181 rfl ?_
          refine g_iconst (a := 0) C dX8_part_182 rfl ?_
          refine g_aload_n C dX8_part_183 rfl hl 2 rfl ?_
          refine g_get C G (pos := 192) fX8_part_19 (by omega) hc_163 rfl dX8_part_184 ?_
          refine g_iconst (a := 0) C dX8_part_187 rfl ?_
          refine g_iaload C G (pos := 196) (by omega) hc_165 (by omega) (by omega) (by omega) dX8_part_188 ?_
          refine g_iconst (a := 1) C dX8_part_189 rfl ?_
          refine g_isub C dX8_part_190 ?_
          refine g_ci C G (g_runV (As := [.int (iz 2), .int (iz 0), .int (iz ((q9 0) - 1))]) (rest := [.int (iz (26 + (2 * (q9 25)))), .ref (ad 196)]) (pos := 192) C G (c_X8_number l κ B n ad g_161 ly th mk tx rl (a0 + 1) 0 s0 s1 rm X9 2 0 ((q9 0) - 1) hn8 hc_163 hc_164 rfl (by omega) (by omega) htx (by omega) hTx) (cwV 3 C.1.2.2.2.2 gX8_part_X8_number rfl rfl rfl (by decide +kernel) ⟨Nat.le_of_ble_eq_true rfl, Nat.le_of_ble_eq_true rfl⟩) (by omega) hc_163 (T := TX8) (N := 17) rfl rfl hl rfl (Nat.le_of_ble_eq_true rfl) dX8_part_191 ⟨Nat.le_of_ble_eq_true rfl, Nat.le_of_ble_eq_true rfl⟩) (fun z_166 g9 H locs hw9 G => ?_)
          have hr_170 := rd_range (T9 := X9) (L9 := tx) (lo := 0) (hi := (q9 0) - 1) (dg := 2) (q := a0 + 1) (by omega) (by omega) (by omega)
          obtain ⟨r_168, p_169, e_167⟩ : ∃ r9 p9, rd X9 tx 0 ((q9 0) - 1) 2 (a0 + 1) = (r9, p9) := ⟨_, _, rfl⟩
          rw [e_167] at hw9 hr_170
          dsimp only at hw9 hr_170
          rcases hw9 with hw9 | hw9
          · obtain ⟨hq_171, hw, hq_171z⟩ := hw9
            subst hw
            obtain ⟨g_172, hg_173⟩ : ∃ g9, g9 = va_up g_161 192 (.inr (8, [.ref (ad 193), .int (iz ly), .int (iz th), .ref (ad 194), .int (iz mk), .ref (ad 195), .int (iz tx), .ref (ad 196), .int (iz rl), .int (iz p_169), .int (iz 1), .int (iz s0), .int (iz s1), .ref (ad 197), .int (iz rm), .ref (ad 198), .ref (ad 199)])) := ⟨_, rfl⟩
            rw [← hg_173] at G
            have hc_174 : g_172 192 = .inr (8, [.ref (ad 193), .int (iz ly), .int (iz th), .ref (ad 194), .int (iz mk), .ref (ad 195), .int (iz tx), .ref (ad 196), .int (iz rl), .int (iz p_169), .int (iz 1), .int (iz s0), .int (iz s1), .ref (ad 197), .int (iz rm), .ref (ad 198), .ref (ad 199)]) := by rw [hg_173]; exact gu_self _ _ _
            have hc_175 : g_172 195 = aI κ 100 X9 := by rw [hg_173, gu_ne (by decide)]; exact hc_164
            have hc_176 : g_172 196 = aI κ 42 q9 := by rw [hg_173, gu_ne (by decide)]; exact hc_165
            refine g_iastore C G (pos := 196) (by omega) hc_176 (by omega) (by omega) (by omega) dX8_part_194 (fun H locs G => ?_)
            obtain ⟨g_177, hg_178⟩ : ∃ g9, g9 = va_up g_172 196 (aI κ 42 (vu q9 (26 + (2 * (q9 25))) z_166)) := ⟨_, rfl⟩
            rw [← hg_178] at G
            have hc_179 : g_177 192 = .inr (8, [.ref (ad 193), .int (iz ly), .int (iz th), .ref (ad 194), .int (iz mk), .ref (ad 195), .int (iz tx), .ref (ad 196), .int (iz rl), .int (iz p_169), .int (iz 1), .int (iz s0), .int (iz s1), .ref (ad 197), .int (iz rm), .ref (ad 198), .ref (ad 199)]) := by rw [hg_178, gu_ne (by decide)]; exact hc_174
            have hc_180 : g_177 195 = aI κ 100 X9 := by rw [hg_178, gu_ne (by decide)]; exact hc_175
            have hc_181 : g_177 196 = aI κ 42 (vu q9 (26 + (2 * (q9 25))) z_166) := by rw [hg_178]; exact gu_self _ _ _
            refine g_aload_n C dX8_part_195 rfl hl 2 rfl ?_
            refine g_get C G (pos := 192) fX8_part_19 (by omega) hc_179 rfl dX8_part_196 ?_
            refine g_iload_n C dX8_part_199 rfl hl 0 rfl ?_
            refine g_iconst (a := 1) C dX8_part_200 rfl ?_
            refine g_iadd C dX8_part_201 ?_
            refine g_aload_n C dX8_part_202 rfl hl 2 rfl ?_
            refine g_iconst (a := 3) C dX8_part_203 rfl ?_
            refine g_iconst (a := 0) C dX8_part_204 rfl ?_
            refine g_sipush (a := 300) C dX8_part_205 (by decide) ?_
            refine g_ci C G (g_runV (As := [.int (iz 3), .int (iz 0), .int (iz 300)]) (rest := [.int (iz ((26 + (2 * (q9 25))) + 1)), .ref (ad 196)]) (pos := 192) C G (c_X8_number1 l κ B n ad g_177 ly th mk tx rl p_169 1 s0 s1 rm 3 0 300 hn8 hc_179 rfl (by omega)) (cwV 3 C.1.2.2.2.2 gX8_part_X8_number rfl rfl rfl (by decide +kernel) ⟨Nat.le_of_ble_eq_true rfl, Nat.le_of_ble_eq_true rfl⟩) (by omega) hc_179 (T := TX8) (N := 17) rfl rfl hl rfl (Nat.le_of_ble_eq_true rfl) dX8_part_208 ⟨Nat.le_of_ble_eq_true rfl, Nat.le_of_ble_eq_true rfl⟩) (fun z_182 g9 H locs hw G => ?_)
            obtain ⟨hg9, h_183⟩ := hw
            replace hg9 := hg9.symm
            subst hg9
            refine g_iastore C G (pos := 196) (by omega) hc_181 (by omega) (by omega) (by omega) dX8_part_211 (fun H locs G => ?_)
            obtain ⟨g_184, hg_185⟩ : ∃ g9, g9 = va_up g_177 196 (aI κ 42 (vu (vu q9 (26 + (2 * (q9 25))) z_166) ((26 + (2 * (q9 25))) + 1) z_182)) := ⟨_, rfl⟩
            rw [← hg_185] at G
            have hc_186 : g_184 192 = .inr (8, [.ref (ad 193), .int (iz ly), .int (iz th), .ref (ad 194), .int (iz mk), .ref (ad 195), .int (iz tx), .ref (ad 196), .int (iz rl), .int (iz p_169), .int (iz 1), .int (iz s0), .int (iz s1), .ref (ad 197), .int (iz rm), .ref (ad 198), .ref (ad 199)]) := by rw [hg_185, gu_ne (by decide)]; exact hc_179
            have hc_187 : g_184 195 = aI κ 100 X9 := by rw [hg_185, gu_ne (by decide)]; exact hc_180
            have hc_188 : g_184 196 = aI κ 42 (vu (vu q9 (26 + (2 * (q9 25))) z_166) ((26 + (2 * (q9 25))) + 1) z_182) := by rw [hg_185]; exact gu_self _ _ _
            refine g_aload_n C dX8_part_212 rfl hl 2 rfl ?_
            refine g_get C G (pos := 192) fX8_part_19 (by omega) hc_186 rfl dX8_part_213 ?_
            refine g_bipush (a := 25) C dX8_part_216 (by decide) ?_
            refine lv_dup2_11 C.1.1 C.1.2.1 dX8_part_218 rfl rfl ?_
            refine g_iaload C G (pos := 196) (by omega) hc_188 (by omega) (by omega) (by omega) dX8_part_219 ?_
            rw [show ((vu (vu q9 (26 + (2 * (q9 25))) z_166) ((26 + (2 * (q9 25))) + 1) z_182) 25 : Int) = q9 25 from (by simp only [vu]; repeat rw [if_neg (by omega)])]
            refine g_iconst (a := 1) C dX8_part_220 rfl ?_
            refine g_iadd C dX8_part_221 ?_
            refine g_iastore C G (pos := 196) (by omega) hc_188 (by omega) (by omega) (by omega) dX8_part_222 (fun H locs G => ?_)
            obtain ⟨g_189, hg_190⟩ : ∃ g9, g9 = va_up g_184 196 (aI κ 42 (vu (vu (vu q9 (26 + (2 * (q9 25))) z_166) ((26 + (2 * (q9 25))) + 1) z_182) 25 ((q9 25) + 1))) := ⟨_, rfl⟩
            rw [← hg_190] at G
            have hc_191 : g_189 192 = .inr (8, [.ref (ad 193), .int (iz ly), .int (iz th), .ref (ad 194), .int (iz mk), .ref (ad 195), .int (iz tx), .ref (ad 196), .int (iz rl), .int (iz p_169), .int (iz 1), .int (iz s0), .int (iz s1), .ref (ad 197), .int (iz rm), .ref (ad 198), .ref (ad 199)]) := by rw [hg_190, gu_ne (by decide)]; exact hc_186
            have hc_192 : g_189 195 = aI κ 100 X9 := by rw [hg_190, gu_ne (by decide)]; exact hc_187
            have hc_193 : g_189 196 = aI κ 42 (vu (vu (vu q9 (26 + (2 * (q9 25))) z_166) ((26 + (2 * (q9 25))) + 1) z_182) 25 ((q9 25) + 1)) := by rw [hg_190]; exact gu_self _ _ _
            refine g_goto (tgt := 231) C dX8_part_223 (by decide) ?_
            refine g_vret C G hr hlk (Nat.le_of_ble_eq_true rfl) (Nat.le_of_ble_eq_true rfl) dX8_part_231 ?_
            have hF : rpS X9 tx a0 rl q9 = (false, p_169, rl, q9) := by
              unfold rpS
              rw [if_neg (by omega), if_neg (by omega), if_pos (by omega), if_neg (by omega)]
              unfold rsS
              simp only [e_167]
              rw [if_pos (by omega)]
            rw [hF]
            exact Or.inr ⟨rfl, _, _, hc_191, hc_193, (((hokR.2.vu (by omega)).vu (by omega)).vu (by omega)), fun x x1 x2 => by rw [hg_190, gu_ne (by omega), hg_185, gu_ne (by omega), hg_178, gu_ne (by omega), hg_173, gu_ne (by omega), hg_162, gu_ne (by omega)]⟩
          · obtain ⟨hq_194, hw, hq_194z⟩ := hw9
            subst hw
            subst hq_194z
            obtain ⟨g_195, hg_196⟩ : ∃ g9, g9 = va_up g_161 192 (.inr (8, [.ref (ad 193), .int (iz ly), .int (iz th), .ref (ad 194), .int (iz mk), .ref (ad 195), .int (iz tx), .ref (ad 196), .int (iz rl), .int (iz p_169), .int (iz 0), .int (iz s0), .int (iz s1), .ref (ad 197), .int (iz rm), .ref (ad 198), .ref (ad 199)])) := ⟨_, rfl⟩
            rw [← hg_196] at G
            have hc_197 : g_195 192 = .inr (8, [.ref (ad 193), .int (iz ly), .int (iz th), .ref (ad 194), .int (iz mk), .ref (ad 195), .int (iz tx), .ref (ad 196), .int (iz rl), .int (iz p_169), .int (iz 0), .int (iz s0), .int (iz s1), .ref (ad 197), .int (iz rm), .ref (ad 198), .ref (ad 199)]) := by rw [hg_196]; exact gu_self _ _ _
            have hc_198 : g_195 195 = aI κ 100 X9 := by rw [hg_196, gu_ne (by decide)]; exact hc_164
            have hc_199 : g_195 196 = aI κ 42 q9 := by rw [hg_196, gu_ne (by decide)]; exact hc_165
            refine g_iastore C G (pos := 196) (by omega) hc_199 (by omega) (by omega) (by omega) dX8_part_194 (fun H locs G => ?_)
            obtain ⟨g_200, hg_201⟩ : ∃ g9, g9 = va_up g_195 196 (aI κ 42 (vu q9 (26 + (2 * (q9 25))) z_166)) := ⟨_, rfl⟩
            rw [← hg_201] at G
            have hc_202 : g_200 192 = .inr (8, [.ref (ad 193), .int (iz ly), .int (iz th), .ref (ad 194), .int (iz mk), .ref (ad 195), .int (iz tx), .ref (ad 196), .int (iz rl), .int (iz p_169), .int (iz 0), .int (iz s0), .int (iz s1), .ref (ad 197), .int (iz rm), .ref (ad 198), .ref (ad 199)]) := by rw [hg_201, gu_ne (by decide)]; exact hc_197
            have hc_203 : g_200 195 = aI κ 100 X9 := by rw [hg_201, gu_ne (by decide)]; exact hc_198
            have hc_204 : g_200 196 = aI κ 42 (vu q9 (26 + (2 * (q9 25))) z_166) := by rw [hg_201]; exact gu_self _ _ _
            refine g_aload_n C dX8_part_195 rfl hl 2 rfl ?_
            refine g_get C G (pos := 192) fX8_part_19 (by omega) hc_202 rfl dX8_part_196 ?_
            refine g_iload_n C dX8_part_199 rfl hl 0 rfl ?_
            refine g_iconst (a := 1) C dX8_part_200 rfl ?_
            refine g_iadd C dX8_part_201 ?_
            refine g_aload_n C dX8_part_202 rfl hl 2 rfl ?_
            refine g_iconst (a := 3) C dX8_part_203 rfl ?_
            refine g_iconst (a := 0) C dX8_part_204 rfl ?_
            refine g_sipush (a := 300) C dX8_part_205 (by decide) ?_
            refine g_ci C G (g_runV (As := [.int (iz 3), .int (iz 0), .int (iz 300)]) (rest := [.int (iz ((26 + (2 * (q9 25))) + 1)), .ref (ad 196)]) (pos := 192) C G (c_X8_number l κ B n ad g_200 ly th mk tx rl p_169 0 s0 s1 rm X9 3 0 300 hn8 hc_202 hc_203 rfl (by omega) (by omega) htx (by omega) hTx) (cwV 3 C.1.2.2.2.2 gX8_part_X8_number rfl rfl rfl (by decide +kernel) ⟨Nat.le_of_ble_eq_true rfl, Nat.le_of_ble_eq_true rfl⟩) (by omega) hc_202 (T := TX8) (N := 17) rfl rfl hl rfl (Nat.le_of_ble_eq_true rfl) dX8_part_208 ⟨Nat.le_of_ble_eq_true rfl, Nat.le_of_ble_eq_true rfl⟩) (fun z_205 g9 H locs hw9 G => ?_)
            have hr_209 := rd_range (T9 := X9) (L9 := tx) (lo := 0) (hi := 300) (dg := 3) (q := p_169) (by omega) (by omega) (by omega)
            obtain ⟨r_207, p_208, e_206⟩ : ∃ r9 p9, rd X9 tx 0 300 3 p_169 = (r9, p9) := ⟨_, _, rfl⟩
            rw [e_206] at hw9 hr_209
            dsimp only at hw9 hr_209
            rcases hw9 with hw9 | hw9
            · obtain ⟨hq_210, hw, hq_210z⟩ := hw9
              subst hw
              obtain ⟨g_211, hg_212⟩ : ∃ g9, g9 = va_up g_200 192 (.inr (8, [.ref (ad 193), .int (iz ly), .int (iz th), .ref (ad 194), .int (iz mk), .ref (ad 195), .int (iz tx), .ref (ad 196), .int (iz rl), .int (iz p_208), .int (iz 1), .int (iz s0), .int (iz s1), .ref (ad 197), .int (iz rm), .ref (ad 198), .ref (ad 199)])) := ⟨_, rfl⟩
              rw [← hg_212] at G
              have hc_213 : g_211 192 = .inr (8, [.ref (ad 193), .int (iz ly), .int (iz th), .ref (ad 194), .int (iz mk), .ref (ad 195), .int (iz tx), .ref (ad 196), .int (iz rl), .int (iz p_208), .int (iz 1), .int (iz s0), .int (iz s1), .ref (ad 197), .int (iz rm), .ref (ad 198), .ref (ad 199)]) := by rw [hg_212]; exact gu_self _ _ _
              have hc_214 : g_211 195 = aI κ 100 X9 := by rw [hg_212, gu_ne (by decide)]; exact hc_203
              have hc_215 : g_211 196 = aI κ 42 (vu q9 (26 + (2 * (q9 25))) z_166) := by rw [hg_212, gu_ne (by decide)]; exact hc_204
              refine g_iastore C G (pos := 196) (by omega) hc_215 (by omega) (by omega) (by omega) dX8_part_211 (fun H locs G => ?_)
              obtain ⟨g_216, hg_217⟩ : ∃ g9, g9 = va_up g_211 196 (aI κ 42 (vu (vu q9 (26 + (2 * (q9 25))) z_166) ((26 + (2 * (q9 25))) + 1) z_205)) := ⟨_, rfl⟩
              rw [← hg_217] at G
              have hc_218 : g_216 192 = .inr (8, [.ref (ad 193), .int (iz ly), .int (iz th), .ref (ad 194), .int (iz mk), .ref (ad 195), .int (iz tx), .ref (ad 196), .int (iz rl), .int (iz p_208), .int (iz 1), .int (iz s0), .int (iz s1), .ref (ad 197), .int (iz rm), .ref (ad 198), .ref (ad 199)]) := by rw [hg_217, gu_ne (by decide)]; exact hc_213
              have hc_219 : g_216 195 = aI κ 100 X9 := by rw [hg_217, gu_ne (by decide)]; exact hc_214
              have hc_220 : g_216 196 = aI κ 42 (vu (vu q9 (26 + (2 * (q9 25))) z_166) ((26 + (2 * (q9 25))) + 1) z_205) := by rw [hg_217]; exact gu_self _ _ _
              refine g_aload_n C dX8_part_212 rfl hl 2 rfl ?_
              refine g_get C G (pos := 192) fX8_part_19 (by omega) hc_218 rfl dX8_part_213 ?_
              refine g_bipush (a := 25) C dX8_part_216 (by decide) ?_
              refine lv_dup2_11 C.1.1 C.1.2.1 dX8_part_218 rfl rfl ?_
              refine g_iaload C G (pos := 196) (by omega) hc_220 (by omega) (by omega) (by omega) dX8_part_219 ?_
              rw [show ((vu (vu q9 (26 + (2 * (q9 25))) z_166) ((26 + (2 * (q9 25))) + 1) z_205) 25 : Int) = q9 25 from (by simp only [vu]; repeat rw [if_neg (by omega)])]
              refine g_iconst (a := 1) C dX8_part_220 rfl ?_
              refine g_iadd C dX8_part_221 ?_
              refine g_iastore C G (pos := 196) (by omega) hc_220 (by omega) (by omega) (by omega) dX8_part_222 (fun H locs G => ?_)
              obtain ⟨g_221, hg_222⟩ : ∃ g9, g9 = va_up g_216 196 (aI κ 42 (vu (vu (vu q9 (26 + (2 * (q9 25))) z_166) ((26 + (2 * (q9 25))) + 1) z_205) 25 ((q9 25) + 1))) := ⟨_, rfl⟩
              rw [← hg_222] at G
              have hc_223 : g_221 192 = .inr (8, [.ref (ad 193), .int (iz ly), .int (iz th), .ref (ad 194), .int (iz mk), .ref (ad 195), .int (iz tx), .ref (ad 196), .int (iz rl), .int (iz p_208), .int (iz 1), .int (iz s0), .int (iz s1), .ref (ad 197), .int (iz rm), .ref (ad 198), .ref (ad 199)]) := by rw [hg_222, gu_ne (by decide)]; exact hc_218
              have hc_224 : g_221 195 = aI κ 100 X9 := by rw [hg_222, gu_ne (by decide)]; exact hc_219
              have hc_225 : g_221 196 = aI κ 42 (vu (vu (vu q9 (26 + (2 * (q9 25))) z_166) ((26 + (2 * (q9 25))) + 1) z_205) 25 ((q9 25) + 1)) := by rw [hg_222]; exact gu_self _ _ _
              refine g_goto (tgt := 231) C dX8_part_223 (by decide) ?_
              refine g_vret C G hr hlk (Nat.le_of_ble_eq_true rfl) (Nat.le_of_ble_eq_true rfl) dX8_part_231 ?_
              have hF : rpS X9 tx a0 rl q9 = (false, p_208, rl, q9) := by
                unfold rpS
                rw [if_neg (by omega), if_neg (by omega), if_pos (by omega), if_neg (by omega)]
                unfold rsS
                simp only [e_167, e_206]
                rw [if_neg (by omega)]
                rw [if_pos (by omega)]
              rw [hF]
              exact Or.inr ⟨rfl, _, _, hc_223, hc_225, (((hokR.2.vu (by omega)).vu (by omega)).vu (by omega)), fun x x1 x2 => by rw [hg_222, gu_ne (by omega), hg_217, gu_ne (by omega), hg_212, gu_ne (by omega), hg_201, gu_ne (by omega), hg_196, gu_ne (by omega), hg_162, gu_ne (by omega)]⟩
            · obtain ⟨hq_226, hw, hq_226z⟩ := hw9
              subst hw
              subst hq_226z
              obtain ⟨g_227, hg_228⟩ : ∃ g9, g9 = va_up g_200 192 (.inr (8, [.ref (ad 193), .int (iz ly), .int (iz th), .ref (ad 194), .int (iz mk), .ref (ad 195), .int (iz tx), .ref (ad 196), .int (iz rl), .int (iz p_208), .int (iz 0), .int (iz s0), .int (iz s1), .ref (ad 197), .int (iz rm), .ref (ad 198), .ref (ad 199)])) := ⟨_, rfl⟩
              rw [← hg_228] at G
              have hc_229 : g_227 192 = .inr (8, [.ref (ad 193), .int (iz ly), .int (iz th), .ref (ad 194), .int (iz mk), .ref (ad 195), .int (iz tx), .ref (ad 196), .int (iz rl), .int (iz p_208), .int (iz 0), .int (iz s0), .int (iz s1), .ref (ad 197), .int (iz rm), .ref (ad 198), .ref (ad 199)]) := by rw [hg_228]; exact gu_self _ _ _
              have hc_230 : g_227 195 = aI κ 100 X9 := by rw [hg_228, gu_ne (by decide)]; exact hc_203
              have hc_231 : g_227 196 = aI κ 42 (vu q9 (26 + (2 * (q9 25))) z_166) := by rw [hg_228, gu_ne (by decide)]; exact hc_204
              refine g_iastore C G (pos := 196) (by omega) hc_231 (by omega) (by omega) (by omega) dX8_part_211 (fun H locs G => ?_)
              obtain ⟨g_232, hg_233⟩ : ∃ g9, g9 = va_up g_227 196 (aI κ 42 (vu (vu q9 (26 + (2 * (q9 25))) z_166) ((26 + (2 * (q9 25))) + 1) z_205)) := ⟨_, rfl⟩
              rw [← hg_233] at G
              have hc_234 : g_232 192 = .inr (8, [.ref (ad 193), .int (iz ly), .int (iz th), .ref (ad 194), .int (iz mk), .ref (ad 195), .int (iz tx), .ref (ad 196), .int (iz rl), .int (iz p_208), .int (iz 0), .int (iz s0), .int (iz s1), .ref (ad 197), .int (iz rm), .ref (ad 198), .ref (ad 199)]) := by rw [hg_233, gu_ne (by decide)]; exact hc_229
              have hc_235 : g_232 195 = aI κ 100 X9 := by rw [hg_233, gu_ne (by decide)]; exact hc_230
              have hc_236 : g_232 196 = aI κ 42 (vu (vu q9 (26 + (2 * (q9 25))) z_166) ((26 + (2 * (q9 25))) + 1) z_205) := by rw [hg_233]; exact gu_self _ _ _
              refine g_aload_n C dX8_part_212 rfl hl 2 rfl ?_
              refine g_get C G (pos := 192) fX8_part_19 (by omega) hc_234 rfl dX8_part_213 ?_
              refine g_bipush (a := 25) C dX8_part_216 (by decide) ?_
              refine lv_dup2_11 C.1.1 C.1.2.1 dX8_part_218 rfl rfl ?_
              refine g_iaload C G (pos := 196) (by omega) hc_236 (by omega) (by omega) (by omega) dX8_part_219 ?_
              rw [show ((vu (vu q9 (26 + (2 * (q9 25))) z_166) ((26 + (2 * (q9 25))) + 1) z_205) 25 : Int) = q9 25 from (by simp only [vu]; repeat rw [if_neg (by omega)])]
              refine g_iconst (a := 1) C dX8_part_220 rfl ?_
              refine g_iadd C dX8_part_221 ?_
              refine g_iastore C G (pos := 196) (by omega) hc_236 (by omega) (by omega) (by omega) dX8_part_222 (fun H locs G => ?_)
              obtain ⟨g_237, hg_238⟩ : ∃ g9, g9 = va_up g_232 196 (aI κ 42 (vu (vu (vu q9 (26 + (2 * (q9 25))) z_166) ((26 + (2 * (q9 25))) + 1) z_205) 25 ((q9 25) + 1))) := ⟨_, rfl⟩
              rw [← hg_238] at G
              have hc_239 : g_237 192 = .inr (8, [.ref (ad 193), .int (iz ly), .int (iz th), .ref (ad 194), .int (iz mk), .ref (ad 195), .int (iz tx), .ref (ad 196), .int (iz rl), .int (iz p_208), .int (iz 0), .int (iz s0), .int (iz s1), .ref (ad 197), .int (iz rm), .ref (ad 198), .ref (ad 199)]) := by rw [hg_238, gu_ne (by decide)]; exact hc_234
              have hc_240 : g_237 195 = aI κ 100 X9 := by rw [hg_238, gu_ne (by decide)]; exact hc_235
              have hc_241 : g_237 196 = aI κ 42 (vu (vu (vu q9 (26 + (2 * (q9 25))) z_166) ((26 + (2 * (q9 25))) + 1) z_205) 25 ((q9 25) + 1)) := by rw [hg_238]; exact gu_self _ _ _
              refine g_goto (tgt := 231) C dX8_part_223 (by decide) ?_
              refine g_vret C G hr hlk (Nat.le_of_ble_eq_true rfl) (Nat.le_of_ble_eq_true rfl) dX8_part_231 ?_
              have hF : rpS X9 tx a0 rl q9 = (true, p_208, rl, ntv q9 z_166 z_205) := by
                unfold rpS
                rw [if_neg (by omega), if_neg (by omega), if_pos (by omega), if_neg (by omega)]
                unfold rsS
                simp only [e_167, e_206]
                rw [if_neg (by omega), if_neg (by omega)]
              rw [hF]
              refine Or.inl ⟨rfl, hc_239, hc_241.trans (congrArg (fun q => aI κ 42 q) ?_), fun x x1 x2 => by rw [hg_238, gu_ne (by omega), hg_233, gu_ne (by omega), hg_228, gu_ne (by omega), hg_201, gu_ne (by omega), hg_196, gu_ne (by omega), hg_162, gu_ne (by omega)]⟩
              rw [ntv_lt rfl (by omega), show (26 + 2 * q9 25 + 1 : Int) = 27 + 2 * q9 25 by omega]
    · refine g_aload_n C dX8_part_22 rfl hl 1 rfl ?_
      refine g_get C G (pos := 192) fX8_part_98 (by omega) hM rfl dX8_part_23 ?_
      refine g_bipush (a := 6) C dX8_part_26 (by decide) ?_
      refine g_icmp_ge (tgt := 134) C (by omega) (by decide) dX8_part_28 (by decide) (fun c_242 => ?_) (fun c_242 => ?_)
      · refine g_iload_n C dX8_part_134 rfl hl 0 rfl ?_
        refine g_bipush (a := 115) C dX8_part_135 (by decide) ?_
        refine g_icmp_ne (tgt := 226) C (by omega) (by decide) dX8_part_137 (by decide) (fun c_243 => ?_) (fun c_243 => absurd c_243 (by omega))
        refine g_aload_n C dX8_part_226 rfl hl 1 rfl ?_
        refine g_iconst (a := 1) C dX8_part_227 rfl ?_
        refine g_put C G (pos := 192) (fs' := [.ref (ad 193), .int (iz ly), .int (iz th), .ref (ad 194), .int (iz mk), .ref (ad 195), .int (iz tx), .ref (ad 196), .int (iz rl), .int (iz a0), .int (iz 1), .int (iz s0), .int (iz s1), .ref (ad 197), .int (iz rm), .ref (ad 198), .ref (ad 199)]) fwX8_part_89 (by omega) hM (Nat.le_of_ble_eq_true rfl) rfl (gnar_z (by decide)) rfl dX8_part_228 (fun H locs G => ?_)
        obtain ⟨g_244, hg_245⟩ : ∃ g9, g9 = va_up g 192 (.inr (8, [.ref (ad 193), .int (iz ly), .int (iz th), .ref (ad 194), .int (iz mk), .ref (ad 195), .int (iz tx), .ref (ad 196), .int (iz rl), .int (iz a0), .int (iz 1), .int (iz s0), .int (iz s1), .ref (ad 197), .int (iz rm), .ref (ad 198), .ref (ad 199)])) := ⟨_, rfl⟩
        rw [← hg_245] at G
        have hc_246 : g_244 192 = .inr (8, [.ref (ad 193), .int (iz ly), .int (iz th), .ref (ad 194), .int (iz mk), .ref (ad 195), .int (iz tx), .ref (ad 196), .int (iz rl), .int (iz a0), .int (iz 1), .int (iz s0), .int (iz s1), .ref (ad 197), .int (iz rm), .ref (ad 198), .ref (ad 199)]) := by rw [hg_245]; exact gu_self _ _ _
        have hc_247 : g_244 195 = aI κ 100 X9 := by rw [hg_245, gu_ne (by decide)]; exact hT
        have hc_248 : g_244 196 = aI κ 42 q9 := by rw [hg_245, gu_ne (by decide)]; exact hRd
        refine g_vret C G hr hlk (Nat.le_of_ble_eq_true rfl) (Nat.le_of_ble_eq_true rfl) dX8_part_231 ?_
        have hF : rpS X9 tx a0 rl q9 = (false, a0, rl, q9) := by
          unfold rpS
          repeat' split
          all_goals first | rfl | (exfalso; omega)
        rw [hF]
        exact Or.inr ⟨rfl, _, _, hc_246, hc_248, hokR.2, fun x x1 x2 => by rw [hg_245, gu_ne (by omega)]⟩
      · refine g_aload_n C dX8_part_31 rfl hl 1 rfl ?_
        refine lv_dup C.1.1 C.1.2.1 dX8_part_32 rfl ?_
        refine g_get C G (pos := 192) fX8_part_93 (by omega) hM rfl dX8_part_33 ?_
        refine g_iconst (a := 1) C dX8_part_36 rfl ?_
        refine g_iadd C dX8_part_37 ?_
        refine g_put C G (pos := 192) (fs' := [.ref (ad 193), .int (iz ly), .int (iz th), .ref (ad 194), .int (iz mk), .ref (ad 195), .int (iz tx), .ref (ad 196), .int (iz rl), .int (iz (a0 + 1)), .int (iz 0), .int (iz s0), .int (iz s1), .ref (ad 197), .int (iz rm), .ref (ad 198), .ref (ad 199)]) fwX8_part_93 (by omega) hM (Nat.le_of_ble_eq_true rfl) rfl rfl rfl dX8_part_38 (fun H locs G => ?_)
        obtain ⟨g_249, hg_250⟩ : ∃ g9, g9 = va_up g 192 (.inr (8, [.ref (ad 193), .int (iz ly), .int (iz th), .ref (ad 194), .int (iz mk), .ref (ad 195), .int (iz tx), .ref (ad 196), .int (iz rl), .int (iz (a0 + 1)), .int (iz 0), .int (iz s0), .int (iz s1), .ref (ad 197), .int (iz rm), .ref (ad 198), .ref (ad 199)])) := ⟨_, rfl⟩
        rw [← hg_250] at G
        have hc_251 : g_249 192 = .inr (8, [.ref (ad 193), .int (iz ly), .int (iz th), .ref (ad 194), .int (iz mk), .ref (ad 195), .int (iz tx), .ref (ad 196), .int (iz rl), .int (iz (a0 + 1)), .int (iz 0), .int (iz s0), .int (iz s1), .ref (ad 197), .int (iz rm), .ref (ad 198), .ref (ad 199)]) := by rw [hg_250]; exact gu_self _ _ _
        have hc_252 : g_249 195 = aI κ 100 X9 := by rw [hg_250, gu_ne (by decide)]; exact hT
        have hc_253 : g_249 196 = aI κ 42 q9 := by rw [hg_250, gu_ne (by decide)]; exact hRd
        refine g_iconst (a := 4) C dX8_part_41 rfl ?_
        refine g_aload_n C dX8_part_42 rfl hl 1 rfl ?_
        refine g_get C G (pos := 192) fX8_part_98 (by omega) hc_251 rfl dX8_part_43 ?_
        refine g_imul C dX8_part_46 ?_
        refine lv_istore_n (lv' := [(2, .int (iz (4 * rl))), (1, .int (iz (X9 a0))), (0, .ref (ad 192))]) C.1.1 C.1.2.1 dX8_part_47 rfl hl (by decide) rfl (fun ls hl => ?_)
        refine g_aload_n C dX8_part_48 rfl hl 2 rfl ?_
        refine g_get C G (pos := 192) fX8_part_19 (by omega) hc_251 rfl dX8_part_49 ?_
        refine g_iload_n C dX8_part_52 rfl hl 0 rfl ?_
        refine g_iconst (a := 1) C dX8_part_53 rfl ?_
        refine g_iadd C dX8_part_54 ?_
        refine g_aload_n C dX8_part_55 rfl hl 2 rfl ?_
        refine g_iconst (a := 2) C dX8_part_56 rfl ?_
        refine g_iconst (a := 5) C dX8_part_57 rfl ?_
        refine g_bipush (a := 60) C dX8_part_58 (by decide) ?_
        refine g_ci C G (g_runV (As := [.int (iz 2), .int (iz 5), .int (iz 60)]) (rest := [.int (iz ((4 * rl) + 1)), .ref (ad 196)]) (pos := 192) C G (c_X8_number l κ B n ad g_249 ly th mk tx rl (a0 + 1) 0 s0 s1 rm X9 2 5 60 hn8 hc_251 hc_252 rfl (by omega) (by omega) htx (by omega) hTx) (cwV 3 C.1.2.2.2.2 gX8_part_X8_number rfl rfl rfl (by decide +kernel) ⟨Nat.le_of_ble_eq_true rfl, Nat.le_of_ble_eq_true rfl⟩) (by omega) hc_251 (T := TX8) (N := 17) rfl rfl hl rfl (Nat.le_of_ble_eq_true rfl) dX8_part_60 ⟨Nat.le_of_ble_eq_true rfl, Nat.le_of_ble_eq_true rfl⟩) (fun z_254 g9 H locs hw9 G => ?_)
        have hr_258 := rd_range (T9 := X9) (L9 := tx) (lo := 5) (hi := 60) (dg := 2) (q := a0 + 1) (by omega) (by omega) (by omega)
        obtain ⟨r_256, p_257, e_255⟩ : ∃ r9 p9, rd X9 tx 5 60 2 (a0 + 1) = (r9, p9) := ⟨_, _, rfl⟩
        rw [e_255] at hw9 hr_258
        dsimp only at hw9 hr_258
        rcases hw9 with hw9 | hw9
        · obtain ⟨hq_259, hw, hq_259z⟩ := hw9
          subst hw
          obtain ⟨g_260, hg_261⟩ : ∃ g9, g9 = va_up g_249 192 (.inr (8, [.ref (ad 193), .int (iz ly), .int (iz th), .ref (ad 194), .int (iz mk), .ref (ad 195), .int (iz tx), .ref (ad 196), .int (iz rl), .int (iz p_257), .int (iz 1), .int (iz s0), .int (iz s1), .ref (ad 197), .int (iz rm), .ref (ad 198), .ref (ad 199)])) := ⟨_, rfl⟩
          rw [← hg_261] at G
          have hc_262 : g_260 192 = .inr (8, [.ref (ad 193), .int (iz ly), .int (iz th), .ref (ad 194), .int (iz mk), .ref (ad 195), .int (iz tx), .ref (ad 196), .int (iz rl), .int (iz p_257), .int (iz 1), .int (iz s0), .int (iz s1), .ref (ad 197), .int (iz rm), .ref (ad 198), .ref (ad 199)]) := by rw [hg_261]; exact gu_self _ _ _
          have hc_263 : g_260 195 = aI κ 100 X9 := by rw [hg_261, gu_ne (by decide)]; exact hc_252
          have hc_264 : g_260 196 = aI κ 42 q9 := by rw [hg_261, gu_ne (by decide)]; exact hc_253
          refine g_iastore C G (pos := 196) (by omega) hc_264 (by omega) (by omega) (by omega) dX8_part_63 (fun H locs G => ?_)
          obtain ⟨g_265, hg_266⟩ : ∃ g9, g9 = va_up g_260 196 (aI κ 42 (vu q9 ((4 * rl) + 1) z_254)) := ⟨_, rfl⟩
          rw [← hg_266] at G
          have hc_267 : g_265 192 = .inr (8, [.ref (ad 193), .int (iz ly), .int (iz th), .ref (ad 194), .int (iz mk), .ref (ad 195), .int (iz tx), .ref (ad 196), .int (iz rl), .int (iz p_257), .int (iz 1), .int (iz s0), .int (iz s1), .ref (ad 197), .int (iz rm), .ref (ad 198), .ref (ad 199)]) := by rw [hg_266, gu_ne (by decide)]; exact hc_262
          have hc_268 : g_265 195 = aI κ 100 X9 := by rw [hg_266, gu_ne (by decide)]; exact hc_263
          have hc_269 : g_265 196 = aI κ 42 (vu q9 ((4 * rl) + 1) z_254) := by rw [hg_266]; exact gu_self _ _ _
          refine g_aload_n C dX8_part_64 rfl hl 2 rfl ?_
          refine g_get C G (pos := 192) fX8_part_19 (by omega) hc_267 rfl dX8_part_65 ?_
          refine g_iload_n C dX8_part_68 rfl hl 0 rfl ?_
          refine g_iconst (a := 2) C dX8_part_69 rfl ?_
          refine g_iadd C dX8_part_70 ?_
          refine g_iload_n C dX8_part_71 rfl hl 1 rfl ?_
          refine g_bipush (a := 105) C dX8_part_72 (by decide) ?_
          refine g_icmp_ne (tgt := 81) C (by omega) (by decide) dX8_part_74 (by decide) (fun c_270 => ?_) (fun c_270 => absurd c_270 (by omega))
          refine g_iconst (a := 1) C dX8_part_81 rfl ?_
          refine g_iastore C G (pos := 196) (by omega) hc_269 (by omega) (by omega) (by omega) dX8_part_82 (fun H locs G => ?_)
          obtain ⟨g_271, hg_272⟩ : ∃ g9, g9 = va_up g_265 196 (aI κ 42 (vu (vu q9 ((4 * rl) + 1) z_254) ((4 * rl) + 2) 1)) := ⟨_, rfl⟩
          rw [← hg_272] at G
          have hc_273 : g_271 192 = .inr (8, [.ref (ad 193), .int (iz ly), .int (iz th), .ref (ad 194), .int (iz mk), .ref (ad 195), .int (iz tx), .ref (ad 196), .int (iz rl), .int (iz p_257), .int (iz 1), .int (iz s0), .int (iz s1), .ref (ad 197), .int (iz rm), .ref (ad 198), .ref (ad 199)]) := by rw [hg_272, gu_ne (by decide)]; exact hc_267
          have hc_274 : g_271 195 = aI κ 100 X9 := by rw [hg_272, gu_ne (by decide)]; exact hc_268
          have hc_275 : g_271 196 = aI κ 42 (vu (vu q9 ((4 * rl) + 1) z_254) ((4 * rl) + 2) 1) := by rw [hg_272]; exact gu_self _ _ _
          refine g_aload_n C dX8_part_83 rfl hl 2 rfl ?_
          refine g_get C G (pos := 192) fX8_part_19 (by omega) hc_273 rfl dX8_part_84 ?_
          refine g_iload_n C dX8_part_87 rfl hl 0 rfl ?_
          refine g_iconst (a := 3) C dX8_part_88 rfl ?_
          refine g_iadd C dX8_part_89 ?_
          refine g_aload_n C dX8_part_90 rfl hl 2 rfl ?_
          refine g_iconst (a := 2) C dX8_part_91 rfl ?_
          refine g_iconst (a := 0) C dX8_part_92 rfl ?_
          refine g_bipush (a := 20) C dX8_part_93 (by decide) ?_
          refine g_ci C G (g_runV (As := [.int (iz 2), .int (iz 0), .int (iz 20)]) (rest := [.int (iz ((4 * rl) + 3)), .ref (ad 196)]) (pos := 192) C G (c_X8_number1 l κ B n ad g_271 ly th mk tx rl p_257 1 s0 s1 rm 2 0 20 hn8 hc_273 rfl (by omega)) (cwV 3 C.1.2.2.2.2 gX8_part_X8_number rfl rfl rfl (by decide +kernel) ⟨Nat.le_of_ble_eq_true rfl, Nat.le_of_ble_eq_true rfl⟩) (by omega) hc_273 (T := TX8) (N := 17) rfl rfl hl rfl (Nat.le_of_ble_eq_true rfl) dX8_part_95 ⟨Nat.le_of_ble_eq_true rfl, Nat.le_of_ble_eq_true rfl⟩) (fun z_276 g9 H locs hw G => ?_)
          obtain ⟨hg9, h_277⟩ := hw
          replace hg9 := hg9.symm
          subst hg9
          refine g_iastore C G (pos := 196) (by omega) hc_275 (by omega) (by omega) (by omega) dX8_part_98 (fun H locs G => ?_)
          obtain ⟨g_278, hg_279⟩ : ∃ g9, g9 = va_up g_271 196 (aI κ 42 (vu (vu (vu q9 ((4 * rl) + 1) z_254) ((4 * rl) + 2) 1) ((4 * rl) + 3) z_276)) := ⟨_, rfl⟩
          rw [← hg_279] at G
          have hc_280 : g_278 192 = .inr (8, [.ref (ad 193), .int (iz ly), .int (iz th), .ref (ad 194), .int (iz mk), .ref (ad 195), .int (iz tx), .ref (ad 196), .int (iz rl), .int (iz p_257), .int (iz 1), .int (iz s0), .int (iz s1), .ref (ad 197), .int (iz rm), .ref (ad 198), .ref (ad 199)]) := by rw [hg_279, gu_ne (by decide)]; exact hc_273
          have hc_281 : g_278 195 = aI κ 100 X9 := by rw [hg_279, gu_ne (by decide)]; exact hc_274
          have hc_282 : g_278 196 = aI κ 42 (vu (vu (vu q9 ((4 * rl) + 1) z_254) ((4 * rl) + 2) 1) ((4 * rl) + 3) z_276) := by rw [hg_279]; exact gu_self _ _ _
          refine g_aload_n C dX8_part_99 rfl hl 2 rfl ?_
          refine g_get C G (pos := 192) fX8_part_19 (by omega) hc_280 rfl dX8_part_100 ?_
          refine g_iload_n C dX8_part_103 rfl hl 0 rfl ?_
          refine g_iconst (a := 4) C dX8_part_104 rfl ?_
          refine g_iadd C dX8_part_105 ?_
          refine g_aload_n C dX8_part_106 rfl hl 2 rfl ?_
          refine g_iconst (a := 2) C dX8_part_107 rfl ?_
          refine g_iconst (a := 0) C dX8_part_108 rfl ?_
          refine g_aload_n C dX8_part_109 rfl hl 2 rfl ?_
          refine g_get C G (pos := 192) fX8_part_19 (by omega) hc_280 rfl dX8_part_110 ?_
          refine g_iconst (a := 0) C dX8_part_113 rfl ?_
          refine g_iaload C G (pos := 196) (by omega) hc_282 (by omega) (by omega) (by omega) dX8_part_114 ?_
          rw [show ((vu (vu (vu q9 ((4 * rl) + 1) z_254) ((4 * rl) + 2) 1) ((4 * rl) + 3) z_276) 0 : Int) = q9 0 from (by simp only [vu]; repeat rw [if_neg (by omega)])]
          refine g_iconst (a := 1) C dX8_part_115 rfl ?_
          refine g_isub C dX8_part_116 ?_
          refine g_ci C G (g_runV (As := [.int (iz 2), .int (iz 0), .int (iz ((q9 0) - 1))]) (rest := [.int (iz ((4 * rl) + 4)), .ref (ad 196)]) (pos := 192) C G (c_X8_number1 l κ B n ad g_278 ly th mk tx rl p_257 1 s0 s1 rm 2 0 ((q9 0) - 1) hn8 hc_280 rfl (by omega)) (cwV 3 C.1.2.2.2.2 gX8_part_X8_number rfl rfl rfl (by decide +kernel) ⟨Nat.le_of_ble_eq_true rfl, Nat.le_of_ble_eq_true rfl⟩) (by omega) hc_280 (T := TX8) (N := 17) rfl rfl hl rfl (Nat.le_of_ble_eq_true rfl) dX8_part_117 ⟨Nat.le_of_ble_eq_true rfl, Nat.le_of_ble_eq_true rfl⟩) (fun z_283 g9 H locs hw G => ?_)
          obtain ⟨hg9, h_284⟩ := hw
          replace hg9 := hg9.symm
          subst hg9
          refine g_iastore C G (pos := 196) (by omega) hc_282 (by omega) (by omega) (by omega) dX8_part_120 (fun H locs G => ?_)
          obtain ⟨g_285, hg_286⟩ : ∃ g9, g9 = va_up g_278 196 (aI κ 42 (vu (vu (vu (vu q9 ((4 * rl) + 1) z_254) ((4 * rl) + 2) 1) ((4 * rl) + 3) z_276) ((4 * rl) + 4) z_283)) := ⟨_, rfl⟩
          rw [← hg_286] at G
          have hc_287 : g_285 192 = .inr (8, [.ref (ad 193), .int (iz ly), .int (iz th), .ref (ad 194), .int (iz mk), .ref (ad 195), .int (iz tx), .ref (ad 196), .int (iz rl), .int (iz p_257), .int (iz 1), .int (iz s0), .int (iz s1), .ref (ad 197), .int (iz rm), .ref (ad 198), .ref (ad 199)]) := by rw [hg_286, gu_ne (by decide)]; exact hc_280
          have hc_288 : g_285 195 = aI κ 100 X9 := by rw [hg_286, gu_ne (by decide)]; exact hc_281
          have hc_289 : g_285 196 = aI κ 42 (vu (vu (vu (vu q9 ((4 * rl) + 1) z_254) ((4 * rl) + 2) 1) ((4 * rl) + 3) z_276) ((4 * rl) + 4) z_283) := by rw [hg_286]; exact gu_self _ _ _
          refine g_aload_n C dX8_part_121 rfl hl 2 rfl ?_
          refine lv_dup C.1.1 C.1.2.1 dX8_part_122 rfl ?_
          refine g_get C G (pos := 192) fX8_part_98 (by omega) hc_287 rfl dX8_part_123 ?_
          refine g_iconst (a := 1) C dX8_part_126 rfl ?_
          refine g_iadd C dX8_part_127 ?_
          refine g_put C G (pos := 192) (fs' := [.ref (ad 193), .int (iz ly), .int (iz th), .ref (ad 194), .int (iz mk), .ref (ad 195), .int (iz tx), .ref (ad 196), .int (iz (rl + 1)), .int (iz p_257), .int (iz 1), .int (iz s0), .int (iz s1), .ref (ad 197), .int (iz rm), .ref (ad 198), .ref (ad 199)]) fwX8_part_98 (by omega) hc_287 (Nat.le_of_ble_eq_true rfl) rfl rfl rfl dX8_part_128 (fun H locs G => ?_)
          obtain ⟨g_290, hg_291⟩ : ∃ g9, g9 = va_up g_285 192 (.inr (8, [.ref (ad 193), .int (iz ly), .int (iz th), .ref (ad 194), .int (iz mk), .ref (ad 195), .int (iz tx), .ref (ad 196), .int (iz (rl + 1)), .int (iz p_257), .int (iz 1), .int (iz s0), .int (iz s1), .ref (ad 197), .int (iz rm), .ref (ad 198), .ref (ad 199)])) := ⟨_, rfl⟩
          rw [← hg_291] at G
          have hc_292 : g_290 192 = .inr (8, [.ref (ad 193), .int (iz ly), .int (iz th), .ref (ad 194), .int (iz mk), .ref (ad 195), .int (iz tx), .ref (ad 196), .int (iz (rl + 1)), .int (iz p_257), .int (iz 1), .int (iz s0), .int (iz s1), .ref (ad 197), .int (iz rm), .ref (ad 198), .ref (ad 199)]) := by rw [hg_291]; exact gu_self _ _ _
          have hc_293 : g_290 195 = aI κ 100 X9 := by rw [hg_291, gu_ne (by decide)]; exact hc_288
          have hc_294 : g_290 196 = aI κ 42 (vu (vu (vu (vu q9 ((4 * rl) + 1) z_254) ((4 * rl) + 2) 1) ((4 * rl) + 3) z_276) ((4 * rl) + 4) z_283) := by rw [hg_291, gu_ne (by decide)]; exact hc_289
          refine g_goto (tgt := 231) C dX8_part_131 (by decide) ?_
          refine g_vret C G hr hlk (Nat.le_of_ble_eq_true rfl) (Nat.le_of_ble_eq_true rfl) dX8_part_231 ?_
          have hF : rpS X9 tx a0 rl q9 = (false, p_257, rl, q9) := by
            unfold rpS
            rw [if_neg (by omega), if_pos (by omega), if_neg (by omega)]
            unfold rlS
            simp only [e_255]
            rw [if_pos (by omega)]
          rw [hF]
          exact Or.inr ⟨rfl, _, _, hc_292, hc_294, ((((hokR.2.vu (by omega)).vu (by omega)).vu (by omega)).vu (by omega)), fun x x1 x2 => by rw [hg_291, gu_ne (by omega), hg_286, gu_ne (by omega), hg_279, gu_ne (by omega), hg_272, gu_ne (by omega), hg_266, gu_ne (by omega), hg_261, gu_ne (by omega), hg_250, gu_ne (by omega)]⟩
        · obtain ⟨hq_295, hw, hq_295z⟩ := hw9
          subst hw
          subst hq_295z
          obtain ⟨g_296, hg_297⟩ : ∃ g9, g9 = va_up g_249 192 (.inr (8, [.ref (ad 193), .int (iz ly), .int (iz th), .ref (ad 194), .int (iz mk), .ref (ad 195), .int (iz tx), .ref (ad 196), .int (iz rl), .int (iz p_257), .int (iz 0), .int (iz s0), .int (iz s1), .ref (ad 197), .int (iz rm), .ref (ad 198), .ref (ad 199)])) := ⟨_, rfl⟩
          rw [← hg_297] at G
          have hc_298 : g_296 192 = .inr (8, [.ref (ad 193), .int (iz ly), .int (iz th), .ref (ad 194), .int (iz mk), .ref (ad 195), .int (iz tx), .ref (ad 196), .int (iz rl), .int (iz p_257), .int (iz 0), .int (iz s0), .int (iz s1), .ref (ad 197), .int (iz rm), .ref (ad 198), .ref (ad 199)]) := by rw [hg_297]; exact gu_self _ _ _
          have hc_299 : g_296 195 = aI κ 100 X9 := by rw [hg_297, gu_ne (by decide)]; exact hc_252
          have hc_300 : g_296 196 = aI κ 42 q9 := by rw [hg_297, gu_ne (by decide)]; exact hc_253
          refine g_iastore C G (pos := 196) (by omega) hc_300 (by omega) (by omega) (by omega) dX8_part_63 (fun H locs G => ?_)
          obtain ⟨g_301, hg_302⟩ : ∃ g9, g9 = va_up g_296 196 (aI κ 42 (vu q9 ((4 * rl) + 1) z_254)) := ⟨_, rfl⟩
          rw [← hg_302] at G
          have hc_303 : g_301 192 = .inr (8, [.ref (ad 193), .int (iz ly), .int (iz th), .ref (ad 194), .int (iz mk), .ref (ad 195), .int (iz tx), .ref (ad 196), .int (iz rl), .int (iz p_257), .int (iz 0), .int (iz s0), .int (iz s1), .ref (ad 197), .int (iz rm), .ref (ad 198), .ref (ad 199)]) := by rw [hg_302, gu_ne (by decide)]; exact hc_298
          have hc_304 : g_301 195 = aI κ 100 X9 := by rw [hg_302, gu_ne (by decide)]; exact hc_299
          have hc_305 : g_301 196 = aI κ 42 (vu q9 ((4 * rl) + 1) z_254) := by rw [hg_302]; exact gu_self _ _ _
          refine g_aload_n C dX8_part_64 rfl hl 2 rfl ?_
          refine g_get C G (pos := 192) fX8_part_19 (by omega) hc_303 rfl dX8_part_65 ?_
          refine g_iload_n C dX8_part_68 rfl hl 0 rfl ?_
          refine g_iconst (a := 2) C dX8_part_69 rfl ?_
          refine g_iadd C dX8_part_70 ?_
          refine g_iload_n C dX8_part_71 rfl hl 1 rfl ?_
          refine g_bipush (a := 105) C dX8_part_72 (by decide) ?_
          refine g_icmp_ne (tgt := 81) C (by omega) (by decide) dX8_part_74 (by decide) (fun c_306 => ?_) (fun c_306 => absurd c_306 (by omega))
          refine g_iconst (a := 1) C dX8_part_81 rfl ?_
          refine g_iastore C G (pos := 196) (by omega) hc_305 (by omega) (by omega) (by omega) dX8_part_82 (fun H locs G => ?_)
          obtain ⟨g_307, hg_308⟩ : ∃ g9, g9 = va_up g_301 196 (aI κ 42 (vu (vu q9 ((4 * rl) + 1) z_254) ((4 * rl) + 2) 1)) := ⟨_, rfl⟩
          rw [← hg_308] at G
          have hc_309 : g_307 192 = .inr (8, [.ref (ad 193), .int (iz ly), .int (iz th), .ref (ad 194), .int (iz mk), .ref (ad 195), .int (iz tx), .ref (ad 196), .int (iz rl), .int (iz p_257), .int (iz 0), .int (iz s0), .int (iz s1), .ref (ad 197), .int (iz rm), .ref (ad 198), .ref (ad 199)]) := by rw [hg_308, gu_ne (by decide)]; exact hc_303
          have hc_310 : g_307 195 = aI κ 100 X9 := by rw [hg_308, gu_ne (by decide)]; exact hc_304
          have hc_311 : g_307 196 = aI κ 42 (vu (vu q9 ((4 * rl) + 1) z_254) ((4 * rl) + 2) 1) := by rw [hg_308]; exact gu_self _ _ _
          refine g_aload_n C dX8_part_83 rfl hl 2 rfl ?_
          refine g_get C G (pos := 192) fX8_part_19 (by omega) hc_309 rfl dX8_part_84 ?_
          refine g_iload_n C dX8_part_87 rfl hl 0 rfl ?_
          refine g_iconst (a := 3) C dX8_part_88 rfl ?_
          refine g_iadd C dX8_part_89 ?_
          refine g_aload_n C dX8_part_90 rfl hl 2 rfl ?_
          refine g_iconst (a := 2) C dX8_part_91 rfl ?_
          refine g_iconst (a := 0) C dX8_part_92 rfl ?_
          refine g_bipush (a := 20) C dX8_part_93 (by decide) ?_
          refine g_ci C G (g_runV (As := [.int (iz 2), .int (iz 0), .int (iz 20)]) (rest := [.int (iz ((4 * rl) + 3)), .ref (ad 196)]) (pos := 192) C G (c_X8_number l κ B n ad g_307 ly th mk tx rl p_257 0 s0 s1 rm X9 2 0 20 hn8 hc_309 hc_310 rfl (by omega) (by omega) htx (by omega) hTx) (cwV 3 C.1.2.2.2.2 gX8_part_X8_number rfl rfl rfl (by decide +kernel) ⟨Nat.le_of_ble_eq_true rfl, Nat.le_of_ble_eq_true rfl⟩) (by omega) hc_309 (T := TX8) (N := 17) rfl rfl hl rfl (Nat.le_of_ble_eq_true rfl) dX8_part_95 ⟨Nat.le_of_ble_eq_true rfl, Nat.le_of_ble_eq_true rfl⟩) (fun z_312 g9 H locs hw9 G => ?_)
          have hr_316 := rd_range (T9 := X9) (L9 := tx) (lo := 0) (hi := 20) (dg := 2) (q := p_257) (by omega) (by omega) (by omega)
          obtain ⟨r_314, p_315, e_313⟩ : ∃ r9 p9, rd X9 tx 0 20 2 p_257 = (r9, p9) := ⟨_, _, rfl⟩
          rw [e_313] at hw9 hr_316
          dsimp only at hw9 hr_316
          rcases hw9 with hw9 | hw9
          · obtain ⟨hq_317, hw, hq_317z⟩ := hw9
            subst hw
            obtain ⟨g_318, hg_319⟩ : ∃ g9, g9 = va_up g_307 192 (.inr (8, [.ref (ad 193), .int (iz ly), .int (iz th), .ref (ad 194), .int (iz mk), .ref (ad 195), .int (iz tx), .ref (ad 196), .int (iz rl), .int (iz p_315), .int (iz 1), .int (iz s0), .int (iz s1), .ref (ad 197), .int (iz rm), .ref (ad 198), .ref (ad 199)])) := ⟨_, rfl⟩
            rw [← hg_319] at G
            have hc_320 : g_318 192 = .inr (8, [.ref (ad 193), .int (iz ly), .int (iz th), .ref (ad 194), .int (iz mk), .ref (ad 195), .int (iz tx), .ref (ad 196), .int (iz rl), .int (iz p_315), .int (iz 1), .int (iz s0), .int (iz s1), .ref (ad 197), .int (iz rm), .ref (ad 198), .ref (ad 199)]) := by rw [hg_319]; exact gu_self _ _ _
            have hc_321 : g_318 195 = aI κ 100 X9 := by rw [hg_319, gu_ne (by decide)]; exact hc_310
            have hc_322 : g_318 196 = aI κ 42 (vu (vu q9 ((4 * rl) + 1) z_254) ((4 * rl) + 2) 1) := by rw [hg_319, gu_ne (by decide)]; exact hc_311
            refine g_iastore C G (pos := 196) (by omega) hc_322 (by omega) (by omega) (by omega) dX8_part_98 (fun H locs G => ?_)
            obtain ⟨g_323, hg_324⟩ : ∃ g9, g9 = va_up g_318 196 (aI κ 42 (vu (vu (vu q9 ((4 * rl) + 1) z_254) ((4 * rl) + 2) 1) ((4 * rl) + 3) z_312)) := ⟨_, rfl⟩
            rw [← hg_324] at G
            have hc_325 : g_323 192 = .inr (8, [.ref (ad 193), .int (iz ly), .int (iz th), .ref (ad 194), .int (iz mk), .ref (ad 195), .int (iz tx), .ref (ad 196), .int (iz rl), .int (iz p_315), .int (iz 1), .int (iz s0), .int (iz s1), .ref (ad 197), .int (iz rm), .ref (ad 198), .ref (ad 199)]) := by rw [hg_324, gu_ne (by decide)]; exact hc_320
            have hc_326 : g_323 195 = aI κ 100 X9 := by rw [hg_324, gu_ne (by decide)]; exact hc_321
            have hc_327 : g_323 196 = aI κ 42 (vu (vu (vu q9 ((4 * rl) + 1) z_254) ((4 * rl) + 2) 1) ((4 * rl) + 3) z_312) := by rw [hg_324]; exact gu_self _ _ _
            refine g_aload_n C dX8_part_99 rfl hl 2 rfl ?_
            refine g_get C G (pos := 192) fX8_part_19 (by omega) hc_325 rfl dX8_part_100 ?_
            refine g_iload_n C dX8_part_103 rfl hl 0 rfl ?_
            refine g_iconst (a := 4) C dX8_part_104 rfl ?_
            refine g_iadd C dX8_part_105 ?_
            refine g_aload_n C dX8_part_106 rfl hl 2 rfl ?_
            refine g_iconst (a := 2) C dX8_part_107 rfl ?_
            refine g_iconst (a := 0) C dX8_part_108 rfl ?_
            refine g_aload_n C dX8_part_109 rfl hl 2 rfl ?_
            refine g_get C G (pos := 192) fX8_part_19 (by omega) hc_325 rfl dX8_part_110 ?_
            refine g_iconst (a := 0) C dX8_part_113 rfl ?_
            refine g_iaload C G (pos := 196) (by omega) hc_327 (by omega) (by omega) (by omega) dX8_part_114 ?_
            rw [show ((vu (vu (vu q9 ((4 * rl) + 1) z_254) ((4 * rl) + 2) 1) ((4 * rl) + 3) z_312) 0 : Int) = q9 0 from (by simp only [vu]; repeat rw [if_neg (by omega)])]
            refine g_iconst (a := 1) C dX8_part_115 rfl ?_
            refine g_isub C dX8_part_116 ?_
            refine g_ci C G (g_runV (As := [.int (iz 2), .int (iz 0), .int (iz ((q9 0) - 1))]) (rest := [.int (iz ((4 * rl) + 4)), .ref (ad 196)]) (pos := 192) C G (c_X8_number1 l κ B n ad g_323 ly th mk tx rl p_315 1 s0 s1 rm 2 0 ((q9 0) - 1) hn8 hc_325 rfl (by omega)) (cwV 3 C.1.2.2.2.2 gX8_part_X8_number rfl rfl rfl (by decide +kernel) ⟨Nat.le_of_ble_eq_true rfl, Nat.le_of_ble_eq_true rfl⟩) (by omega) hc_325 (T := TX8) (N := 17) rfl rfl hl rfl (Nat.le_of_ble_eq_true rfl) dX8_part_117 ⟨Nat.le_of_ble_eq_true rfl, Nat.le_of_ble_eq_true rfl⟩) (fun z_328 g9 H locs hw G => ?_)
            obtain ⟨hg9, h_329⟩ := hw
            replace hg9 := hg9.symm
            subst hg9
            refine g_iastore C G (pos := 196) (by omega) hc_327 (by omega) (by omega) (by omega) dX8_part_120 (fun H locs G => ?_)
            obtain ⟨g_330, hg_331⟩ : ∃ g9, g9 = va_up g_323 196 (aI κ 42 (vu (vu (vu (vu q9 ((4 * rl) + 1) z_254) ((4 * rl) + 2) 1) ((4 * rl) + 3) z_312) ((4 * rl) + 4) z_328)) := ⟨_, rfl⟩
            rw [← hg_331] at G
            have hc_332 : g_330 192 = .inr (8, [.ref (ad 193), .int (iz ly), .int (iz th), .ref (ad 194), .int (iz mk), .ref (ad 195), .int (iz tx), .ref (ad 196), .int (iz rl), .int (iz p_315), .int (iz 1), .int (iz s0), .int (iz s1), .ref (ad 197), .int (iz rm), .ref (ad 198), .ref (ad 199)]) := by rw [hg_331, gu_ne (by decide)]; exact hc_325
            have hc_333 : g_330 195 = aI κ 100 X9 := by rw [hg_331, gu_ne (by decide)]; exact hc_326
            have hc_334 : g_330 196 = aI κ 42 (vu (vu (vu (vu q9 ((4 * rl) + 1) z_254) ((4 * rl) + 2) 1) ((4 * rl) + 3) z_312) ((4 * rl) + 4) z_328) := by rw [hg_331]; exact gu_self _ _ _
            refine g_aload_n C dX8_part_121 rfl hl 2 rfl ?_
            refine lv_dup C.1.1 C.1.2.1 dX8_part_122 rfl ?_
            refine g_get C G (pos := 192) fX8_part_98 (by omega) hc_332 rfl dX8_part_123 ?_
            refine g_iconst (a := 1) C dX8_part_126 rfl ?_
            refine g_iadd C dX8_part_127 ?_
            refine g_put C G (pos := 192) (fs' := [.ref (ad 193), .int (iz ly), .int (iz th), .ref (ad 194), .int (iz mk), .ref (ad 195), .int (iz tx), .ref (ad 196), .int (iz (rl + 1)), .int (iz p_315), .int (iz 1), .int (iz s0), .int (iz s1), .ref (ad 197), .int (iz rm), .ref (ad 198), .ref (ad 199)]) fwX8_part_98 (by omega) hc_332 (Nat.le_of_ble_eq_true rfl) rfl rfl rfl dX8_part_128 (fun H locs G => ?_)
            obtain ⟨g_335, hg_336⟩ : ∃ g9, g9 = va_up g_330 192 (.inr (8, [.ref (ad 193), .int (iz ly), .int (iz th), .ref (ad 194), .int (iz mk), .ref (ad 195), .int (iz tx), .ref (ad 196), .int (iz (rl + 1)), .int (iz p_315), .int (iz 1), .int (iz s0), .int (iz s1), .ref (ad 197), .int (iz rm), .ref (ad 198), .ref (ad 199)])) := ⟨_, rfl⟩
            rw [← hg_336] at G
            have hc_337 : g_335 192 = .inr (8, [.ref (ad 193), .int (iz ly), .int (iz th), .ref (ad 194), .int (iz mk), .ref (ad 195), .int (iz tx), .ref (ad 196), .int (iz (rl + 1)), .int (iz p_315), .int (iz 1), .int (iz s0), .int (iz s1), .ref (ad 197), .int (iz rm), .ref (ad 198), .ref (ad 199)]) := by rw [hg_336]; exact gu_self _ _ _
            have hc_338 : g_335 195 = aI κ 100 X9 := by rw [hg_336, gu_ne (by decide)]; exact hc_333
            have hc_339 : g_335 196 = aI κ 42 (vu (vu (vu (vu q9 ((4 * rl) + 1) z_254) ((4 * rl) + 2) 1) ((4 * rl) + 3) z_312) ((4 * rl) + 4) z_328) := by rw [hg_336, gu_ne (by decide)]; exact hc_334
            refine g_goto (tgt := 231) C dX8_part_131 (by decide) ?_
            refine g_vret C G hr hlk (Nat.le_of_ble_eq_true rfl) (Nat.le_of_ble_eq_true rfl) dX8_part_231 ?_
            have hF : rpS X9 tx a0 rl q9 = (false, p_315, rl, q9) := by
              unfold rpS
              rw [if_neg (by omega), if_pos (by omega), if_neg (by omega)]
              unfold rlS
              simp only [e_255, e_313]
              rw [if_neg (by omega)]
              rw [if_pos (by omega)]
            rw [hF]
            exact Or.inr ⟨rfl, _, _, hc_337, hc_339, ((((hokR.2.vu (by omega)).vu (by omega)).vu (by omega)).vu (by omega)), fun x x1 x2 => by rw [hg_336, gu_ne (by omega), hg_331, gu_ne (by omega), hg_324, gu_ne (by omega), hg_319, gu_ne (by omega), hg_308, gu_ne (by omega), hg_302, gu_ne (by omega), hg_297, gu_ne (by omega), hg_250, gu_ne (by omega)]⟩
          · obtain ⟨hq_340, hw, hq_340z⟩ := hw9
            subst hw
            subst hq_340z
            obtain ⟨g_341, hg_342⟩ : ∃ g9, g9 = va_up g_307 192 (.inr (8, [.ref (ad 193), .int (iz ly), .int (iz th), .ref (ad 194), .int (iz mk), .ref (ad 195), .int (iz tx), .ref (ad 196), .int (iz rl), .int (iz p_315), .int (iz 0), .int (iz s0), .int (iz s1), .ref (ad 197), .int (iz rm), .ref (ad 198), .ref (ad 199)])) := ⟨_, rfl⟩
            rw [← hg_342] at G
            have hc_343 : g_341 192 = .inr (8, [.ref (ad 193), .int (iz ly), .int (iz th), .ref (ad 194), .int (iz mk), .ref (ad 195), .int (iz tx), .ref (ad 196), .int (iz rl), .int (iz p_315), .int (iz 0), .int (iz s0), .int (iz s1), .ref (ad 197), .int (iz rm), .ref (ad 198), .ref (ad 199)]) := by rw [hg_342]; exact gu_self _ _ _
            have hc_344 : g_341 195 = aI κ 100 X9 := by rw [hg_342, gu_ne (by decide)]; exact hc_310
            have hc_345 : g_341 196 = aI κ 42 (vu (vu q9 ((4 * rl) + 1) z_254) ((4 * rl) + 2) 1) := by rw [hg_342, gu_ne (by decide)]; exact hc_311
            refine g_iastore C G (pos := 196) (by omega) hc_345 (by omega) (by omega) (by omega) dX8_part_98 (fun H locs G => ?_)
            obtain ⟨g_346, hg_347⟩ : ∃ g9, g9 = va_up g_341 196 (aI κ 42 (vu (vu (vu q9 ((4 * rl) + 1) z_254) ((4 * rl) + 2) 1) ((4 * rl) + 3) z_312)) := ⟨_, rfl⟩
            rw [← hg_347] at G
            have hc_348 : g_346 192 = .inr (8, [.ref (ad 193), .int (iz ly), .int (iz th), .ref (ad 194), .int (iz mk), .ref (ad 195), .int (iz tx), .ref (ad 196), .int (iz rl), .int (iz p_315), .int (iz 0), .int (iz s0), .int (iz s1), .ref (ad 197), .int (iz rm), .ref (ad 198), .ref (ad 199)]) := by rw [hg_347, gu_ne (by decide)]; exact hc_343
            have hc_349 : g_346 195 = aI κ 100 X9 := by rw [hg_347, gu_ne (by decide)]; exact hc_344
            have hc_350 : g_346 196 = aI κ 42 (vu (vu (vu q9 ((4 * rl) + 1) z_254) ((4 * rl) + 2) 1) ((4 * rl) + 3) z_312) := by rw [hg_347]; exact gu_self _ _ _
            refine g_aload_n C dX8_part_99 rfl hl 2 rfl ?_
            refine g_get C G (pos := 192) fX8_part_19 (by omega) hc_348 rfl dX8_part_100 ?_
            refine g_iload_n C dX8_part_103 rfl hl 0 rfl ?_
            refine g_iconst (a := 4) C dX8_part_104 rfl ?_
            refine g_iadd C dX8_part_105 ?_
            refine g_aload_n C dX8_part_106 rfl hl 2 rfl ?_
            refine g_iconst (a := 2) C dX8_part_107 rfl ?_
            refine g_iconst (a := 0) C dX8_part_108 rfl ?_
            refine g_aload_n C dX8_part_109 rfl hl 2 rfl ?_
            refine g_get C G (pos := 192) fX8_part_19 (by omega) hc_348 rfl dX8_part_110 ?_
            refine g_iconst (a := 0) C dX8_part_113 rfl ?_
            refine g_iaload C G (pos := 196) (by omega) hc_350 (by omega) (by omega) (by omega) dX8_part_114 ?_
            rw [show ((vu (vu (vu q9 ((4 * rl) + 1) z_254) ((4 * rl) + 2) 1) ((4 * rl) + 3) z_312) 0 : Int) = q9 0 from (by simp only [vu]; repeat rw [if_neg (by omega)])]
            refine g_iconst (a := 1) C dX8_part_115 rfl ?_
            refine g_isub C dX8_part_116 ?_
            refine g_ci C G (g_runV (As := [.int (iz 2), .int (iz 0), .int (iz ((q9 0) - 1))]) (rest := [.int (iz ((4 * rl) + 4)), .ref (ad 196)]) (pos := 192) C G (c_X8_number l κ B n ad g_346 ly th mk tx rl p_315 0 s0 s1 rm X9 2 0 ((q9 0) - 1) hn8 hc_348 hc_349 rfl (by omega) (by omega) htx (by omega) hTx) (cwV 3 C.1.2.2.2.2 gX8_part_X8_number rfl rfl rfl (by decide +kernel) ⟨Nat.le_of_ble_eq_true rfl, Nat.le_of_ble_eq_true rfl⟩) (by omega) hc_348 (T := TX8) (N := 17) rfl rfl hl rfl (Nat.le_of_ble_eq_true rfl) dX8_part_117 ⟨Nat.le_of_ble_eq_true rfl, Nat.le_of_ble_eq_true rfl⟩) (fun z_351 g9 H locs hw9 G => ?_)
            have hr_355 := rd_range (T9 := X9) (L9 := tx) (lo := 0) (hi := (q9 0) - 1) (dg := 2) (q := p_315) (by omega) (by omega) (by omega)
            obtain ⟨r_353, p_354, e_352⟩ : ∃ r9 p9, rd X9 tx 0 ((q9 0) - 1) 2 p_315 = (r9, p9) := ⟨_, _, rfl⟩
            rw [e_352] at hw9 hr_355
            dsimp only at hw9 hr_355
            rcases hw9 with hw9 | hw9
            · obtain ⟨hq_356, hw, hq_356z⟩ := hw9
              subst hw
              obtain ⟨g_357, hg_358⟩ : ∃ g9, g9 = va_up g_346 192 (.inr (8, [.ref (ad 193), .int (iz ly), .int (iz th), .ref (ad 194), .int (iz mk), .ref (ad 195), .int (iz tx), .ref (ad 196), .int (iz rl), .int (iz p_354), .int (iz 1), .int (iz s0), .int (iz s1), .ref (ad 197), .int (iz rm), .ref (ad 198), .ref (ad 199)])) := ⟨_, rfl⟩
              rw [← hg_358] at G
              have hc_359 : g_357 192 = .inr (8, [.ref (ad 193), .int (iz ly), .int (iz th), .ref (ad 194), .int (iz mk), .ref (ad 195), .int (iz tx), .ref (ad 196), .int (iz rl), .int (iz p_354), .int (iz 1), .int (iz s0), .int (iz s1), .ref (ad 197), .int (iz rm), .ref (ad 198), .ref (ad 199)]) := by rw [hg_358]; exact gu_self _ _ _
              have hc_360 : g_357 195 = aI κ 100 X9 := by rw [hg_358, gu_ne (by decide)]; exact hc_349
              have hc_361 : g_357 196 = aI κ 42 (vu (vu (vu q9 ((4 * rl) + 1) z_254) ((4 * rl) + 2) 1) ((4 * rl) + 3) z_312) := by rw [hg_358, gu_ne (by decide)]; exact hc_350
              refine g_iastore C G (pos := 196) (by omega) hc_361 (by omega) (by omega) (by omega) dX8_part_120 (fun H locs G => ?_)
              obtain ⟨g_362, hg_363⟩ : ∃ g9, g9 = va_up g_357 196 (aI κ 42 (vu (vu (vu (vu q9 ((4 * rl) + 1) z_254) ((4 * rl) + 2) 1) ((4 * rl) + 3) z_312) ((4 * rl) + 4) z_351)) := ⟨_, rfl⟩
              rw [← hg_363] at G
              have hc_364 : g_362 192 = .inr (8, [.ref (ad 193), .int (iz ly), .int (iz th), .ref (ad 194), .int (iz mk), .ref (ad 195), .int (iz tx), .ref (ad 196), .int (iz rl), .int (iz p_354), .int (iz 1), .int (iz s0), .int (iz s1), .ref (ad 197), .int (iz rm), .ref (ad 198), .ref (ad 199)]) := by rw [hg_363, gu_ne (by decide)]; exact hc_359
              have hc_365 : g_362 195 = aI κ 100 X9 := by rw [hg_363, gu_ne (by decide)]; exact hc_360
              have hc_366 : g_362 196 = aI κ 42 (vu (vu (vu (vu q9 ((4 * rl) + 1) z_254) ((4 * rl) + 2) 1) ((4 * rl) + 3) z_312) ((4 * rl) + 4) z_351) := by rw [hg_363]; exact gu_self _ _ _
              refine g_aload_n C dX8_part_121 rfl hl 2 rfl ?_
              refine lv_dup C.1.1 C.1.2.1 dX8_part_122 rfl ?_
              refine g_get C G (pos := 192) fX8_part_98 (by omega) hc_364 rfl dX8_part_123 ?_
              refine g_iconst (a := 1) C dX8_part_126 rfl ?_
              refine g_iadd C dX8_part_127 ?_
              refine g_put C G (pos := 192) (fs' := [.ref (ad 193), .int (iz ly), .int (iz th), .ref (ad 194), .int (iz mk), .ref (ad 195), .int (iz tx), .ref (ad 196), .int (iz (rl + 1)), .int (iz p_354), .int (iz 1), .int (iz s0), .int (iz s1), .ref (ad 197), .int (iz rm), .ref (ad 198), .ref (ad 199)]) fwX8_part_98 (by omega) hc_364 (Nat.le_of_ble_eq_true rfl) rfl rfl rfl dX8_part_128 (fun H locs G => ?_)
              obtain ⟨g_367, hg_368⟩ : ∃ g9, g9 = va_up g_362 192 (.inr (8, [.ref (ad 193), .int (iz ly), .int (iz th), .ref (ad 194), .int (iz mk), .ref (ad 195), .int (iz tx), .ref (ad 196), .int (iz (rl + 1)), .int (iz p_354), .int (iz 1), .int (iz s0), .int (iz s1), .ref (ad 197), .int (iz rm), .ref (ad 198), .ref (ad 199)])) := ⟨_, rfl⟩
              rw [← hg_368] at G
              have hc_369 : g_367 192 = .inr (8, [.ref (ad 193), .int (iz ly), .int (iz th), .ref (ad 194), .int (iz mk), .ref (ad 195), .int (iz tx), .ref (ad 196), .int (iz (rl + 1)), .int (iz p_354), .int (iz 1), .int (iz s0), .int (iz s1), .ref (ad 197), .int (iz rm), .ref (ad 198), .ref (ad 199)]) := by rw [hg_368]; exact gu_self _ _ _
              have hc_370 : g_367 195 = aI κ 100 X9 := by rw [hg_368, gu_ne (by decide)]; exact hc_365
              have hc_371 : g_367 196 = aI κ 42 (vu (vu (vu (vu q9 ((4 * rl) + 1) z_254) ((4 * rl) + 2) 1) ((4 * rl) + 3) z_312) ((4 * rl) + 4) z_351) := by rw [hg_368, gu_ne (by decide)]; exact hc_366
              refine g_goto (tgt := 231) C dX8_part_131 (by decide) ?_
              refine g_vret C G hr hlk (Nat.le_of_ble_eq_true rfl) (Nat.le_of_ble_eq_true rfl) dX8_part_231 ?_
              have hF : rpS X9 tx a0 rl q9 = (false, p_354, rl, q9) := by
                unfold rpS
                rw [if_neg (by omega), if_pos (by omega), if_neg (by omega)]
                unfold rlS
                simp only [e_255, e_313, e_352]
                rw [if_neg (by omega)]
                rw [if_neg (by omega)]
                rw [if_pos (by omega)]
              rw [hF]
              exact Or.inr ⟨rfl, _, _, hc_369, hc_371, ((((hokR.2.vu (by omega)).vu (by omega)).vu (by omega)).vu (by omega)), fun x x1 x2 => by rw [hg_368, gu_ne (by omega), hg_363, gu_ne (by omega), hg_358, gu_ne (by omega), hg_347, gu_ne (by omega), hg_342, gu_ne (by omega), hg_308, gu_ne (by omega), hg_302, gu_ne (by omega), hg_297, gu_ne (by omega), hg_250, gu_ne (by omega)]⟩
            · obtain ⟨hq_372, hw, hq_372z⟩ := hw9
              subst hw
              subst hq_372z
              obtain ⟨g_373, hg_374⟩ : ∃ g9, g9 = va_up g_346 192 (.inr (8, [.ref (ad 193), .int (iz ly), .int (iz th), .ref (ad 194), .int (iz mk), .ref (ad 195), .int (iz tx), .ref (ad 196), .int (iz rl), .int (iz p_354), .int (iz 0), .int (iz s0), .int (iz s1), .ref (ad 197), .int (iz rm), .ref (ad 198), .ref (ad 199)])) := ⟨_, rfl⟩
              rw [← hg_374] at G
              have hc_375 : g_373 192 = .inr (8, [.ref (ad 193), .int (iz ly), .int (iz th), .ref (ad 194), .int (iz mk), .ref (ad 195), .int (iz tx), .ref (ad 196), .int (iz rl), .int (iz p_354), .int (iz 0), .int (iz s0), .int (iz s1), .ref (ad 197), .int (iz rm), .ref (ad 198), .ref (ad 199)]) := by rw [hg_374]; exact gu_self _ _ _
              have hc_376 : g_373 195 = aI κ 100 X9 := by rw [hg_374, gu_ne (by decide)]; exact hc_349
              have hc_377 : g_373 196 = aI κ 42 (vu (vu (vu q9 ((4 * rl) + 1) z_254) ((4 * rl) + 2) 1) ((4 * rl) + 3) z_312) := by rw [hg_374, gu_ne (by decide)]; exact hc_350
              refine g_iastore C G (pos := 196) (by omega) hc_377 (by omega) (by omega) (by omega) dX8_part_120 (fun H locs G => ?_)
              obtain ⟨g_378, hg_379⟩ : ∃ g9, g9 = va_up g_373 196 (aI κ 42 (vu (vu (vu (vu q9 ((4 * rl) + 1) z_254) ((4 * rl) + 2) 1) ((4 * rl) + 3) z_312) ((4 * rl) + 4) z_351)) := ⟨_, rfl⟩
              rw [← hg_379] at G
              have hc_380 : g_378 192 = .inr (8, [.ref (ad 193), .int (iz ly), .int (iz th), .ref (ad 194), .int (iz mk), .ref (ad 195), .int (iz tx), .ref (ad 196), .int (iz rl), .int (iz p_354), .int (iz 0), .int (iz s0), .int (iz s1), .ref (ad 197), .int (iz rm), .ref (ad 198), .ref (ad 199)]) := by rw [hg_379, gu_ne (by decide)]; exact hc_375
              have hc_381 : g_378 195 = aI κ 100 X9 := by rw [hg_379, gu_ne (by decide)]; exact hc_376
              have hc_382 : g_378 196 = aI κ 42 (vu (vu (vu (vu q9 ((4 * rl) + 1) z_254) ((4 * rl) + 2) 1) ((4 * rl) + 3) z_312) ((4 * rl) + 4) z_351) := by rw [hg_379]; exact gu_self _ _ _
              refine g_aload_n C dX8_part_121 rfl hl 2 rfl ?_
              refine lv_dup C.1.1 C.1.2.1 dX8_part_122 rfl ?_
              refine g_get C G (pos := 192) fX8_part_98 (by omega) hc_380 rfl dX8_part_123 ?_
              refine g_iconst (a := 1) C dX8_part_126 rfl ?_
              refine g_iadd C dX8_part_127 ?_
              refine g_put C G (pos := 192) (fs' := [.ref (ad 193), .int (iz ly), .int (iz th), .ref (ad 194), .int (iz mk), .ref (ad 195), .int (iz tx), .ref (ad 196), .int (iz (rl + 1)), .int (iz p_354), .int (iz 0), .int (iz s0), .int (iz s1), .ref (ad 197), .int (iz rm), .ref (ad 198), .ref (ad 199)]) fwX8_part_98 (by omega) hc_380 (Nat.le_of_ble_eq_true rfl) rfl rfl rfl dX8_part_128 (fun H locs G => ?_)
              obtain ⟨g_383, hg_384⟩ : ∃ g9, g9 = va_up g_378 192 (.inr (8, [.ref (ad 193), .int (iz ly), .int (iz th), .ref (ad 194), .int (iz mk), .ref (ad 195), .int (iz tx), .ref (ad 196), .int (iz (rl + 1)), .int (iz p_354), .int (iz 0), .int (iz s0), .int (iz s1), .ref (ad 197), .int (iz rm), .ref (ad 198), .ref (ad 199)])) := ⟨_, rfl⟩
              rw [← hg_384] at G
              have hc_385 : g_383 192 = .inr (8, [.ref (ad 193), .int (iz ly), .int (iz th), .ref (ad 194), .int (iz mk), .ref (ad 195), .int (iz tx), .ref (ad 196), .int (iz (rl + 1)), .int (iz p_354), .int (iz 0), .int (iz s0), .int (iz s1), .ref (ad 197), .int (iz rm), .ref (ad 198), .ref (ad 199)]) := by rw [hg_384]; exact gu_self _ _ _
              have hc_386 : g_383 195 = aI κ 100 X9 := by rw [hg_384, gu_ne (by decide)]; exact hc_381
              have hc_387 : g_383 196 = aI κ 42 (vu (vu (vu (vu q9 ((4 * rl) + 1) z_254) ((4 * rl) + 2) 1) ((4 * rl) + 3) z_312) ((4 * rl) + 4) z_351) := by rw [hg_384, gu_ne (by decide)]; exact hc_382
              refine g_goto (tgt := 231) C dX8_part_131 (by decide) ?_
              refine g_vret C G hr hlk (Nat.le_of_ble_eq_true rfl) (Nat.le_of_ble_eq_true rfl) dX8_part_231 ?_
              have hF : rpS X9 tx a0 rl q9 = (true, p_354, rl + 1, v4 q9 rl z_254 1 z_312 z_351) := by
                unfold rpS
                rw [if_neg (by omega), if_pos (by omega), if_neg (by omega)]
                unfold rlS
                simp only [e_255, e_313, e_352]
                rw [if_neg (by omega), if_neg (by omega), if_neg (by omega)]
              rw [hF]
              exact Or.inl ⟨rfl, hc_385, hc_387.trans (congrArg (fun q => aI κ 42 q) lay_v4), fun x x1 x2 => by rw [hg_384, gu_ne (by omega), hg_379, gu_ne (by omega), hg_374, gu_ne (by omega), hg_347, gu_ne (by omega), hg_342, gu_ne (by omega), hg_308, gu_ne (by omega), hg_302, gu_ne (by omega), hg_297, gu_ne (by omega), hg_250, gu_ne (by omega)]⟩
