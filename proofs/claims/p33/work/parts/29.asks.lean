/-! ROSETTEPLATE (X7): what only reads -/
theorem fX7_about_16 : gFld wsX7_about RX7 16 7 2 := ⟨RX7, TX7, 8, rfl, by decide, by decide +kernel, by decide +kernel⟩
theorem fX7_about_86 : gFld wsX7_about RX7 86 4 0 := ⟨RX4, TX4, 6, rfl, by decide, by decide +kernel, by decide +kernel⟩
theorem fX7_about_74 : gFld wsX7_about RX7 74 4 1 := ⟨RX4, TX4, 6, rfl, by decide, by decide +kernel, by decide +kernel⟩
theorem fX7_about_89 : gFld wsX7_about RX7 89 4 2 := ⟨RX4, TX4, 6, rfl, by decide, by decide +kernel, by decide +kernel⟩
theorem fX7_about_41 : gFld wsX7_about RX7 41 7 7 := ⟨RX7, TX7, 8, rfl, by decide, by decide +kernel, by decide +kernel⟩
set_option maxHeartbeats 4000000 in
set_option maxRecDepth 100000 in
theorem c_X7_about (l : Launch) (hlf : l.stackTraces = false) (κ : gKap) (B n : Nat) (ad : Nat → Nat) (g : Nat → va_E) (tl : Int) (nl : Int) (v : Int → Int) (wh : Int) (hnn : 192 ≤ n) (hX : isX κ ad g tl) (hpl : isPl κ ad g 2 nl v) (hok : okPl nl v) (hbn : isBn κ ad g 186) (hwh : inI wh) : vx_Met l yX7_about wsX7_about ({ frames := 6, cells := 1, slots := 6, locals := 123 }) (gPreX κ B n ad g [.ref (ad 0), .int (iz wh)]) (gQi κ B n ad (fun z g' => isBn κ ad g' 186 ∧ frB g g' 186 ∧ ((wh = 0 ∧ z = v 0) ∨ (wh = 1 ∧ z = nl) ∨ (wh = 2 ∧ z = v 25) ∨ (wh = 3 ∧ z = (cntS (fun x y => ∃ l9, 0 ≤ l9 ∧ l9 < nl ∧ PTl v l9 x y) : Int)) ∨ (wh = 4 ∧ z = lsA v nl.toNat) ∨ (wh = 5 ∧ z = grA v nl.toNat) ∨ (wh = 6 ∧ z = fitN nl v)))) (gXX κ B n ad (fun E g9 => (E = "java/lang/IllegalArgumentException" ∧ (¬ (0 ≤ wh ∧ wh ≤ 6)) ∧ g9 = g))) 1 6 (gFree B) := by
  refine g_metX RX7 (cc := cX7_about) (maxL := 2) (ret := (some .int)) (by decide) rfl rfl (Nat.le_of_ble_eq_true rfl) ?_
  intro p e s m args below meth c C hr hlk hnt X G ls hl
  have hl : lv_has ls 2 [(0, .ref (ad 0)), (1, .int (iz wh))] := hl
  obtain ⟨hn6, hv0, hv25, hlay, hsee⟩ := id hok
  refine g_iload_n C dX7_about_0 rfl hl 1 rfl ?_
  by_cases e_1 : wh = 0
  · refine g_tswIn (v := 0) (off := 43) (tgt := 44) C dX7_about_1 e_1 (by decide) (by decide) (by decide) (by decide) (by decide) ?_
    refine g_aload_n C dX7_about_44 rfl hl 0 rfl ?_
    refine g_get C G (pos := 0) fX7_about_16 (by omega) hX.1 rfl dX7_about_45 ?_
    refine g_get C G (pos := 2) fX7_about_86 (by omega) hpl.1 rfl dX7_about_48 ?_
    refine vx_ret ?_
    refine g_iret C G hr hlk (Nat.le_of_ble_eq_true rfl) (Nat.le_of_ble_eq_true rfl) dX7_about_51 ?_
    exact ⟨hbn, frB.rf, Or.inl ⟨by omega, rfl⟩⟩
  by_cases e_2 : wh = 1
  · refine g_tswIn (v := 1) (off := 51) (tgt := 52) C dX7_about_1 e_2 (by decide) (by decide) (by decide) (by decide) (by decide) ?_
    refine g_aload_n C dX7_about_52 rfl hl 0 rfl ?_
    refine g_get C G (pos := 0) fX7_about_16 (by omega) hX.1 rfl dX7_about_53 ?_
    refine g_get C G (pos := 2) fX7_about_74 (by omega) hpl.1 rfl dX7_about_56 ?_
    refine vx_ret ?_
    refine g_iret C G hr hlk (Nat.le_of_ble_eq_true rfl) (Nat.le_of_ble_eq_true rfl) dX7_about_59 ?_
    exact ⟨hbn, frB.rf, Or.inr (Or.inl ⟨by omega, rfl⟩)⟩
  by_cases e_3 : wh = 2
  · refine g_tswIn (v := 2) (off := 59) (tgt := 60) C dX7_about_1 e_3 (by decide) (by decide) (by decide) (by decide) (by decide) ?_
    refine g_aload_n C dX7_about_60 rfl hl 0 rfl ?_
    refine g_get C G (pos := 0) fX7_about_16 (by omega) hX.1 rfl dX7_about_61 ?_
    refine g_get C G (pos := 2) fX7_about_89 (by omega) hpl.1 rfl dX7_about_64 ?_
    refine vx_ret ?_
    refine g_iret C G hr hlk (Nat.le_of_ble_eq_true rfl) (Nat.le_of_ble_eq_true rfl) dX7_about_67 ?_
    exact ⟨hbn, frB.rf, Or.inr (Or.inr (Or.inl ⟨by omega, rfl⟩))⟩
  by_cases e_4 : wh = 3
  · refine g_tswIn (v := 3) (off := 67) (tgt := 68) C dX7_about_1 e_4 (by decide) (by decide) (by decide) (by decide) (by decide) ?_
    refine g_aload_n C dX7_about_68 rfl hl 0 rfl ?_
    refine g_get C G (pos := 0) fX7_about_41 (by omega) hX.1 rfl dX7_about_69 ?_
    refine g_aload_n C dX7_about_72 rfl hl 0 rfl ?_
    refine g_get C G (pos := 0) fX7_about_16 (by omega) hX.1 rfl dX7_about_73 ?_
    refine g_co C G (g_runV (As := [.ref (ad 2)]) (rest := []) (pos := 186) C G (c_X0_cutAll l κ B n ad g 186 2 nl v (by omega) hbn (by omega) hpl hok (by omega)) (cwV 1 C.1.2.2.2.2 gX7_about_X0_cutAll rfl rfl rfl (by decide +kernel) ⟨Nat.le_of_ble_eq_true rfl, Nat.le_of_ble_eq_true rfl⟩) (by omega) hbn.1 (T := TX0) (N := 3) rfl rfl hl rfl (Nat.le_of_ble_eq_true rfl) dX7_about_76 ⟨Nat.le_of_ble_eq_true rfl, Nat.le_of_ble_eq_true rfl⟩) (fun q_9 g_5 H locs hw9 G => ?_) (fun g9 H locs hw9 G => absurd hw9.1 (fun z => by cases z))
    obtain ⟨hq9, hbn_6, hfb_7, hx_8⟩ := hw9
    cases hq9
    have hc_10 : g_5 0 = .inr (7, [.ref (ad 1), .int (iz tl), .ref (ad 2), .ref (ad 12), .ref (ad 22), .ref (ad 164), .ref (ad 165), .ref (ad 186)]) := (hfb_7 _ (by omega)).trans hX.1
    have hc_11 : g_5 164 = aPl κ 2 (fun j => if j < 2 then some (ad (166 + 10 * j)) else none) := (hfb_7 _ (by omega)).trans hX.2
    have hpl_12 : isPl κ ad g_5 2 nl v := hpl.far (fun _ _ _ => hfb_7 _ (by omega))
    obtain ⟨V_13, hV_14, hr_15⟩ := hx_8
    refine g_ci C G (g_runV (As := []) (rest := []) (pos := 186 + 1) C G (c_X5_size l κ B n ad g_5 (186 + 1) V_13 (by omega) hbn_6.2.1 hV_14 hr_15.lt) (cwV 0 C.1.2.2.2.2 gX7_about_X5_size rfl rfl rfl (by decide +kernel) ⟨Nat.le_of_ble_eq_true rfl, Nat.le_of_ble_eq_true rfl⟩) (by omega) hbn_6.2.1 (T := TX5) (N := 1) rfl rfl hl rfl (Nat.le_of_ble_eq_true rfl) dX7_about_79 ⟨Nat.le_of_ble_eq_true rfl, Nat.le_of_ble_eq_true rfl⟩) (fun z_16 g9 H locs hw G => ?_)
    obtain ⟨hg9, h_17⟩ := hw
    replace hg9 := hg9.symm
    subst hg9
    refine vx_ret ?_
    refine g_iret C G hr hlk (Nat.le_of_ble_eq_true rfl) (Nat.le_of_ble_eq_true rfl) dX7_about_82 ?_
    exact ⟨hbn_6, hfb_7, Or.inr (Or.inr (Or.inr (Or.inl ⟨by omega, h_17.1.trans (congrArg (fun x : Nat => (x : Int)) hr_15.cnt)⟩)))⟩
  by_cases e_18 : wh = 4
  · refine g_tswIn (v := 4) (off := 82) (tgt := 83) C dX7_about_1 e_18 (by decide) (by decide) (by decide) (by decide) (by decide) ?_
    refine g_aload_n C dX7_about_83 rfl hl 0 rfl ?_
    refine g_get C G (pos := 0) fX7_about_16 (by omega) hX.1 rfl dX7_about_84 ?_
    refine g_ci C G (g_runV (As := []) (rest := []) (pos := 2) C G (c_X4_leastRadius l κ B n ad g 2 nl v (by omega) hpl hok) (cwV 0 C.1.2.2.2.2 gX7_about_X4_leastRadius rfl rfl rfl (by decide +kernel) ⟨Nat.le_of_ble_eq_true rfl, Nat.le_of_ble_eq_true rfl⟩) (by omega) hpl.1 (T := TX4) (N := 6) rfl rfl hl rfl (Nat.le_of_ble_eq_true rfl) dX7_about_87 ⟨Nat.le_of_ble_eq_true rfl, Nat.le_of_ble_eq_true rfl⟩) (fun z_19 g9 H locs hw G => ?_)
    obtain ⟨hg9, h_20⟩ := hw
    replace hg9 := hg9.symm
    subst hg9
    refine vx_ret ?_
    refine g_iret C G hr hlk (Nat.le_of_ble_eq_true rfl) (Nat.le_of_ble_eq_true rfl) dX7_about_90 ?_
    exact ⟨hbn, frB.rf, Or.inr (Or.inr (Or.inr (Or.inr (Or.inl ⟨by omega, h_20.1⟩))))⟩
  by_cases e_21 : wh = 5
  · refine g_tswIn (v := 5) (off := 90) (tgt := 91) C dX7_about_1 e_21 (by decide) (by decide) (by decide) (by decide) (by decide) ?_
    refine g_aload_n C dX7_about_91 rfl hl 0 rfl ?_
    refine g_get C G (pos := 0) fX7_about_16 (by omega) hX.1 rfl dX7_about_92 ?_
    refine g_ci C G (g_runV (As := []) (rest := []) (pos := 2) C G (c_X4_greatestRadius l κ B n ad g 2 nl v (by omega) hpl hok) (cwV 0 C.1.2.2.2.2 gX7_about_X4_greatestRadius rfl rfl rfl (by decide +kernel) ⟨Nat.le_of_ble_eq_true rfl, Nat.le_of_ble_eq_true rfl⟩) (by omega) hpl.1 (T := TX4) (N := 6) rfl rfl hl rfl (Nat.le_of_ble_eq_true rfl) dX7_about_95 ⟨Nat.le_of_ble_eq_true rfl, Nat.le_of_ble_eq_true rfl⟩) (fun z_22 g9 H locs hw G => ?_)
    obtain ⟨hg9, h_23⟩ := hw
    replace hg9 := hg9.symm
    subst hg9
    refine vx_ret ?_
    refine g_iret C G hr hlk (Nat.le_of_ble_eq_true rfl) (Nat.le_of_ble_eq_true rfl) dX7_about_98 ?_
    exact ⟨hbn, frB.rf, Or.inr (Or.inr (Or.inr (Or.inr (Or.inr (Or.inl ⟨by omega, h_23.1⟩)))))⟩
  by_cases e_24 : wh = 6
  · refine g_tswIn (v := 6) (off := 98) (tgt := 99) C dX7_about_1 e_24 (by decide) (by decide) (by decide) (by decide) (by decide) ?_
    refine g_aload_n C dX7_about_99 rfl hl 0 rfl ?_
    refine g_get C G (pos := 0) fX7_about_16 (by omega) hX.1 rfl dX7_about_100 ?_
    refine g_ci C G (g_runV (As := []) (rest := []) (pos := 2) C G (c_X4_fitting l κ B n ad g 2 nl v (by omega) hpl hok) (cwV 0 C.1.2.2.2.2 gX7_about_X4_fitting rfl rfl rfl (by decide +kernel) ⟨Nat.le_of_ble_eq_true rfl, Nat.le_of_ble_eq_true rfl⟩) (by omega) hpl.1 (T := TX4) (N := 6) rfl rfl hl rfl (Nat.le_of_ble_eq_true rfl) dX7_about_103 ⟨Nat.le_of_ble_eq_true rfl, Nat.le_of_ble_eq_true rfl⟩) (fun z_25 g9 H locs hw G => ?_)
    obtain ⟨hg9, h_26⟩ := hw
    replace hg9 := hg9.symm
    subst hg9
    refine vx_ret ?_
    refine g_iret C G hr hlk (Nat.le_of_ble_eq_true rfl) (Nat.le_of_ble_eq_true rfl) dX7_about_106 ?_
    exact ⟨hbn, frB.rf, Or.inr (Or.inr (Or.inr (Or.inr (Or.inr (Or.inr (⟨by omega, h_26.1⟩))))))⟩
  refine g_tswOut (tgt := 107) C (by omega) dX7_about_1 (by omega) (by decide) ?_
  refine g_throw C G X hlf hlk hnt hl (cls := "java/lang/IllegalArgumentException") (text := "what is not 0 to 6") (ik := 45) (is := 110) (ic := 49) (by decide +kernel) (by decide +kernel : Cond.classLink RX7 45 _ ∈ wsX7_about) (by decide +kernel : Cond.initialized _ ∈ wsX7_about) (by decide +kernel) (by decide +kernel) (by decide +kernel) at_iae (by decide +kernel) dX7_about_107 dX7_about_110 dX7_about_111 dX7_about_113 dX7_about_116 (Nat.le_of_ble_eq_true rfl) (Nat.le_of_ble_eq_true rfl) (Nat.le_of_ble_eq_true rfl) (Nat.le_of_ble_eq_true rfl) (Nat.le_of_ble_eq_true rfl) (Nat.le_of_ble_eq_true rfl) ?_
  exact ⟨rfl, by omega, rfl⟩
theorem fX7_layer_16 : gFld wsX7_layer RX7 16 7 2 := ⟨RX7, TX7, 8, rfl, by decide, by decide +kernel, by decide +kernel⟩
theorem fX7_layer_121 : gFld wsX7_layer RX7 121 3 0 := ⟨RX3, TX3, 4, rfl, by decide, by decide +kernel, by decide +kernel⟩
theorem fX7_layer_126 : gFld wsX7_layer RX7 126 3 1 := ⟨RX3, TX3, 4, rfl, by decide, by decide +kernel, by decide +kernel⟩
theorem fX7_layer_129 : gFld wsX7_layer RX7 129 3 2 := ⟨RX3, TX3, 4, rfl, by decide, by decide +kernel, by decide +kernel⟩
theorem fX7_layer_132 : gFld wsX7_layer RX7 132 3 3 := ⟨RX3, TX3, 4, rfl, by decide, by decide +kernel, by decide +kernel⟩
theorem fX7_layer_86 : gFld wsX7_layer RX7 86 4 0 := ⟨RX4, TX4, 6, rfl, by decide, by decide +kernel, by decide +kernel⟩
theorem fX7_layer_41 : gFld wsX7_layer RX7 41 7 7 := ⟨RX7, TX7, 8, rfl, by decide, by decide +kernel, by decide +kernel⟩
set_option maxHeartbeats 4000000 in
set_option maxRecDepth 100000 in
theorem c_X7_layer (l : Launch) (hlf : l.stackTraces = false) (κ : gKap) (B n : Nat) (ad : Nat → Nat) (g : Nat → va_E) (tl : Int) (nl : Int) (v : Int → Int) (li : Int) (wh : Int) (hnn : 192 ≤ n) (hX : isX κ ad g tl) (hpl : isPl κ ad g 2 nl v) (hok : okPl nl v) (hbn : isBn κ ad g 186) (hli : inI li) (hwh : inI wh) : vx_Met l yX7_layer wsX7_layer ({ frames := 6, cells := 1, slots := 6, locals := 99 }) (gPreX κ B n ad g [.ref (ad 0), .int (iz li), .int (iz wh)]) (gQi κ B n ad (fun z g' => isBn κ ad g' 186 ∧ frB g g' 186 ∧ (0 ≤ li ∧ li < nl) ∧ ((wh = 0 ∧ z = v (4 * li + 1)) ∨ (wh = 1 ∧ z = v (4 * li + 2)) ∨ (wh = 2 ∧ z = v (4 * li + 3)) ∨ (wh = 3 ∧ z = v (4 * li + 4)) ∨ (wh = 4 ∧ z = pd (v 0) (v (4 * li + 1))) ∨ (wh = 5 ∧ z = tn (v 0) (v (4 * li + 1))) ∨ (wh = 6 ∧ z = lb (v 0) (v (4 * li + 1))) ∨ (wh = 7 ∧ z = (cntS (fun x y => PTl v li x y) : Int)) ∨ (wh = 8 ∧ z = lsr v li) ∨ (wh = 9 ∧ z = grr v li)))) (gXX κ B n ad (fun E g9 => (E = "java/lang/IndexOutOfBoundsException" ∧ (¬ (0 ≤ li ∧ li < nl)) ∧ g9 = g) ∨ (E = "java/lang/IllegalArgumentException" ∧ ((0 ≤ li ∧ li < nl) ∧ ¬ (0 ≤ wh ∧ wh ≤ 9)) ∧ g9 = g))) 1 6 (gFree B) := by
  refine g_metX RX7 (cc := cX7_layer) (maxL := 4) (ret := (some .int)) (by decide) rfl rfl (Nat.le_of_ble_eq_true rfl) ?_
  intro p e s m args below meth c C hr hlk hnt X G ls hl
  have hl : lv_has ls 4 [(0, .ref (ad 0)), (1, .int (iz li)), (2, .int (iz wh))] := hl
  obtain ⟨hn6, hv0, hv25, hlay, hsee⟩ := id hok
  refine g_aload_n C dX7_layer_0 rfl hl 0 rfl ?_
  refine g_get C G (pos := 0) fX7_layer_16 (by omega) hX.1 rfl dX7_layer_1 ?_
  refine g_iload_n C dX7_layer_4 rfl hl 1 rfl ?_
  refine g_co C G (g_runV (As := [.int (iz li)]) (rest := []) (pos := 2) C G (c_X4_find l κ B n ad g 2 nl v li (by omega) hpl (by omega) (by omega)) (cwV 1 C.1.2.2.2.2 gX7_layer_X4_find rfl rfl rfl (by decide +kernel) ⟨Nat.le_of_ble_eq_true rfl, Nat.le_of_ble_eq_true rfl⟩) (by omega) hpl.1 (T := TX4) (N := 6) rfl rfl hl rfl (Nat.le_of_ble_eq_true rfl) dX7_layer_5 ⟨Nat.le_of_ble_eq_true rfl, Nat.le_of_ble_eq_true rfl⟩) (fun q_1 g9 H locs hw G => ?_) (fun g9 H locs hw G => ?_)
  · obtain ⟨hg9, ⟨b_2, hw⟩ | ⟨b_2, hw⟩⟩ := hw
    all_goals replace hg9 := hg9.symm
    all_goals subst hg9
    · cases hw
      have hla := hlay li (by omega) (by omega)
      refine lv_astore_n (lv' := [(3, .ref (ad (2 + 2 + (li).toNat))), (0, .ref (ad 0)), (1, .int (iz li)), (2, .int (iz wh))]) C.1.1 C.1.2.1 dX7_layer_8 rfl hl (by decide) rfl (fun ls hl => ?_)
      refine g_aload_n C dX7_layer_9 rfl hl 0 rfl ?_
      refine lv_ifnonnull (tgt := 23) C.1.1 C.1.2.1 dX7_layer_10 (by decide) ?_
      refine g_iload_n C dX7_layer_23 rfl hl 3 rfl ?_
      by_cases e_3 : wh = 0
      · refine g_tswIn (v := 0) (off := 56) (tgt := 80) C dX7_layer_24 e_3 (by decide) (by decide) (by decide) (by decide) (by decide) ?_
        refine g_aload_n C dX7_layer_80 rfl hl 0 rfl ?_
        refine g_get C G (pos := 2 + 2 + (li).toNat) fX7_layer_121 (by omega) (hpl.lay (by omega) (by omega)) rfl dX7_layer_81 ?_
        refine vx_ret ?_
        refine g_iret C G hr hlk (Nat.le_of_ble_eq_true rfl) (Nat.le_of_ble_eq_true rfl) dX7_layer_84 ?_
        exact ⟨hbn, frB.rf, by omega, Or.inl ⟨by omega, rfl⟩⟩
      by_cases e_4 : wh = 1
      · refine g_tswIn (v := 1) (off := 61) (tgt := 85) C dX7_layer_24 e_4 (by decide) (by decide) (by decide) (by decide) (by decide) ?_
        refine g_aload_n C dX7_layer_85 rfl hl 0 rfl ?_
        refine g_get C G (pos := 2 + 2 + (li).toNat) fX7_layer_126 (by omega) (hpl.lay (by omega) (by omega)) rfl dX7_layer_86 ?_
        refine vx_ret ?_
        refine g_iret C G hr hlk (Nat.le_of_ble_eq_true rfl) (Nat.le_of_ble_eq_true rfl) dX7_layer_89 ?_
        exact ⟨hbn, frB.rf, by omega, Or.inr (Or.inl ⟨by omega, rfl⟩)⟩
      by_cases e_5 : wh = 2
      · refine g_tswIn (v := 2) (off := 66) (tgt := 90) C dX7_layer_24 e_5 (by decide) (by decide) (by decide) (by decide) (by decide) ?_
        refine g_aload_n C dX7_layer_90 rfl hl 0 rfl ?_
        refine g_get C G (pos := 2 + 2 + (li).toNat) fX7_layer_129 (by omega) (hpl.lay (by omega) (by omega)) rfl dX7_layer_91 ?_
        refine vx_ret ?_
        refine g_iret C G hr hlk (Nat.le_of_ble_eq_true rfl) (Nat.le_of_ble_eq_true rfl) dX7_layer_94 ?_
        exact ⟨hbn, frB.rf, by omega, Or.inr (Or.inr (Or.inl ⟨by omega, rfl⟩))⟩
      by_cases e_6 : wh = 3
      · refine g_tswIn (v := 3) (off := 71) (tgt := 95) C dX7_layer_24 e_6 (by decide) (by decide) (by decide) (by decide) (by decide) ?_
        refine g_aload_n C dX7_layer_95 rfl hl 0 rfl ?_
        refine g_get C G (pos := 2 + 2 + (li).toNat) fX7_layer_132 (by omega) (hpl.lay (by omega) (by omega)) rfl dX7_layer_96 ?_
        refine vx_ret ?_
        refine g_iret C G hr hlk (Nat.le_of_ble_eq_true rfl) (Nat.le_of_ble_eq_true rfl) dX7_layer_99 ?_
        exact ⟨hbn, frB.rf, by omega, Or.inr (Or.inr (Or.inr (Or.inl ⟨by omega, rfl⟩)))⟩
      by_cases e_7 : wh = 4
      · refine g_tswIn (v := 4) (off := 76) (tgt := 100) C dX7_layer_24 e_7 (by decide) (by decide) (by decide) (by decide) (by decide) ?_
        refine g_aload_n C dX7_layer_100 rfl hl 0 rfl ?_
        refine g_aload_n C dX7_layer_101 rfl hl 1 rfl ?_
        refine g_get C G (pos := 0) fX7_layer_16 (by omega) hX.1 rfl dX7_layer_102 ?_
        refine g_get C G (pos := 2) fX7_layer_86 (by omega) hpl.1 rfl dX7_layer_105 ?_
        refine g_ci C G (g_runV (As := [.int (iz (v 0))]) (rest := []) (pos := 2 + 2 + (li).toNat) C G (c_X3_period l κ B n ad g (2 + 2 + (li).toNat) (v (4 * li + 1)) (v (4 * li + 2)) (v (4 * li + 3)) (v (4 * li + 4)) (v 0) (by omega) (hpl.lay (by omega) (by omega)) hla.1 hv0) (cwV 1 C.1.2.2.2.2 gX7_layer_X3_period rfl rfl rfl (by decide +kernel) ⟨Nat.le_of_ble_eq_true rfl, Nat.le_of_ble_eq_true rfl⟩) (by omega) (hpl.lay (by omega) (by omega)) (T := TX3) (N := 4) rfl rfl hl rfl (Nat.le_of_ble_eq_true rfl) dX7_layer_108 ⟨Nat.le_of_ble_eq_true rfl, Nat.le_of_ble_eq_true rfl⟩) (fun z_8 g9 H locs hw G => ?_)
        obtain ⟨hg9, h_9⟩ := hw
        replace hg9 := hg9.symm
        subst hg9
        refine vx_ret ?_
        refine g_iret C G hr hlk (Nat.le_of_ble_eq_true rfl) (Nat.le_of_ble_eq_true rfl) dX7_layer_111 ?_
        exact ⟨hbn, frB.rf, by omega, Or.inr (Or.inr (Or.inr (Or.inr (Or.inl ⟨by omega, h_9.2.2⟩))))⟩
      by_cases e_10 : wh = 5
      · refine g_tswIn (v := 5) (off := 88) (tgt := 112) C dX7_layer_24 e_10 (by decide) (by decide) (by decide) (by decide) (by decide) ?_
        refine g_aload_n C dX7_layer_112 rfl hl 0 rfl ?_
        refine g_aload_n C dX7_layer_113 rfl hl 1 rfl ?_
        refine g_get C G (pos := 0) fX7_layer_16 (by omega) hX.1 rfl dX7_layer_114 ?_
        refine g_get C G (pos := 2) fX7_layer_86 (by omega) hpl.1 rfl dX7_layer_117 ?_
        refine g_ci C G (g_runV (As := [.int (iz (v 0))]) (rest := []) (pos := 2 + 2 + (li).toNat) C G (c_X3_turns l κ B n ad g (2 + 2 + (li).toNat) (v (4 * li + 1)) (v (4 * li + 2)) (v (4 * li + 3)) (v (4 * li + 4)) (v 0) (by omega) (hpl.lay (by omega) (by omega)) hla.1 hv0) (cwV 1 C.1.2.2.2.2 gX7_layer_X3_turns rfl rfl rfl (by decide +kernel) ⟨Nat.le_of_ble_eq_true rfl, Nat.le_of_ble_eq_true rfl⟩) (by omega) (hpl.lay (by omega) (by omega)) (T := TX3) (N := 4) rfl rfl hl rfl (Nat.le_of_ble_eq_true rfl) dX7_layer_120 ⟨Nat.le_of_ble_eq_true rfl, Nat.le_of_ble_eq_true rfl⟩) (fun z_11 g9 H locs hw G => ?_)
        obtain ⟨hg9, h_12⟩ := hw
        replace hg9 := hg9.symm
        subst hg9
        refine vx_ret ?_
        refine g_iret C G hr hlk (Nat.le_of_ble_eq_true rfl) (Nat.le_of_ble_eq_true rfl) dX7_layer_123 ?_
        exact ⟨hbn, frB.rf, by omega, Or.inr (Or.inr (Or.inr (Or.inr (Or.inr (Or.inl ⟨by omega, h_12.2.2⟩)))))⟩
      by_cases e_13 : wh = 6
      · refine g_tswIn (v := 6) (off := 100) (tgt := 124) C dX7_layer_24 e_13 (by decide) (by decide) (by decide) (by decide) (by decide) ?_
        refine g_aload_n C dX7_layer_124 rfl hl 0 rfl ?_
        refine g_aload_n C dX7_layer_125 rfl hl 1 rfl ?_
        refine g_get C G (pos := 0) fX7_layer_16 (by omega) hX.1 rfl dX7_layer_126 ?_
        refine g_get C G (pos := 2) fX7_layer_86 (by omega) hpl.1 rfl dX7_layer_129 ?_
        refine g_ci C G (g_runV (As := [.int (iz (v 0))]) (rest := []) (pos := 2 + 2 + (li).toNat) C G (c_X3_lobes l κ B n ad g (2 + 2 + (li).toNat) (v (4 * li + 1)) (v (4 * li + 2)) (v (4 * li + 3)) (v (4 * li + 4)) (v 0) (by omega) (hpl.lay (by omega) (by omega)) hla.1 hv0) (cwV 1 C.1.2.2.2.2 gX7_layer_X3_lobes rfl rfl rfl (by decide +kernel) ⟨Nat.le_of_ble_eq_true rfl, Nat.le_of_ble_eq_true rfl⟩) (by omega) (hpl.lay (by omega) (by omega)) (T := TX3) (N := 4) rfl rfl hl rfl (Nat.le_of_ble_eq_true rfl) dX7_layer_132 ⟨Nat.le_of_ble_eq_true rfl, Nat.le_of_ble_eq_true rfl⟩) (fun z_14 g9 H locs hw G => ?_)
        obtain ⟨hg9, h_15⟩ := hw
        replace hg9 := hg9.symm
        subst hg9
        refine vx_ret ?_
        refine g_iret C G hr hlk (Nat.le_of_ble_eq_true rfl) (Nat.le_of_ble_eq_true rfl) dX7_layer_135 ?_
        exact ⟨hbn, frB.rf, by omega, Or.inr (Or.inr (Or.inr (Or.inr (Or.inr (Or.inr (Or.inl ⟨by omega, h_15.2.2⟩))))))⟩
      by_cases e_16 : wh = 7
      · refine g_tswIn (v := 7) (off := 112) (tgt := 136) C dX7_layer_24 e_16 (by decide) (by decide) (by decide) (by decide) (by decide) ?_
        refine g_aload_n C dX7_layer_136 rfl hl 1 rfl ?_
        refine g_get C G (pos := 0) fX7_layer_41 (by omega) hX.1 rfl dX7_layer_137 ?_
        refine g_aload_n C dX7_layer_140 rfl hl 1 rfl ?_
        refine g_get C G (pos := 0) fX7_layer_16 (by omega) hX.1 rfl dX7_layer_141 ?_
        refine g_get C G (pos := 2) fX7_layer_86 (by omega) hpl.1 rfl dX7_layer_144 ?_
        refine g_aload_n C dX7_layer_147 rfl hl 0 rfl ?_
        refine g_co C G (g_runV (As := [.int (iz (v 0)), .ref (ad (2 + 2 + (li).toNat))]) (rest := []) (pos := 186) C G (c_X0_cutOne l κ B n ad g 186 (v 0) (2 + 2 + (li).toNat) (v (4 * li + 1)) (v (4 * li + 2)) (v (4 * li + 3)) (v (4 * li + 4)) (by omega) hbn hv0 (by omega) (hpl.lay (by omega) (by omega)) (by omega) hla.1 hla.2) (cwV 2 C.1.2.2.2.2 gX7_layer_X0_cutOne rfl rfl rfl (by decide +kernel) ⟨Nat.le_of_ble_eq_true rfl, Nat.le_of_ble_eq_true rfl⟩) (by omega) hbn.1 (T := TX0) (N := 3) rfl rfl hl rfl (Nat.le_of_ble_eq_true rfl) dX7_layer_148 ⟨Nat.le_of_ble_eq_true rfl, Nat.le_of_ble_eq_true rfl⟩) (fun q_21 g_17 H locs hw9 G => ?_) (fun g9 H locs hw9 G => absurd hw9.1 (fun z => by cases z))
        obtain ⟨hq9, hbn_18, hfb_19, hx_20⟩ := hw9
        cases hq9
        have hc_22 : g_17 0 = .inr (7, [.ref (ad 1), .int (iz tl), .ref (ad 2), .ref (ad 12), .ref (ad 22), .ref (ad 164), .ref (ad 165), .ref (ad 186)]) := (hfb_19 _ (by omega)).trans hX.1
        have hc_23 : g_17 164 = aPl κ 2 (fun j => if j < 2 then some (ad (166 + 10 * j)) else none) := (hfb_19 _ (by omega)).trans hX.2
        have hpl_24 : isPl κ ad g_17 2 nl v := hpl.far (fun _ _ _ => hfb_19 _ (by omega))
        obtain ⟨V_25, hV_26, hr_27⟩ := hx_20
        refine g_ci C G (g_runV (As := []) (rest := []) (pos := 186 + 1) C G (c_X5_size l κ B n ad g_17 (186 + 1) V_25 (by omega) hbn_18.2.1 hV_26 hr_27.lt) (cwV 0 C.1.2.2.2.2 gX7_layer_X5_size rfl rfl rfl (by decide +kernel) ⟨Nat.le_of_ble_eq_true rfl, Nat.le_of_ble_eq_true rfl⟩) (by omega) hbn_18.2.1 (T := TX5) (N := 1) rfl rfl hl rfl (Nat.le_of_ble_eq_true rfl) dX7_layer_151 ⟨Nat.le_of_ble_eq_true rfl, Nat.le_of_ble_eq_true rfl⟩) (fun z_28 g9 H locs hw G => ?_)
        obtain ⟨hg9, h_29⟩ := hw
        replace hg9 := hg9.symm
        subst hg9
        refine vx_ret ?_
        refine g_iret C G hr hlk (Nat.le_of_ble_eq_true rfl) (Nat.le_of_ble_eq_true rfl) dX7_layer_154 ?_
        exact ⟨hbn_18, hfb_19, by omega, Or.inr (Or.inr (Or.inr (Or.inr (Or.inr (Or.inr (Or.inr (Or.inl ⟨by omega, h_29.1.trans (congrArg (fun x : Nat => (x : Int)) hr_27.cnt)⟩)))))))⟩
      by_cases e_30 : wh = 8
      · refine g_tswIn (v := 8) (off := 131) (tgt := 155) C dX7_layer_24 e_30 (by decide) (by decide) (by decide) (by decide) (by decide) ?_
        refine g_aload_n C dX7_layer_155 rfl hl 0 rfl ?_
        refine g_ci C G (g_runV (As := []) (rest := []) (pos := 2 + 2 + (li).toNat) C G (c_X3_leastRadius l κ B n ad g (2 + 2 + (li).toNat) (v (4 * li + 1)) (v (4 * li + 2)) (v (4 * li + 3)) (v (4 * li + 4)) (by omega) (hpl.lay (by omega) (by omega)) hla.1) (cwV 0 C.1.2.2.2.2 gX7_layer_X3_leastRadius rfl rfl rfl (by decide +kernel) ⟨Nat.le_of_ble_eq_true rfl, Nat.le_of_ble_eq_true rfl⟩) (by omega) (hpl.lay (by omega) (by omega)) (T := TX3) (N := 4) rfl rfl hl rfl (Nat.le_of_ble_eq_true rfl) dX7_layer_156 ⟨Nat.le_of_ble_eq_true rfl, Nat.le_of_ble_eq_true rfl⟩) (fun z_31 g9 H locs hw G => ?_)
        obtain ⟨hg9, h_32⟩ := hw
        replace hg9 := hg9.symm
        subst hg9
        refine vx_ret ?_
        refine g_iret C G hr hlk (Nat.le_of_ble_eq_true rfl) (Nat.le_of_ble_eq_true rfl) dX7_layer_159 ?_
        exact ⟨hbn, frB.rf, by omega, Or.inr (Or.inr (Or.inr (Or.inr (Or.inr (Or.inr (Or.inr (Or.inr (Or.inl ⟨by omega, h_32.2.2⟩))))))))⟩
      by_cases e_33 : wh = 9
      · refine g_tswIn (v := 9) (off := 136) (tgt := 160) C dX7_layer_24 e_33 (by decide) (by decide) (by decide) (by decide) (by decide) ?_
        refine g_aload_n C dX7_layer_160 rfl hl 0 rfl ?_
        refine g_ci C G (g_runV (As := []) (rest := []) (pos := 2 + 2 + (li).toNat) C G (c_X3_greatestRadius l κ B n ad g (2 + 2 + (li).toNat) (v (4 * li + 1)) (v (4 * li + 2)) (v (4 * li + 3)) (v (4 * li + 4)) (by omega) (hpl.lay (by omega) (by omega)) hla.1) (cwV 0 C.1.2.2.2.2 gX7_layer_X3_greatestRadius rfl rfl rfl (by decide +kernel) ⟨Nat.le_of_ble_eq_true rfl, Nat.le_of_ble_eq_true rfl⟩) (by omega) (hpl.lay (by omega) (by omega)) (T := TX3) (N := 4) rfl rfl hl rfl (Nat.le_of_ble_eq_true rfl) dX7_layer_161 ⟨Nat.le_of_ble_eq_true rfl, Nat.le_of_ble_eq_true rfl⟩) (fun z_34 g9 H locs hw G => ?_)
        obtain ⟨hg9, h_35⟩ := hw
        replace hg9 := hg9.symm
        subst hg9
        refine vx_ret ?_
        refine g_iret C G hr hlk (Nat.le_of_ble_eq_true rfl) (Nat.le_of_ble_eq_true rfl) dX7_layer_164 ?_
        exact ⟨hbn, frB.rf, by omega, Or.inr (Or.inr (Or.inr (Or.inr (Or.inr (Or.inr (Or.inr (Or.inr (Or.inr (⟨by omega, h_35.2.2⟩)))))))))⟩
      refine g_tswOut (tgt := 165) C (by omega) dX7_layer_24 (by omega) (by decide) ?_
      refine g_throw C G X hlf hlk hnt hl (cls := "java/lang/IllegalArgumentException") (text := "what is not 0 to 9") (ik := 45) (is := 151) (ic := 49) (by decide +kernel) (by decide +kernel : Cond.classLink RX7 45 _ ∈ wsX7_layer) (by decide +kernel : Cond.initialized _ ∈ wsX7_layer) (by decide +kernel) (by decide +kernel) (by decide +kernel) at_iae (by decide +kernel) dX7_layer_165 dX7_layer_168 dX7_layer_169 dX7_layer_171 dX7_layer_174 (Nat.le_of_ble_eq_true rfl) (Nat.le_of_ble_eq_true rfl) (Nat.le_of_ble_eq_true rfl) (Nat.le_of_ble_eq_true rfl) (Nat.le_of_ble_eq_true rfl) (Nat.le_of_ble_eq_true rfl) ?_
      exact Or.inr (⟨rfl, by omega, rfl⟩)
    · cases hw
  · obtain ⟨hg9, ⟨b_2, hw⟩ | ⟨b_2, hw⟩⟩ := hw
    all_goals replace hg9 := hg9.symm
    all_goals subst hg9
    · cases hw
    · refine lv_astore_nN (lv' := [(3, .null), (0, .ref (ad 0)), (1, .int (iz li)), (2, .int (iz wh))]) C.1.1 C.1.2.1 dX7_layer_8 rfl hl (by decide) rfl (fun ls hl => ?_)
      refine lv_aload_nN C.1.1 C.1.2.1 dX7_layer_9 rfl (lv_at hl 0 rfl) ?_
      refine lv_ifnonnullN C.1.1 C.1.2.1 dX7_layer_10 ?_
      refine g_throw C G X hlf hlk hnt hl (cls := "java/lang/IndexOutOfBoundsException") (text := "no such layer") (ik := 116) (is := 118) (ic := 120) (by decide +kernel) (by decide +kernel : Cond.classLink RX7 116 _ ∈ wsX7_layer) (by decide +kernel : Cond.initialized _ ∈ wsX7_layer) (by decide +kernel) (by decide +kernel) (by decide +kernel) at_ioe (by decide +kernel) dX7_layer_13 dX7_layer_16 dX7_layer_17 dX7_layer_19 dX7_layer_22 (Nat.le_of_ble_eq_true rfl) (Nat.le_of_ble_eq_true rfl) (Nat.le_of_ble_eq_true rfl) (Nat.le_of_ble_eq_true rfl) (Nat.le_of_ble_eq_true rfl) (Nat.le_of_ble_eq_true rfl) ?_
      exact Or.inl ⟨rfl, by omega, rfl⟩
theorem fX7_pen_16 : gFld wsX7_pen RX7 16 7 2 := ⟨RX7, TX7, 8, rfl, by decide, by decide +kernel, by decide +kernel⟩
theorem fX7_pen_86 : gFld wsX7_pen RX7 86 4 0 := ⟨RX4, TX4, 6, rfl, by decide, by decide +kernel, by decide +kernel⟩
set_option maxHeartbeats 4000000 in
set_option maxRecDepth 100000 in
theorem c_X7_pen (l : Launch) (hlf : l.stackTraces = false) (κ : gKap) (B n : Nat) (ad : Nat → Nat) (g : Nat → va_E) (tl : Int) (nl : Int) (v : Int → Int) (li : Int) (t : Int) (hnn : 192 ≤ n) (hX : isX κ ad g tl) (hpl : isPl κ ad g 2 nl v) (hok : okPl nl v) (hli : inI li) (ht : inJ t) : vx_Met l yX7_pen wsX7_pen ({ frames := 6, cells := 1, slots := 6, locals := 82 }) (gPreX κ B n ad g [.ref (ad 0), .int (iz li), .long (jz t)]) (gQi κ B n ad (fun z g' => g' = g ∧ ((0 ≤ li ∧ li < nl) ∧ 0 ≤ t ∧ z = 1000 * ((v (4 * li + 4) + t) % v 0) + rad (v (4 * li + 1)) (v (4 * li + 2)) (v (4 * li + 3)) (t % v (4 * li + 1))))) (gXX κ B n ad (fun E g9 => (E = "java/lang/IndexOutOfBoundsException" ∧ (¬ (0 ≤ li ∧ li < nl)) ∧ g9 = g) ∨ (E = "java/lang/IllegalArgumentException" ∧ ((0 ≤ li ∧ li < nl) ∧ t < 0) ∧ g9 = g))) 1 6 (gFree B) := by
  refine g_metX RX7 (cc := cX7_pen) (maxL := 5) (ret := (some .int)) (by decide) rfl rfl (Nat.le_of_ble_eq_true rfl) ?_
  intro p e s m args below meth c C hr hlk hnt X G ls hl
  have hl : lv_has ls 5 [(0, .ref (ad 0)), (1, .int (iz li)), (2, .long (jz t))] := hl
  obtain ⟨hn6, hv0, hv25, hlay, hsee⟩ := id hok
  refine g_aload_n C dX7_pen_0 rfl hl 0 rfl ?_
  refine g_get C G (pos := 0) fX7_pen_16 (by omega) hX.1 rfl dX7_pen_1 ?_
  refine g_iload_n C dX7_pen_4 rfl hl 1 rfl ?_
  refine g_co C G (g_runV (As := [.int (iz li)]) (rest := []) (pos := 2) C G (c_X4_find l κ B n ad g 2 nl v li (by omega) hpl (by omega) (by omega)) (cwV 1 C.1.2.2.2.2 gX7_pen_X4_find rfl rfl rfl (by decide +kernel) ⟨Nat.le_of_ble_eq_true rfl, Nat.le_of_ble_eq_true rfl⟩) (by omega) hpl.1 (T := TX4) (N := 6) rfl rfl hl rfl (Nat.le_of_ble_eq_true rfl) dX7_pen_5 ⟨Nat.le_of_ble_eq_true rfl, Nat.le_of_ble_eq_true rfl⟩) (fun q_1 g9 H locs hw G => ?_) (fun g9 H locs hw G => ?_)
  · obtain ⟨hg9, ⟨b_2, hw⟩ | ⟨b_2, hw⟩⟩ := hw
    all_goals replace hg9 := hg9.symm
    all_goals subst hg9
    · cases hw
      have hla := hlay li (by omega) (by omega)
      refine lv_astore (lv' := [(4, .ref (ad (2 + 2 + (li).toNat))), (0, .ref (ad 0)), (1, .int (iz li)), (2, .long (jz t))]) C.1.1 C.1.2.1 dX7_pen_8 hl (by decide) rfl (fun ls hl => ?_)
      refine g_aload C dX7_pen_10 hl 0 rfl ?_
      refine lv_ifnonnull (tgt := 25) C.1.1 C.1.2.1 dX7_pen_12 (by decide) ?_
      refine g_lload_n C dX7_pen_25 rfl hl 3 rfl ?_
      refine g_lconst (a := 0) C dX7_pen_26 (by decide) ?_
      refine g_lcmp C (by omega) (by decide) dX7_pen_27 (fun z_3 h_4 => ?_)
      refine g_if_ge (tgt := 41) C (by omega) dX7_pen_28 (by decide) (fun c_5 => ?_) (fun c_5 => ?_)
      · refine g_sipush (a := 1000) C dX7_pen_41 (by decide) ?_
        refine g_aload C dX7_pen_44 hl 0 rfl ?_
        refine g_aload_n C dX7_pen_46 rfl hl 1 rfl ?_
        refine g_get C G (pos := 0) fX7_pen_16 (by omega) hX.1 rfl dX7_pen_47 ?_
        refine g_get C G (pos := 2) fX7_pen_86 (by omega) hpl.1 rfl dX7_pen_50 ?_
        refine g_lload_n C dX7_pen_53 rfl hl 3 rfl ?_
        refine g_ci C G (g_runV (As := [.int (iz (v 0)), .long (jz t)]) (rest := [.int (iz 1000)]) (pos := 2 + 2 + (li).toNat) C G (c_X3_angleAt l κ B n ad g (2 + 2 + (li).toNat) (v (4 * li + 1)) (v (4 * li + 2)) (v (4 * li + 3)) (v (4 * li + 4)) (v 0) t (by omega) (hpl.lay (by omega) (by omega)) hv0 (by omega) (by omega) (by omega)) (cwV 2 C.1.2.2.2.2 gX7_pen_X3_angleAt rfl rfl rfl (by decide +kernel) ⟨Nat.le_of_ble_eq_true rfl, Nat.le_of_ble_eq_true rfl⟩) (by omega) (hpl.lay (by omega) (by omega)) (T := TX3) (N := 4) rfl rfl hl rfl (Nat.le_of_ble_eq_true rfl) dX7_pen_54 ⟨Nat.le_of_ble_eq_true rfl, Nat.le_of_ble_eq_true rfl⟩) (fun z_6 g9 H locs hw G => ?_)
        obtain ⟨hg9, h_7⟩ := hw
        replace hg9 := hg9.symm
        subst hg9
        refine g_imul C dX7_pen_57 ?_
        refine g_aload C dX7_pen_58 hl 0 rfl ?_
        refine g_lload_n C dX7_pen_60 rfl hl 3 rfl ?_
        refine g_ci C G (g_runV (As := [.long (jz t)]) (rest := [.int (iz (1000 * z_6))]) (pos := 2 + 2 + (li).toNat) C G (c_X3_radiusAt l κ B n ad g (2 + 2 + (li).toNat) (v (4 * li + 1)) (v (4 * li + 2)) (v (4 * li + 3)) (v (4 * li + 4)) t (by omega) (hpl.lay (by omega) (by omega)) hla.1 (by omega) (by omega)) (cwV 1 C.1.2.2.2.2 gX7_pen_X3_radiusAt rfl rfl rfl (by decide +kernel) ⟨Nat.le_of_ble_eq_true rfl, Nat.le_of_ble_eq_true rfl⟩) (by omega) (hpl.lay (by omega) (by omega)) (T := TX3) (N := 4) rfl rfl hl rfl (Nat.le_of_ble_eq_true rfl) dX7_pen_61 ⟨Nat.le_of_ble_eq_true rfl, Nat.le_of_ble_eq_true rfl⟩) (fun z_8 g9 H locs hw G => ?_)
        obtain ⟨hg9, h_9⟩ := hw
        replace hg9 := hg9.symm
        subst hg9
        refine g_iadd C dX7_pen_64 ?_
        refine vx_ret ?_
        refine g_iret C G hr hlk (Nat.le_of_ble_eq_true rfl) (Nat.le_of_ble_eq_true rfl) dX7_pen_65 ?_
        have ea := h_7
        have er := h_9
        exact ⟨rfl, by omega, by omega, by rw [← ea.2.2, ← er.2.2]⟩
      · refine g_throw C G X hlf hlk hnt hl (cls := "java/lang/IllegalArgumentException") (text := "t is negative") (ik := 45) (is := 153) (ic := 49) (by decide +kernel) (by decide +kernel : Cond.classLink RX7 45 _ ∈ wsX7_pen) (by decide +kernel : Cond.initialized _ ∈ wsX7_pen) (by decide +kernel) (by decide +kernel) (by decide +kernel) at_iae (by decide +kernel) dX7_pen_31 dX7_pen_34 dX7_pen_35 dX7_pen_37 dX7_pen_40 (Nat.le_of_ble_eq_true rfl) (Nat.le_of_ble_eq_true rfl) (Nat.le_of_ble_eq_true rfl) (Nat.le_of_ble_eq_true rfl) (Nat.le_of_ble_eq_true rfl) (Nat.le_of_ble_eq_true rfl) ?_
        exact Or.inr (⟨rfl, by omega, rfl⟩)
    · cases hw
  · obtain ⟨hg9, ⟨b_2, hw⟩ | ⟨b_2, hw⟩⟩ := hw
    all_goals replace hg9 := hg9.symm
    all_goals subst hg9
    · cases hw
    · refine lv_astoreN (lv' := [(4, .null), (0, .ref (ad 0)), (1, .int (iz li)), (2, .long (jz t))]) C.1.1 C.1.2.1 dX7_pen_8 hl (by decide) rfl (fun ls hl => ?_)
      refine lv_aloadN C.1.1 C.1.2.1 dX7_pen_10 (lv_at hl 0 rfl) ?_
      refine lv_ifnonnullN C.1.1 C.1.2.1 dX7_pen_12 ?_
      refine g_throw C G X hlf hlk hnt hl (cls := "java/lang/IndexOutOfBoundsException") (text := "no such layer") (ik := 116) (is := 118) (ic := 120) (by decide +kernel) (by decide +kernel : Cond.classLink RX7 116 _ ∈ wsX7_pen) (by decide +kernel : Cond.initialized _ ∈ wsX7_pen) (by decide +kernel) (by decide +kernel) (by decide +kernel) at_ioe (by decide +kernel) dX7_pen_15 dX7_pen_18 dX7_pen_19 dX7_pen_21 dX7_pen_24 (Nat.le_of_ble_eq_true rfl) (Nat.le_of_ble_eq_true rfl) (Nat.le_of_ble_eq_true rfl) (Nat.le_of_ble_eq_true rfl) (Nat.le_of_ble_eq_true rfl) (Nat.le_of_ble_eq_true rfl) ?_
      exact Or.inl ⟨rfl, by omega, rfl⟩
theorem fX7_comes_16 : gFld wsX7_comes RX7 16 7 2 := ⟨RX7, TX7, 8, rfl, by decide, by decide +kernel, by decide +kernel⟩
theorem fX7_comes_86 : gFld wsX7_comes RX7 86 4 0 := ⟨RX4, TX4, 6, rfl, by decide, by decide +kernel, by decide +kernel⟩
set_option maxHeartbeats 4000000 in
set_option maxRecDepth 100000 in
theorem c_X7_comes (l : Launch) (hlf : l.stackTraces = false) (κ : gKap) (B n : Nat) (ad : Nat → Nat) (g : Nat → va_E) (tl : Int) (nl : Int) (v : Int → Int) (li : Int) (an : Int) (ra : Int) (hnn : 192 ≤ n) (hX : isX κ ad g tl) (hpl : isPl κ ad g 2 nl v) (hok : okPl nl v) (hli : inI li) (han : inI an) (hra : inI ra) : vx_Met l yX7_comes wsX7_comes ({ frames := 6, cells := 1, slots := 6, locals := 82 }) (gPreX κ B n ad g [.ref (ad 0), .int (iz li), .int (iz an), .int (iz ra)]) (gQi κ B n ad (fun z g' => g' = g ∧ ((0 ≤ li ∧ li < nl) ∧ ((0 ≤ an ∧ an < v 0) ∧ 0 ≤ ra ∧ ra ≤ 300) ∧ isFirst (fun t => (v (4 * li + 4) + t) % v 0 = an ∧ rad (v (4 * li + 1)) (v (4 * li + 2)) (v (4 * li + 3)) (t % v (4 * li + 1)) = ra) (pd (v 0) (v (4 * li + 1))) z))) (gXX κ B n ad (fun E g9 => (E = "java/lang/IndexOutOfBoundsException" ∧ (¬ (0 ≤ li ∧ li < nl)) ∧ g9 = g) ∨ (E = "java/lang/IllegalArgumentException" ∧ ((0 ≤ li ∧ li < nl) ∧ ¬ ((0 ≤ an ∧ an < v 0) ∧ 0 ≤ ra ∧ ra ≤ 300)) ∧ g9 = g))) 1 6 (gFree B) := by
  refine g_metX RX7 (cc := cX7_comes) (maxL := 5) (ret := (some .int)) (by decide) rfl rfl (Nat.le_of_ble_eq_true rfl) ?_
  intro p e s m args below meth c C hr hlk hnt X G ls hl
  have hl : lv_has ls 5 [(0, .ref (ad 0)), (1, .int (iz li)), (2, .int (iz an)), (3, .int (iz ra))] := hl
  obtain ⟨hn6, hv0, hv25, hlay, hsee⟩ := id hok
  refine g_aload_n C dX7_comes_0 rfl hl 0 rfl ?_
  refine g_get C G (pos := 0) fX7_comes_16 (by omega) hX.1 rfl dX7_comes_1 ?_
  refine g_iload_n C dX7_comes_4 rfl hl 1 rfl ?_
  refine g_co C G (g_runV (As := [.int (iz li)]) (rest := []) (pos := 2) C G (c_X4_find l κ B n ad g 2 nl v li (by omega) hpl (by omega) (by omega)) (cwV 1 C.1.2.2.2.2 gX7_comes_X4_find rfl rfl rfl (by decide +kernel) ⟨Nat.le_of_ble_eq_true rfl, Nat.le_of_ble_eq_true rfl⟩) (by omega) hpl.1 (T := TX4) (N := 6) rfl rfl hl rfl (Nat.le_of_ble_eq_true rfl) dX7_comes_5 ⟨Nat.le_of_ble_eq_true rfl, Nat.le_of_ble_eq_true rfl⟩) (fun q_1 g9 H locs hw G => ?_) (fun g9 H locs hw G => ?_)
  · obtain ⟨hg9, ⟨b_2, hw⟩ | ⟨b_2, hw⟩⟩ := hw
    all_goals replace hg9 := hg9.symm
    all_goals subst hg9
    · cases hw
      have hla := hlay li (by omega) (by omega)
      refine lv_astore (lv' := [(4, .ref (ad (2 + 2 + (li).toNat))), (0, .ref (ad 0)), (1, .int (iz li)), (2, .int (iz an)), (3, .int (iz ra))]) C.1.1 C.1.2.1 dX7_comes_8 hl (by decide) rfl (fun ls hl => ?_)
      refine g_aload C dX7_comes_10 hl 0 rfl ?_
      refine lv_ifnonnull (tgt := 25) C.1.1 C.1.2.1 dX7_comes_12 (by decide) ?_
      refine g_aload_n C dX7_comes_25 rfl hl 1 rfl ?_
      refine g_get C G (pos := 0) fX7_comes_16 (by omega) hX.1 rfl dX7_comes_26 ?_
      refine g_iload_n C dX7_comes_29 rfl hl 3 rfl ?_
      refine g_ci C G (g_runV (As := [.int (iz an)]) (rest := []) (pos := 2) C G (c_X4_hasTooth l κ B n ad g 2 nl v an (by omega) hpl (by omega) (by omega)) (cwV 1 C.1.2.2.2.2 gX7_comes_X4_hasTooth rfl rfl rfl (by decide +kernel) ⟨Nat.le_of_ble_eq_true rfl, Nat.le_of_ble_eq_true rfl⟩) (by omega) hpl.1 (T := TX4) (N := 6) rfl rfl hl rfl (Nat.le_of_ble_eq_true rfl) dX7_comes_30 ⟨Nat.le_of_ble_eq_true rfl, Nat.le_of_ble_eq_true rfl⟩) (fun z_4 g9 H locs hw G => ?_)
      obtain ⟨hg9, hw⟩ := hw
      replace hg9 := hg9.symm
      subst hg9
      rcases hw with ⟨b_3, rfl⟩ | ⟨b_3, rfl⟩
      · refine g_if_eq (tgt := 43) C (by decide) dX7_comes_33 (by decide) (fun c9 => absurd c9 (by decide)) (fun _ => ?_)
        refine g_iload_n C dX7_comes_36 rfl hl 4 rfl ?_
        refine g_ci C G (g_runS (As := [.int (iz ra)]) (rest := []) C G (c_X7_isRadius l κ B n ad g ra (by omega)) (va_cwS 1 C.1.2.2.2.2 gX7_comes_X7_isRadius rfl rfl rfl (by decide +kernel) ⟨Nat.le_of_ble_eq_true rfl, Nat.le_of_ble_eq_true rfl⟩) rfl hl rfl (Nat.le_of_ble_eq_true rfl) dX7_comes_37 ⟨Nat.le_of_ble_eq_true rfl, Nat.le_of_ble_eq_true rfl⟩) (fun z_6 g9 H locs hw G => ?_)
        obtain ⟨hg9, hw⟩ := hw
        replace hg9 := hg9.symm
        subst hg9
        rcases hw with ⟨b_5, rfl⟩ | ⟨b_5, rfl⟩
        · refine g_if_ne (tgt := 53) C (by decide) dX7_comes_40 (by decide) (fun _ => ?_) (fun c9 => absurd c9 (by decide))
          refine g_aload C dX7_comes_53 hl 0 rfl ?_
          refine g_aload_n C dX7_comes_55 rfl hl 1 rfl ?_
          refine g_get C G (pos := 0) fX7_comes_16 (by omega) hX.1 rfl dX7_comes_56 ?_
          refine g_get C G (pos := 2) fX7_comes_86 (by omega) hpl.1 rfl dX7_comes_59 ?_
          refine g_iload_n C dX7_comes_62 rfl hl 3 rfl ?_
          refine g_iload_n C dX7_comes_63 rfl hl 4 rfl ?_
          refine g_ci C G (g_runV (As := [.int (iz (v 0)), .int (iz an), .int (iz ra)]) (rest := []) (pos := 2 + 2 + (li).toNat) C G (c_X3_firstStepAt l κ B n ad g (2 + 2 + (li).toNat) (v (4 * li + 1)) (v (4 * li + 2)) (v (4 * li + 3)) (v (4 * li + 4)) (v 0) an ra (by omega) (hpl.lay (by omega) (by omega)) hla.1 hv0 hla.2 (by omega) (by omega)) (cwV 3 C.1.2.2.2.2 gX7_comes_X3_firstStepAt rfl rfl rfl (by decide +kernel) ⟨Nat.le_of_ble_eq_true rfl, Nat.le_of_ble_eq_true rfl⟩) (by omega) (hpl.lay (by omega) (by omega)) (T := TX3) (N := 4) rfl rfl hl rfl (Nat.le_of_ble_eq_true rfl) dX7_comes_64 ⟨Nat.le_of_ble_eq_true rfl, Nat.le_of_ble_eq_true rfl⟩) (fun z_7 g9 H locs hw G => ?_)
          obtain ⟨hg9, h_8⟩ := hw
          replace hg9 := hg9.symm
          subst hg9
          refine vx_ret ?_
          refine g_iret C G hr hlk (Nat.le_of_ble_eq_true rfl) (Nat.le_of_ble_eq_true rfl) dX7_comes_67 ?_
          exact ⟨rfl, by omega, by omega, h_8⟩
        · refine g_if_ne (tgt := 53) C (by decide) dX7_comes_40 (by decide) (fun c9 => absurd c9 (by decide)) (fun _ => ?_)
          refine g_throw C G X hlf hlk hnt hl (cls := "java/lang/IllegalArgumentException") (text := "angle or radius is out of range") (ik := 45) (is := 170) (ic := 49) (by decide +kernel) (by decide +kernel : Cond.classLink RX7 45 _ ∈ wsX7_comes) (by decide +kernel : Cond.initialized _ ∈ wsX7_comes) (by decide +kernel) (by decide +kernel) (by decide +kernel) at_iae (by decide +kernel) dX7_comes_43 dX7_comes_46 dX7_comes_47 dX7_comes_49 dX7_comes_52 (Nat.le_of_ble_eq_true rfl) (Nat.le_of_ble_eq_true rfl) (Nat.le_of_ble_eq_true rfl) (Nat.le_of_ble_eq_true rfl) (Nat.le_of_ble_eq_true rfl) (Nat.le_of_ble_eq_true rfl) ?_
          exact Or.inr (⟨rfl, by omega, rfl⟩)
      · refine g_if_eq (tgt := 43) C (by decide) dX7_comes_33 (by decide) (fun _ => ?_) (fun c9 => absurd c9 (by decide))
        refine g_throw C G X hlf hlk hnt hl (cls := "java/lang/IllegalArgumentException") (text := "angle or radius is out of range") (ik := 45) (is := 170) (ic := 49) (by decide +kernel) (by decide +kernel : Cond.classLink RX7 45 _ ∈ wsX7_comes) (by decide +kernel : Cond.initialized _ ∈ wsX7_comes) (by decide +kernel) (by decide +kernel) (by decide +kernel) at_iae (by decide +kernel) dX7_comes_43 dX7_comes_46 dX7_comes_47 dX7_comes_49 dX7_comes_52 (Nat.le_of_ble_eq_true rfl) (Nat.le_of_ble_eq_true rfl) (Nat.le_of_ble_eq_true rfl) (Nat.le_of_ble_eq_true rfl) (Nat.le_of_ble_eq_true rfl) (Nat.le_of_ble_eq_true rfl) ?_
        exact Or.inr (⟨rfl, by omega, rfl⟩)
    · cases hw
  · obtain ⟨hg9, ⟨b_2, hw⟩ | ⟨b_2, hw⟩⟩ := hw
    all_goals replace hg9 := hg9.symm
    all_goals subst hg9
    · cases hw
    · refine lv_astoreN (lv' := [(4, .null), (0, .ref (ad 0)), (1, .int (iz li)), (2, .int (iz an)), (3, .int (iz ra))]) C.1.1 C.1.2.1 dX7_comes_8 hl (by decide) rfl (fun ls hl => ?_)
      refine lv_aloadN C.1.1 C.1.2.1 dX7_comes_10 (lv_at hl 0 rfl) ?_
      refine lv_ifnonnullN C.1.1 C.1.2.1 dX7_comes_12 ?_
      refine g_throw C G X hlf hlk hnt hl (cls := "java/lang/IndexOutOfBoundsException") (text := "no such layer") (ik := 116) (is := 118) (ic := 120) (by decide +kernel) (by decide +kernel : Cond.classLink RX7 116 _ ∈ wsX7_comes) (by decide +kernel : Cond.initialized _ ∈ wsX7_comes) (by decide +kernel) (by decide +kernel) (by decide +kernel) at_ioe (by decide +kernel) dX7_comes_15 dX7_comes_18 dX7_comes_19 dX7_comes_21 dX7_comes_24 (Nat.le_of_ble_eq_true rfl) (Nat.le_of_ble_eq_true rfl) (Nat.le_of_ble_eq_true rfl) (Nat.le_of_ble_eq_true rfl) (Nat.le_of_ble_eq_true rfl) (Nat.le_of_ble_eq_true rfl) ?_
      exact Or.inl ⟨rfl, by omega, rfl⟩
theorem fX7_at_41 : gFld wsX7_at RX7 41 7 7 := ⟨RX7, TX7, 8, rfl, by decide, by decide +kernel, by decide +kernel⟩
theorem fX7_at_16 : gFld wsX7_at RX7 16 7 2 := ⟨RX7, TX7, 8, rfl, by decide, by decide +kernel, by decide +kernel⟩
set_option maxHeartbeats 4000000 in
set_option maxRecDepth 100000 in
theorem c_X7_at (l : Launch) (hlf : l.stackTraces = false) (κ : gKap) (B n : Nat) (ad : Nat → Nat) (g : Nat → va_E) (tl : Int) (nl : Int) (v : Int → Int) (ra : Int) (hnn : 192 ≤ n) (hX : isX κ ad g tl) (hpl : isPl κ ad g 2 nl v) (hok : okPl nl v) (hbn : isBn κ ad g 186) (hra : inI ra) : vx_Met l yX7_at wsX7_at ({ frames := 6, cells := 1, slots := 6, locals := 100 }) (gPreX κ B n ad g [.ref (ad 0), .int (iz ra)]) (gQi κ B n ad (fun z g' => isBn κ ad g' 186 ∧ frB g g' 186 ∧ (0 ≤ ra ∧ ra ≤ 300) ∧ z = (cntR (fun x y => ∃ l9, 0 ≤ l9 ∧ l9 < nl ∧ PTl v l9 x y) ra : Int))) (gXX κ B n ad (fun E g9 => (E = "java/lang/IllegalArgumentException" ∧ (¬ (0 ≤ ra ∧ ra ≤ 300)) ∧ g9 = g))) 1 6 (gFree B) := by
  refine g_metX RX7 (cc := cX7_at) (maxL := 2) (ret := (some .int)) (by decide) rfl rfl (Nat.le_of_ble_eq_true rfl) ?_
  intro p e s m args below meth c C hr hlk hnt X G ls hl
  have hl : lv_has ls 2 [(0, .ref (ad 0)), (1, .int (iz ra))] := hl
  obtain ⟨hn6, hv0, hv25, hlay, hsee⟩ := id hok
  refine g_iload_n C dX7_at_0 rfl hl 1 rfl ?_
  refine g_ci C G (g_runS (As := [.int (iz ra)]) (rest := []) C G (c_X7_isRadius l κ B n ad g ra (by omega)) (va_cwS 1 C.1.2.2.2.2 gX7_at_X7_isRadius rfl rfl rfl (by decide +kernel) ⟨Nat.le_of_ble_eq_true rfl, Nat.le_of_ble_eq_true rfl⟩) rfl hl rfl (Nat.le_of_ble_eq_true rfl) dX7_at_1 ⟨Nat.le_of_ble_eq_true rfl, Nat.le_of_ble_eq_true rfl⟩) (fun z_2 g9 H locs hw G => ?_)
  obtain ⟨hg9, hw⟩ := hw
  replace hg9 := hg9.symm
  subst hg9
  rcases hw with ⟨b_1, rfl⟩ | ⟨b_1, rfl⟩
  · refine g_if_ne (tgt := 17) C (by decide) dX7_at_4 (by decide) (fun _ => ?_) (fun c9 => absurd c9 (by decide))
    refine g_aload_n C dX7_at_17 rfl hl 0 rfl ?_
    refine g_get C G (pos := 0) fX7_at_41 (by omega) hX.1 rfl dX7_at_18 ?_
    refine g_aload_n C dX7_at_21 rfl hl 0 rfl ?_
    refine g_get C G (pos := 0) fX7_at_16 (by omega) hX.1 rfl dX7_at_22 ?_
    refine g_co C G (g_runV (As := [.ref (ad 2)]) (rest := []) (pos := 186) C G (c_X0_cutAll l κ B n ad g 186 2 nl v (by omega) hbn (by omega) hpl hok (by omega)) (cwV 1 C.1.2.2.2.2 gX7_at_X0_cutAll rfl rfl rfl (by decide +kernel) ⟨Nat.le_of_ble_eq_true rfl, Nat.le_of_ble_eq_true rfl⟩) (by omega) hbn.1 (T := TX0) (N := 3) rfl rfl hl rfl (Nat.le_of_ble_eq_true rfl) dX7_at_25 ⟨Nat.le_of_ble_eq_true rfl, Nat.le_of_ble_eq_true rfl⟩) (fun q_7 g_3 H locs hw9 G => ?_) (fun g9 H locs hw9 G => absurd hw9.1 (fun z => by cases z))
    obtain ⟨hq9, hbn_4, hfb_5, hx_6⟩ := hw9
    cases hq9
    have hc_8 : g_3 0 = .inr (7, [.ref (ad 1), .int (iz tl), .ref (ad 2), .ref (ad 12), .ref (ad 22), .ref (ad 164), .ref (ad 165), .ref (ad 186)]) := (hfb_5 _ (by omega)).trans hX.1
    have hc_9 : g_3 164 = aPl κ 2 (fun j => if j < 2 then some (ad (166 + 10 * j)) else none) := (hfb_5 _ (by omega)).trans hX.2
    have hpl_10 : isPl κ ad g_3 2 nl v := hpl.far (fun _ _ _ => hfb_5 _ (by omega))
    obtain ⟨V_11, hV_12, hr_13⟩ := hx_6
    refine g_iload_n C dX7_at_28 rfl hl 1 rfl ?_
    refine g_ci C G (g_runV (As := [.int (iz ra)]) (rest := []) (pos := 186 + 1) C G (c_X5_sizeAt l κ B n ad g_3 (186 + 1) V_11 ra (by omega) hbn_4.2.1 hV_12 hr_13.lt (by omega)) (cwV 1 C.1.2.2.2.2 gX7_at_X5_sizeAt rfl rfl rfl (by decide +kernel) ⟨Nat.le_of_ble_eq_true rfl, Nat.le_of_ble_eq_true rfl⟩) (by omega) hbn_4.2.1 (T := TX5) (N := 1) rfl rfl hl rfl (Nat.le_of_ble_eq_true rfl) dX7_at_29 ⟨Nat.le_of_ble_eq_true rfl, Nat.le_of_ble_eq_true rfl⟩) (fun z_14 g9 H locs hw G => ?_)
    obtain ⟨hg9, h_15⟩ := hw
    replace hg9 := hg9.symm
    subst hg9
    refine vx_ret ?_
    refine g_iret C G hr hlk (Nat.le_of_ble_eq_true rfl) (Nat.le_of_ble_eq_true rfl) dX7_at_32 ?_
    exact ⟨hbn_4, hfb_5, by omega, h_15.trans (congrArg (fun x : Nat => (x : Int)) (hr_13.atR (by omega) (by omega)))⟩
  · refine g_if_ne (tgt := 17) C (by decide) dX7_at_4 (by decide) (fun c9 => absurd c9 (by decide)) (fun _ => ?_)
    refine g_throw C G X hlf hlk hnt hl (cls := "java/lang/IllegalArgumentException") (text := "radius is not 0 to 300") (ik := 45) (is := 176) (ic := 49) (by decide +kernel) (by decide +kernel : Cond.classLink RX7 45 _ ∈ wsX7_at) (by decide +kernel : Cond.initialized _ ∈ wsX7_at) (by decide +kernel) (by decide +kernel) (by decide +kernel) at_iae (by decide +kernel) dX7_at_7 dX7_at_10 dX7_at_11 dX7_at_13 dX7_at_16 (Nat.le_of_ble_eq_true rfl) (Nat.le_of_ble_eq_true rfl) (Nat.le_of_ble_eq_true rfl) (Nat.le_of_ble_eq_true rfl) (Nat.le_of_ble_eq_true rfl) (Nat.le_of_ble_eq_true rfl) ?_
    exact ⟨rfl, by omega, rfl⟩
theorem fX7_blank_16 : gFld wsX7_blank RX7 16 7 2 := ⟨RX7, TX7, 8, rfl, by decide, by decide +kernel, by decide +kernel⟩
theorem fX7_blank_74 : gFld wsX7_blank RX7 74 4 1 := ⟨RX4, TX4, 6, rfl, by decide, by decide +kernel, by decide +kernel⟩
theorem fX7_blank_41 : gFld wsX7_blank RX7 41 7 7 := ⟨RX7, TX7, 8, rfl, by decide, by decide +kernel, by decide +kernel⟩
set_option maxHeartbeats 4000000 in
set_option maxRecDepth 100000 in
theorem c_X7_blank (l : Launch) (κ : gKap) (B n : Nat) (ad : Nat → Nat) (g : Nat → va_E) (tl : Int) (nl : Int) (v : Int → Int) (hnn : 192 ≤ n) (hX : isX κ ad g tl) (hpl : isPl κ ad g 2 nl v) (hok : okPl nl v) (hbn : isBn κ ad g 186) : Met l yX7_blank wsX7_blank ({ frames := 4, cells := 0, slots := 0, locals := 100 }) (gPre κ B n ad g [.ref (ad 0)]) (gQi κ B n ad (fun z g' => isBn κ ad g' 186 ∧ frB g g' 186 ∧ ((nl = 0 ∧ z = -9) ∨ (0 < nl ∧ z = (gpf (fun q9 => 0 < (cntR (fun x y => ∃ l9, 0 ≤ l9 ∧ l9 < nl ∧ PTl v l9 x y) q9 : Int)) 301).1)))) 0 0 (gFree B) := by
  refine g_met RX7 (cc := cX7_blank) (maxL := 1) (ret := (some .int)) (by decide) rfl rfl (Nat.le_of_ble_eq_true rfl) ?_
  intro p e s m args below meth c C hr hlk hnm G ls hl
  have hl : lv_has ls 1 [(0, .ref (ad 0))] := hl
  obtain ⟨hn6, hv0, hv25, hlay, hsee⟩ := id hok
  refine g_aload_n C dX7_blank_0 rfl hl 0 rfl ?_
  refine g_get C G (pos := 0) fX7_blank_16 (by omega) hX.1 rfl dX7_blank_1 ?_
  refine g_get C G (pos := 2) fX7_blank_74 (by omega) hpl.1 rfl dX7_blank_4 ?_
  refine g_if_ne (tgt := 15) C (by omega) dX7_blank_7 (by decide) (fun c_1 => ?_) (fun c_1 => ?_)
  · refine g_aload_n C dX7_blank_15 rfl hl 0 rfl ?_
    refine g_get C G (pos := 0) fX7_blank_41 (by omega) hX.1 rfl dX7_blank_16 ?_
    refine g_aload_n C dX7_blank_19 rfl hl 0 rfl ?_
    refine g_get C G (pos := 0) fX7_blank_16 (by omega) hX.1 rfl dX7_blank_20 ?_
    refine g_co C G (g_runV (As := [.ref (ad 2)]) (rest := []) (pos := 186) C G (c_X0_cutAll l κ B n ad g 186 2 nl v (by omega) hbn (by omega) hpl hok (by omega)) (cwV 1 C.1.2.2.2.2 gX7_blank_X0_cutAll rfl rfl rfl (by decide +kernel) ⟨Nat.le_of_ble_eq_true rfl, Nat.le_of_ble_eq_true rfl⟩) (by omega) hbn.1 (T := TX0) (N := 3) rfl rfl hl rfl (Nat.le_of_ble_eq_true rfl) dX7_blank_23 ⟨Nat.le_of_ble_eq_true rfl, Nat.le_of_ble_eq_true rfl⟩) (fun q_6 g_2 H locs hw9 G => ?_) (fun g9 H locs hw9 G => absurd hw9.1 (fun z => by cases z))
    obtain ⟨hq9, hbn_3, hfb_4, hx_5⟩ := hw9
    cases hq9
    have hc_7 : g_2 0 = .inr (7, [.ref (ad 1), .int (iz tl), .ref (ad 2), .ref (ad 12), .ref (ad 22), .ref (ad 164), .ref (ad 165), .ref (ad 186)]) := (hfb_4 _ (by omega)).trans hX.1
    have hc_8 : g_2 164 = aPl κ 2 (fun j => if j < 2 then some (ad (166 + 10 * j)) else none) := (hfb_4 _ (by omega)).trans hX.2
    have hpl_9 : isPl κ ad g_2 2 nl v := hpl.far (fun _ _ _ => hfb_4 _ (by omega))
    obtain ⟨V_10, hV_11, hr_12⟩ := hx_5
    refine g_ci C G (g_runV (As := []) (rest := []) (pos := 186 + 1) C G (c_X5_widestGap l κ B n ad g_2 (186 + 1) V_10 (by omega) hbn_3.2.1 hV_11 hr_12.lt) (cwV 0 C.1.2.2.2.2 gX7_blank_X5_widestGap rfl rfl rfl (by decide +kernel) ⟨Nat.le_of_ble_eq_true rfl, Nat.le_of_ble_eq_true rfl⟩) (by omega) hbn_3.2.1 (T := TX5) (N := 1) rfl rfl hl rfl (Nat.le_of_ble_eq_true rfl) dX7_blank_26 ⟨Nat.le_of_ble_eq_true rfl, Nat.le_of_ble_eq_true rfl⟩) (fun z_13 g9 H locs hw G => ?_)
    obtain ⟨hg9, h_14⟩ := hw
    replace hg9 := hg9.symm
    subst hg9
    refine g_iret C G hr hlk (Nat.le_of_ble_eq_true rfl) (Nat.le_of_ble_eq_true rfl) dX7_blank_29 ?_
    exact ⟨hbn_3, hfb_4, Or.inr ⟨by omega, by rw [h_14.2.2, gpf_congr 301 (fun r r0 r1 => by rw [hr_12.atR r0 (by omega)])]⟩⟩
  · refine g_bipush (a := (-9)) C dX7_blank_10 (by decide) ?_
    refine g_goto (tgt := 29) C dX7_blank_12 (by decide) ?_
    refine g_iret C G hr hlk (Nat.le_of_ble_eq_true rfl) (Nat.le_of_ble_eq_true rfl) dX7_blank_29 ?_
    exact ⟨hbn, frB.rf, Or.inl ⟨by omega, rfl⟩⟩
theorem fX7_order_16 : gFld wsX7_order RX7 16 7 2 := ⟨RX7, TX7, 8, rfl, by decide, by decide +kernel, by decide +kernel⟩
theorem fX7_order_74 : gFld wsX7_order RX7 74 4 1 := ⟨RX4, TX4, 6, rfl, by decide, by decide +kernel, by decide +kernel⟩
set_option maxHeartbeats 4000000 in
set_option maxRecDepth 100000 in
theorem c_X7_order (l : Launch) (hlf : l.stackTraces = false) (κ : gKap) (B n : Nat) (ad : Nat → Nat) (g : Nat → va_E) (tl : Int) (nl : Int) (v : Int → Int) (pl : Int) (hnn : 192 ≤ n) (hX : isX κ ad g tl) (hpl : isPl κ ad g 2 nl v) (hok : okPl nl v) (hpl9 : inI pl) : vx_Met l yX7_order wsX7_order ({ frames := 6, cells := 1, slots := 6, locals := 98 }) (gPreX κ B n ad g [.ref (ad 0), .int (iz pl)]) (gQi κ B n ad (fun z g' => g' = g ∧ (0 ≤ pl ∧ isFirst (fun l9 => cutN nl v l9 = pl) nl z))) (gXX κ B n ad (fun E g9 => (E = "java/lang/IllegalArgumentException" ∧ (pl < 0) ∧ g9 = g))) 1 6 (gFree B) := by
  refine g_metX RX7 (cc := cX7_order) (maxL := 3) (ret := (some .int)) (by decide) rfl rfl (Nat.le_of_ble_eq_true rfl) ?_
  intro p e s m args below meth c C hr hlk hnt X G ls hl
  have hl : lv_has ls 3 [(0, .ref (ad 0)), (1, .int (iz pl))] := hl
  obtain ⟨hn6, hv0, hv25, hlay, hsee⟩ := id hok
  refine g_iload_n C dX7_order_0 rfl hl 1 rfl ?_
  refine g_if_ge (tgt := 14) C (by omega) dX7_order_1 (by decide) (fun c_1 => ?_) (fun c_1 => ?_)
  · refine g_iconst (a := 0) C dX7_order_14 rfl ?_
    refine lv_istore_n (lv' := [(2, .int (iz 0)), (0, .ref (ad 0)), (1, .int (iz pl))]) C.1.1 C.1.2.1 dX7_order_15 rfl hl (by decide) rfl (fun ls hl => ?_)
    have lp_16_n_3 : ∀ (k_2 : Nat) (k : Int), (nl - k).toNat < k_2 → (0 ≤ k) → (k ≤ nl) → (∀ j, 0 ≤ j → j < k → ¬ cutN nl v j = pl) → ∀ (H : Heap) (locs : List Loc), gG κ B n ad s g H locs → ∀ (ls : Array Slot), lv_has ls 3 [(0, .ref (ad 0)), (1, .int (iz pl)), (2, .int (iz k))] → W p l e ({ frames := 6, cells := 1, slots := 6, locals := 98 }) s m args below meth c H locs 0 0 (vx_MQ below (gQi κ B n ad (fun z g' => g' = g ∧ (0 ≤ pl ∧ isFirst (fun l9 => cutN nl v l9 = pl) nl z))) (gXX κ B n ad (fun E g9 => (E = "java/lang/IllegalArgumentException" ∧ (pl < 0) ∧ g9 = g))) args s 1 6 (gFree B)) (F0 m 16 ls []) := by
      intro k_2
      induction k_2 with
      | zero => intro k hm; exact absurd hm (Nat.not_lt_zero _)
      | succ k_2 ih_lp_16_n_3 =>
        intro k hm hk0 hk1 hno H locs G ls hl
        refine g_iload_n C dX7_order_16 rfl hl 2 rfl ?_
        refine g_aload_n C dX7_order_17 rfl hl 0 rfl ?_
        refine g_get C G (pos := 0) fX7_order_16 (by omega) hX.1 rfl dX7_order_18 ?_
        refine g_get C G (pos := 2) fX7_order_74 (by omega) hpl.1 rfl dX7_order_21 ?_
        refine g_icmp_ge (tgt := 47) C (by omega) (by omega) dX7_order_24 (by decide) (fun c_4 => ?_) (fun c_4 => ?_)
        · refine g_bipush (a := (-9)) C dX7_order_47 (by decide) ?_
          refine vx_ret ?_
          refine g_iret C G hr hlk (Nat.le_of_ble_eq_true rfl) (Nat.le_of_ble_eq_true rfl) dX7_order_49 ?_
          exact ⟨rfl, by omega, Or.inr ⟨rfl, fun j j0 j1 => hno j j0 (by omega)⟩⟩
        · refine g_aload_n C dX7_order_27 rfl hl 0 rfl ?_
          refine g_get C G (pos := 0) fX7_order_16 (by omega) hX.1 rfl dX7_order_28 ?_
          refine g_iload_n C dX7_order_31 rfl hl 2 rfl ?_
          refine g_ci C G (g_runV (As := [.int (iz k)]) (rest := []) (pos := 2) C G (c_X4_cutBefore l κ B n ad g 2 nl v k (by omega) hpl hok (by omega)) (cwV 1 C.1.2.2.2.2 gX7_order_X4_cutBefore rfl rfl rfl (by decide +kernel) ⟨Nat.le_of_ble_eq_true rfl, Nat.le_of_ble_eq_true rfl⟩) (by omega) hpl.1 (T := TX4) (N := 6) rfl rfl hl rfl (Nat.le_of_ble_eq_true rfl) dX7_order_32 ⟨Nat.le_of_ble_eq_true rfl, Nat.le_of_ble_eq_true rfl⟩) (fun z_5 g9 H locs hw G => ?_)
          obtain ⟨hg9, h_6⟩ := hw
          replace hg9 := hg9.symm
          subst hg9
          refine g_iload_n C dX7_order_35 rfl hl 1 rfl ?_
          refine g_icmp_ne (tgt := 41) C (by omega) (by omega) dX7_order_36 (by decide) (fun c_7 => ?_) (fun c_7 => ?_)
          · refine lv_iinc (v := iz (k + 1)) (lv' := [(2, .int (iz (k + 1))), (0, .ref (ad 0)), (1, .int (iz pl))]) C.1.1 C.1.2.1 dX7_order_41 hl (k := 2) rfl (g_inc (by omega)) (by decide) rfl (fun ls hl => ?_)
            refine g_goto (tgt := 16) C dX7_order_44 (by decide) ?_
            exact ih_lp_16_n_3 (k + 1) (by omega) (by omega) (by omega) (fun j j0 j1 => by
                by_cases hj : j = k
                · rw [hj, ← h_6.1]; omega
                · exact hno j j0 (by omega)) _ _ G _ (lv_sub hl [1, 2, 0] rfl)
          · refine g_iload_n C dX7_order_39 rfl hl 2 rfl ?_
            refine vx_ret ?_
            refine g_iret C G hr hlk (Nat.le_of_ble_eq_true rfl) (Nat.le_of_ble_eq_true rfl) dX7_order_40 ?_
            exact ⟨rfl, by omega, Or.inl ⟨hk0, by omega, by show cutN nl v k = pl; rw [← h_6.1]; omega, hno⟩⟩
    exact lp_16_n_3 _ 0 (Nat.lt_succ_self _) (by omega) (by omega) (fun j j0 j1 => absurd j1 (by omega)) _ _ G _ (lv_sub hl [1, 2, 0] rfl)
  · refine g_throw C G X hlf hlk hnt hl (cls := "java/lang/IllegalArgumentException") (text := "place is negative") (ik := 45) (is := 188) (ic := 49) (by decide +kernel) (by decide +kernel : Cond.classLink RX7 45 _ ∈ wsX7_order) (by decide +kernel : Cond.initialized _ ∈ wsX7_order) (by decide +kernel) (by decide +kernel) (by decide +kernel) at_iae (by decide +kernel) dX7_order_4 dX7_order_7 dX7_order_8 dX7_order_10 dX7_order_13 (Nat.le_of_ble_eq_true rfl) (Nat.le_of_ble_eq_true rfl) (Nat.le_of_ble_eq_true rfl) (Nat.le_of_ble_eq_true rfl) (Nat.le_of_ble_eq_true rfl) (Nat.le_of_ble_eq_true rfl) ?_
    exact ⟨rfl, by omega, rfl⟩
theorem fX7_sighting_16 : gFld wsX7_sighting RX7 16 7 2 := ⟨RX7, TX7, 8, rfl, by decide, by decide +kernel, by decide +kernel⟩
theorem fX7_sighting_89 : gFld wsX7_sighting RX7 89 4 2 := ⟨RX4, TX4, 6, rfl, by decide, by decide +kernel, by decide +kernel⟩
set_option maxHeartbeats 4000000 in
set_option maxRecDepth 100000 in
theorem c_X7_sighting (l : Launch) (hlf : l.stackTraces = false) (κ : gKap) (B n : Nat) (ad : Nat → Nat) (g : Nat → va_E) (tl : Int) (nl : Int) (v : Int → Int) (i : Int) (wh : Int) (hnn : 192 ≤ n) (hX : isX κ ad g tl) (hpl : isPl κ ad g 2 nl v) (hok : okPl nl v) (hi : inI i) (hwh : inI wh) : vx_Met l yX7_sighting wsX7_sighting ({ frames := 6, cells := 1, slots := 6, locals := 103 }) (gPreX κ B n ad g [.ref (ad 0), .int (iz i), .int (iz wh)]) (gQi κ B n ad (fun z g' => g' = g ∧ ((0 ≤ i ∧ i < v 25) ∧ ((wh = 0 ∧ z = v (26 + 2 * i)) ∨ (wh = 1 ∧ z = v (27 + 2 * i)) ∨ (wh = 2 ∧ z = thrN nl v (v (26 + 2 * i)) (v (27 + 2 * i))))))) (gXX κ B n ad (fun E g9 => (E = "java/lang/IndexOutOfBoundsException" ∧ (¬ (0 ≤ i ∧ i < v 25)) ∧ g9 = g) ∨ (E = "java/lang/IllegalArgumentException" ∧ ((0 ≤ i ∧ i < v 25) ∧ ¬ (0 ≤ wh ∧ wh ≤ 2)) ∧ g9 = g))) 1 6 (gFree B) := by
  refine g_metX RX7 (cc := cX7_sighting) (maxL := 3) (ret := (some .int)) (by decide) rfl rfl (Nat.le_of_ble_eq_true rfl) ?_
  intro p e s m args below meth c C hr hlk hnt X G ls hl
  have hl : lv_has ls 3 [(0, .ref (ad 0)), (1, .int (iz i)), (2, .int (iz wh))] := hl
  obtain ⟨hn6, hv0, hv25, hlay, hsee⟩ := id hok
  refine g_iload_n C dX7_sighting_0 rfl hl 1 rfl ?_
  refine g_if_lt (tgt := 15) C (by omega) dX7_sighting_1 (by decide) (fun c_1 => ?_) (fun c_1 => ?_)
  · refine g_throw C G X hlf hlk hnt hl (cls := "java/lang/IndexOutOfBoundsException") (text := "no such sighting") (ik := 116) (is := 193) (ic := 120) (by decide +kernel) (by decide +kernel : Cond.classLink RX7 116 _ ∈ wsX7_sighting) (by decide +kernel : Cond.initialized _ ∈ wsX7_sighting) (by decide +kernel) (by decide +kernel) (by decide +kernel) at_ioe (by decide +kernel) dX7_sighting_15 dX7_sighting_18 dX7_sighting_19 dX7_sighting_21 dX7_sighting_24 (Nat.le_of_ble_eq_true rfl) (Nat.le_of_ble_eq_true rfl) (Nat.le_of_ble_eq_true rfl) (Nat.le_of_ble_eq_true rfl) (Nat.le_of_ble_eq_true rfl) (Nat.le_of_ble_eq_true rfl) ?_
    exact Or.inl ⟨rfl, by omega, rfl⟩
  · refine g_iload_n C dX7_sighting_4 rfl hl 1 rfl ?_
    refine g_aload_n C dX7_sighting_5 rfl hl 0 rfl ?_
    refine g_get C G (pos := 0) fX7_sighting_16 (by omega) hX.1 rfl dX7_sighting_6 ?_
    refine g_get C G (pos := 2) fX7_sighting_89 (by omega) hpl.1 rfl dX7_sighting_9 ?_
    refine g_icmp_lt (tgt := 25) C (by omega) (by omega) dX7_sighting_12 (by decide) (fun c_2 => ?_) (fun c_2 => ?_)
    · refine g_iload_n C dX7_sighting_25 rfl hl 2 rfl ?_
      by_cases e_3 : wh = 0
      · refine g_tswIn (v := 0) (off := 26) (tgt := 52) C dX7_sighting_26 e_3 (by decide) (by decide) (by decide) (by decide) (by decide) ?_
        have hse := hsee i (by omega) (by omega)
        refine g_aload_n C dX7_sighting_52 rfl hl 0 rfl ?_
        refine g_get C G (pos := 0) fX7_sighting_16 (by omega) hX.1 rfl dX7_sighting_53 ?_
        refine g_iload_n C dX7_sighting_56 rfl hl 1 rfl ?_
        refine g_ci C G (g_runV (As := [.int (iz i)]) (rest := []) (pos := 2) C G (c_X4_sightedAngle l κ B n ad g 2 nl v i (by omega) hpl (by omega)) (cwV 1 C.1.2.2.2.2 gX7_sighting_X4_sightedAngle rfl rfl rfl (by decide +kernel) ⟨Nat.le_of_ble_eq_true rfl, Nat.le_of_ble_eq_true rfl⟩) (by omega) hpl.1 (T := TX4) (N := 6) rfl rfl hl rfl (Nat.le_of_ble_eq_true rfl) dX7_sighting_57 ⟨Nat.le_of_ble_eq_true rfl, Nat.le_of_ble_eq_true rfl⟩) (fun z_4 g9 H locs hw G => ?_)
        obtain ⟨hg9, h_5⟩ := hw
        replace hg9 := hg9.symm
        subst hg9
        subst h_5
        refine vx_ret ?_
        refine g_iret C G hr hlk (Nat.le_of_ble_eq_true rfl) (Nat.le_of_ble_eq_true rfl) dX7_sighting_60 ?_
        exact ⟨rfl, by omega, Or.inl ⟨by omega, rfl⟩⟩
      by_cases e_6 : wh = 1
      · refine g_tswIn (v := 1) (off := 35) (tgt := 61) C dX7_sighting_26 e_6 (by decide) (by decide) (by decide) (by decide) (by decide) ?_
        have hse := hsee i (by omega) (by omega)
        refine g_aload_n C dX7_sighting_61 rfl hl 0 rfl ?_
        refine g_get C G (pos := 0) fX7_sighting_16 (by omega) hX.1 rfl dX7_sighting_62 ?_
        refine g_iload_n C dX7_sighting_65 rfl hl 1 rfl ?_
        refine g_ci C G (g_runV (As := [.int (iz i)]) (rest := []) (pos := 2) C G (c_X4_sightedRadius l κ B n ad g 2 nl v i (by omega) hpl (by omega)) (cwV 1 C.1.2.2.2.2 gX7_sighting_X4_sightedRadius rfl rfl rfl (by decide +kernel) ⟨Nat.le_of_ble_eq_true rfl, Nat.le_of_ble_eq_true rfl⟩) (by omega) hpl.1 (T := TX4) (N := 6) rfl rfl hl rfl (Nat.le_of_ble_eq_true rfl) dX7_sighting_66 ⟨Nat.le_of_ble_eq_true rfl, Nat.le_of_ble_eq_true rfl⟩) (fun z_7 g9 H locs hw G => ?_)
        obtain ⟨hg9, h_8⟩ := hw
        replace hg9 := hg9.symm
        subst hg9
        subst h_8
        refine vx_ret ?_
        refine g_iret C G hr hlk (Nat.le_of_ble_eq_true rfl) (Nat.le_of_ble_eq_true rfl) dX7_sighting_69 ?_
        exact ⟨rfl, by omega, Or.inr (Or.inl ⟨by omega, rfl⟩)⟩
      by_cases e_9 : wh = 2
      · refine g_tswIn (v := 2) (off := 44) (tgt := 70) C dX7_sighting_26 e_9 (by decide) (by decide) (by decide) (by decide) (by decide) ?_
        have hse := hsee i (by omega) (by omega)
        refine g_aload_n C dX7_sighting_70 rfl hl 0 rfl ?_
        refine g_get C G (pos := 0) fX7_sighting_16 (by omega) hX.1 rfl dX7_sighting_71 ?_
        refine g_aload_n C dX7_sighting_74 rfl hl 0 rfl ?_
        refine g_get C G (pos := 0) fX7_sighting_16 (by omega) hX.1 rfl dX7_sighting_75 ?_
        refine g_iload_n C dX7_sighting_78 rfl hl 1 rfl ?_
        refine g_ci C G (g_runV (As := [.int (iz i)]) (rest := [.ref (ad 2)]) (pos := 2) C G (c_X4_sightedAngle l κ B n ad g 2 nl v i (by omega) hpl (by omega)) (cwV 1 C.1.2.2.2.2 gX7_sighting_X4_sightedAngle rfl rfl rfl (by decide +kernel) ⟨Nat.le_of_ble_eq_true rfl, Nat.le_of_ble_eq_true rfl⟩) (by omega) hpl.1 (T := TX4) (N := 6) rfl rfl hl rfl (Nat.le_of_ble_eq_true rfl) dX7_sighting_79 ⟨Nat.le_of_ble_eq_true rfl, Nat.le_of_ble_eq_true rfl⟩) (fun z_10 g9 H locs hw G => ?_)
        obtain ⟨hg9, h_11⟩ := hw
        replace hg9 := hg9.symm
        subst hg9
        subst h_11
        refine g_aload_n C dX7_sighting_82 rfl hl 0 rfl ?_
        refine g_get C G (pos := 0) fX7_sighting_16 (by omega) hX.1 rfl dX7_sighting_83 ?_
        refine g_iload_n C dX7_sighting_86 rfl hl 1 rfl ?_
        refine g_ci C G (g_runV (As := [.int (iz i)]) (rest := [.int (iz (v (26 + 2 * i))), .ref (ad 2)]) (pos := 2) C G (c_X4_sightedRadius l κ B n ad g 2 nl v i (by omega) hpl (by omega)) (cwV 1 C.1.2.2.2.2 gX7_sighting_X4_sightedRadius rfl rfl rfl (by decide +kernel) ⟨Nat.le_of_ble_eq_true rfl, Nat.le_of_ble_eq_true rfl⟩) (by omega) hpl.1 (T := TX4) (N := 6) rfl rfl hl rfl (Nat.le_of_ble_eq_true rfl) dX7_sighting_87 ⟨Nat.le_of_ble_eq_true rfl, Nat.le_of_ble_eq_true rfl⟩) (fun z_12 g9 H locs hw G => ?_)
        obtain ⟨hg9, h_13⟩ := hw
        replace hg9 := hg9.symm
        subst hg9
        subst h_13
        refine g_ci C G (g_runV (As := [.int (iz (v (26 + 2 * i))), .int (iz (v (27 + 2 * i)))]) (rest := []) (pos := 2) C G (c_X4_layersThrough l κ B n ad g 2 nl v (v (26 + 2 * i)) (v (27 + 2 * i)) (by omega) hpl hok hse.1 (by omega)) (cwV 2 C.1.2.2.2.2 gX7_sighting_X4_layersThrough rfl rfl rfl (by decide +kernel) ⟨Nat.le_of_ble_eq_true rfl, Nat.le_of_ble_eq_true rfl⟩) (by omega) hpl.1 (T := TX4) (N := 6) rfl rfl hl rfl (Nat.le_of_ble_eq_true rfl) dX7_sighting_90 ⟨Nat.le_of_ble_eq_true rfl, Nat.le_of_ble_eq_true rfl⟩) (fun z_14 g9 H locs hw G => ?_)
        obtain ⟨hg9, h_15⟩ := hw
        replace hg9 := hg9.symm
        subst hg9
        refine vx_ret ?_
        refine g_iret C G hr hlk (Nat.le_of_ble_eq_true rfl) (Nat.le_of_ble_eq_true rfl) dX7_sighting_93 ?_
        exact ⟨rfl, by omega, Or.inr (Or.inr (⟨by omega, h_15.1⟩))⟩
      refine g_tswOut (tgt := 94) C (by omega) dX7_sighting_26 (by omega) (by decide) ?_
      refine g_throw C G X hlf hlk hnt hl (cls := "java/lang/IllegalArgumentException") (text := "what is not 0 to 2") (ik := 45) (is := 205) (ic := 49) (by decide +kernel) (by decide +kernel : Cond.classLink RX7 45 _ ∈ wsX7_sighting) (by decide +kernel : Cond.initialized _ ∈ wsX7_sighting) (by decide +kernel) (by decide +kernel) (by decide +kernel) at_iae (by decide +kernel) dX7_sighting_94 dX7_sighting_97 dX7_sighting_98 dX7_sighting_100 dX7_sighting_103 (Nat.le_of_ble_eq_true rfl) (Nat.le_of_ble_eq_true rfl) (Nat.le_of_ble_eq_true rfl) (Nat.le_of_ble_eq_true rfl) (Nat.le_of_ble_eq_true rfl) (Nat.le_of_ble_eq_true rfl) ?_
      exact Or.inr (⟨rfl, by omega, rfl⟩)
    · refine g_throw C G X hlf hlk hnt hl (cls := "java/lang/IndexOutOfBoundsException") (text := "no such sighting") (ik := 116) (is := 193) (ic := 120) (by decide +kernel) (by decide +kernel : Cond.classLink RX7 116 _ ∈ wsX7_sighting) (by decide +kernel : Cond.initialized _ ∈ wsX7_sighting) (by decide +kernel) (by decide +kernel) (by decide +kernel) at_ioe (by decide +kernel) dX7_sighting_15 dX7_sighting_18 dX7_sighting_19 dX7_sighting_21 dX7_sighting_24 (Nat.le_of_ble_eq_true rfl) (Nat.le_of_ble_eq_true rfl) (Nat.le_of_ble_eq_true rfl) (Nat.le_of_ble_eq_true rfl) (Nat.le_of_ble_eq_true rfl) (Nat.le_of_ble_eq_true rfl) ?_
      exact Or.inl ⟨rfl, by omega, rfl⟩
theorem fX7_common_16 : gFld wsX7_common RX7 16 7 2 := ⟨RX7, TX7, 8, rfl, by decide, by decide +kernel, by decide +kernel⟩
theorem fX7_common_41 : gFld wsX7_common RX7 41 7 7 := ⟨RX7, TX7, 8, rfl, by decide, by decide +kernel, by decide +kernel⟩
theorem fX7_common_86 : gFld wsX7_common RX7 86 4 0 := ⟨RX4, TX4, 6, rfl, by decide, by decide +kernel, by decide +kernel⟩
set_option maxHeartbeats 4000000 in
set_option maxRecDepth 100000 in
theorem c_X7_common (l : Launch) (hlf : l.stackTraces = false) (κ : gKap) (B n : Nat) (ad : Nat → Nat) (g : Nat → va_E) (tl : Int) (nl : Int) (v : Int → Int) (li : Int) (lj : Int) (hnn : 192 ≤ n) (hX : isX κ ad g tl) (hpl : isPl κ ad g 2 nl v) (hok : okPl nl v) (hbn : isBn κ ad g 186) (hli : inI li) (hlj : inI lj) : vx_Met l yX7_common wsX7_common ({ frames := 6, cells := 1, slots := 6, locals := 100 }) (gPreX κ B n ad g [.ref (ad 0), .int (iz li), .int (iz lj)]) (gQi κ B n ad (fun z g' => isBn κ ad g' 186 ∧ frB g g' 186 ∧ ((0 ≤ li ∧ li < nl) ∧ 0 ≤ lj ∧ lj < nl) ∧ z = (cntS (fun x y => PTl v li x y ∧ PTl v lj x y) : Int))) (gXX κ B n ad (fun E g9 => (E = "java/lang/IndexOutOfBoundsException" ∧ (¬ ((0 ≤ li ∧ li < nl) ∧ 0 ≤ lj ∧ lj < nl)) ∧ g9 = g))) 1 6 (gFree B) := by
  refine g_metX RX7 (cc := cX7_common) (maxL := 5) (ret := (some .int)) (by decide) rfl rfl (Nat.le_of_ble_eq_true rfl) ?_
  intro p e s m args below meth c C hr hlk hnt X G ls hl
  have hl : lv_has ls 5 [(0, .ref (ad 0)), (1, .int (iz li)), (2, .int (iz lj))] := hl
  obtain ⟨hn6, hv0, hv25, hlay, hsee⟩ := id hok
  refine g_aload_n C dX7_common_0 rfl hl 0 rfl ?_
  refine g_get C G (pos := 0) fX7_common_16 (by omega) hX.1 rfl dX7_common_1 ?_
  refine g_iload_n C dX7_common_4 rfl hl 1 rfl ?_
  refine g_co C G (g_runV (As := [.int (iz li)]) (rest := []) (pos := 2) C G (c_X4_find l κ B n ad g 2 nl v li (by omega) hpl (by omega) (by omega)) (cwV 1 C.1.2.2.2.2 gX7_common_X4_find rfl rfl rfl (by decide +kernel) ⟨Nat.le_of_ble_eq_true rfl, Nat.le_of_ble_eq_true rfl⟩) (by omega) hpl.1 (T := TX4) (N := 6) rfl rfl hl rfl (Nat.le_of_ble_eq_true rfl) dX7_common_5 ⟨Nat.le_of_ble_eq_true rfl, Nat.le_of_ble_eq_true rfl⟩) (fun q_1 g9 H locs hw G => ?_) (fun g9 H locs hw G => ?_)
  · obtain ⟨hg9, ⟨b_2, hw⟩ | ⟨b_2, hw⟩⟩ := hw
    all_goals replace hg9 := hg9.symm
    all_goals subst hg9
    · cases hw
      have hla := hlay li (by omega) (by omega)
      refine lv_astore_n (lv' := [(3, .ref (ad (2 + 2 + (li).toNat))), (0, .ref (ad 0)), (1, .int (iz li)), (2, .int (iz lj))]) C.1.1 C.1.2.1 dX7_common_8 rfl hl (by decide) rfl (fun ls hl => ?_)
      refine g_aload_n C dX7_common_9 rfl hl 1 rfl ?_
      refine g_get C G (pos := 0) fX7_common_16 (by omega) hX.1 rfl dX7_common_10 ?_
      refine g_iload_n C dX7_common_13 rfl hl 3 rfl ?_
      refine g_co C G (g_runV (As := [.int (iz lj)]) (rest := []) (pos := 2) C G (c_X4_find l κ B n ad g 2 nl v lj (by omega) hpl (by omega) (by omega)) (cwV 1 C.1.2.2.2.2 gX7_common_X4_find rfl rfl rfl (by decide +kernel) ⟨Nat.le_of_ble_eq_true rfl, Nat.le_of_ble_eq_true rfl⟩) (by omega) hpl.1 (T := TX4) (N := 6) rfl rfl hl rfl (Nat.le_of_ble_eq_true rfl) dX7_common_14 ⟨Nat.le_of_ble_eq_true rfl, Nat.le_of_ble_eq_true rfl⟩) (fun q_3 g9 H locs hw G => ?_) (fun g9 H locs hw G => ?_)
      · obtain ⟨hg9, ⟨b_4, hw⟩ | ⟨b_4, hw⟩⟩ := hw
        all_goals replace hg9 := hg9.symm
        all_goals subst hg9
        · cases hw
          have hlb := hlay lj (by omega) (by omega)
          refine lv_astore (lv' := [(4, .ref (ad (2 + 2 + (lj).toNat))), (3, .ref (ad (2 + 2 + (li).toNat))), (0, .ref (ad 0)), (1, .int (iz li)), (2, .int (iz lj))]) C.1.1 C.1.2.1 dX7_common_17 hl (by decide) rfl (fun ls hl => ?_)
          refine g_aload_n C dX7_common_19 rfl hl 1 rfl ?_
          refine lv_ifnull C.1.1 C.1.2.1 dX7_common_20 ?_
          refine g_aload C dX7_common_23 hl 0 rfl ?_
          refine lv_ifnonnull (tgt := 38) C.1.1 C.1.2.1 dX7_common_25 (by decide) ?_
          refine g_aload_n C dX7_common_38 rfl hl 2 rfl ?_
          refine g_get C G (pos := 0) fX7_common_41 (by omega) hX.1 rfl dX7_common_39 ?_
          refine g_aload_n C dX7_common_42 rfl hl 2 rfl ?_
          refine g_get C G (pos := 0) fX7_common_16 (by omega) hX.1 rfl dX7_common_43 ?_
          refine g_get C G (pos := 2) fX7_common_86 (by omega) hpl.1 rfl dX7_common_46 ?_
          refine g_aload_n C dX7_common_49 rfl hl 1 rfl ?_
          refine g_aload C dX7_common_50 hl 0 rfl ?_
          refine g_ci C G (g_runV (As := [.int (iz (v 0)), .ref (ad (2 + 2 + (li).toNat)), .ref (ad (2 + 2 + (lj).toNat))]) (rest := []) (pos := 186) C G (c_X0_countCommon l κ B n ad g 186 (v 0) (2 + 2 + (li).toNat) (v (4 * li + 1)) (v (4 * li + 2)) (v (4 * li + 3)) (v (4 * li + 4)) (2 + 2 + (lj).toNat) (v (4 * lj + 1)) (v (4 * lj + 2)) (v (4 * lj + 3)) (v (4 * lj + 4)) (by omega) hbn hv0 (by omega) (hpl.lay (by omega) (by omega)) (by omega) hla.1 hla.2 (by omega) (hpl.lay (by omega) (by omega)) (by omega) hlb.1 hlb.2) (cwV 3 C.1.2.2.2.2 gX7_common_X0_countCommon rfl rfl rfl (by decide +kernel) ⟨Nat.le_of_ble_eq_true rfl, Nat.le_of_ble_eq_true rfl⟩) (by omega) hbn.1 (T := TX0) (N := 3) rfl rfl hl rfl (Nat.le_of_ble_eq_true rfl) dX7_common_52 ⟨Nat.le_of_ble_eq_true rfl, Nat.le_of_ble_eq_true rfl⟩) (fun z_9 g_5 H locs hw9 G => ?_)
          obtain ⟨hbn_6, hfb_7, hx_8⟩ := hw9
          have hc_10 : g_5 0 = .inr (7, [.ref (ad 1), .int (iz tl), .ref (ad 2), .ref (ad 12), .ref (ad 22), .ref (ad 164), .ref (ad 165), .ref (ad 186)]) := (hfb_7 _ (by omega)).trans hX.1
          have hc_11 : g_5 164 = aPl κ 2 (fun j => if j < 2 then some (ad (166 + 10 * j)) else none) := (hfb_7 _ (by omega)).trans hX.2
          have hpl_12 : isPl κ ad g_5 2 nl v := hpl.far (fun _ _ _ => hfb_7 _ (by omega))
          refine vx_ret ?_
          refine g_iret C G hr hlk (Nat.le_of_ble_eq_true rfl) (Nat.le_of_ble_eq_true rfl) dX7_common_55 ?_
          exact ⟨hbn_6, hfb_7, by omega, hx_8.1⟩
        · cases hw
      · obtain ⟨hg9, ⟨b_4, hw⟩ | ⟨b_4, hw⟩⟩ := hw
        all_goals replace hg9 := hg9.symm
        all_goals subst hg9
        · cases hw
        · refine lv_astoreN (lv' := [(4, .null), (3, .ref (ad (2 + 2 + (li).toNat))), (0, .ref (ad 0)), (1, .int (iz li)), (2, .int (iz lj))]) C.1.1 C.1.2.1 dX7_common_17 hl (by decide) rfl (fun ls hl => ?_)
          refine g_aload_n C dX7_common_19 rfl hl 1 rfl ?_
          refine lv_ifnull C.1.1 C.1.2.1 dX7_common_20 ?_
          refine lv_aloadN C.1.1 C.1.2.1 dX7_common_23 (lv_at hl 0 rfl) ?_
          refine lv_ifnonnullN C.1.1 C.1.2.1 dX7_common_25 ?_
          refine g_throw C G X hlf hlk hnt hl (cls := "java/lang/IndexOutOfBoundsException") (text := "no such layer") (ik := 116) (is := 118) (ic := 120) (by decide +kernel) (by decide +kernel : Cond.classLink RX7 116 _ ∈ wsX7_common) (by decide +kernel : Cond.initialized _ ∈ wsX7_common) (by decide +kernel) (by decide +kernel) (by decide +kernel) at_ioe (by decide +kernel) dX7_common_28 dX7_common_31 dX7_common_32 dX7_common_34 dX7_common_37 (Nat.le_of_ble_eq_true rfl) (Nat.le_of_ble_eq_true rfl) (Nat.le_of_ble_eq_true rfl) (Nat.le_of_ble_eq_true rfl) (Nat.le_of_ble_eq_true rfl) (Nat.le_of_ble_eq_true rfl) ?_
          exact ⟨rfl, by omega, rfl⟩
    · cases hw
  · obtain ⟨hg9, ⟨b_2, hw⟩ | ⟨b_2, hw⟩⟩ := hw
    all_goals replace hg9 := hg9.symm
    all_goals subst hg9
    · cases hw
    · refine lv_astore_nN (lv' := [(3, .null), (0, .ref (ad 0)), (1, .int (iz li)), (2, .int (iz lj))]) C.1.1 C.1.2.1 dX7_common_8 rfl hl (by decide) rfl (fun ls hl => ?_)
      refine g_aload_n C dX7_common_9 rfl hl 1 rfl ?_
      refine g_get C G (pos := 0) fX7_common_16 (by omega) hX.1 rfl dX7_common_10 ?_
      refine g_iload_n C dX7_common_13 rfl hl 3 rfl ?_
      refine g_co C G (g_runV (As := [.int (iz lj)]) (rest := []) (pos := 2) C G (c_X4_find l κ B n ad g 2 nl v lj (by omega) hpl (by omega) (by omega)) (cwV 1 C.1.2.2.2.2 gX7_common_X4_find rfl rfl rfl (by decide +kernel) ⟨Nat.le_of_ble_eq_true rfl, Nat.le_of_ble_eq_true rfl⟩) (by omega) hpl.1 (T := TX4) (N := 6) rfl rfl hl rfl (Nat.le_of_ble_eq_true rfl) dX7_common_14 ⟨Nat.le_of_ble_eq_true rfl, Nat.le_of_ble_eq_true rfl⟩) (fun q_13 g9 H locs hw G => ?_) (fun g9 H locs hw G => ?_)
      · obtain ⟨hg9, ⟨b_14, hw⟩ | ⟨b_14, hw⟩⟩ := hw
        all_goals replace hg9 := hg9.symm
        all_goals subst hg9
        · cases hw
          have hlb := hlay lj (by omega) (by omega)
          refine lv_astore (lv' := [(4, .ref (ad (2 + 2 + (lj).toNat))), (3, .null), (0, .ref (ad 0)), (1, .int (iz li)), (2, .int (iz lj))]) C.1.1 C.1.2.1 dX7_common_17 hl (by decide) rfl (fun ls hl => ?_)
          refine lv_aload_nN C.1.1 C.1.2.1 dX7_common_19 rfl (lv_at hl 1 rfl) ?_
          refine lv_ifnullN (tgt := 28) C.1.1 C.1.2.1 dX7_common_20 (by decide) ?_
          refine g_throw C G X hlf hlk hnt hl (cls := "java/lang/IndexOutOfBoundsException") (text := "no such layer") (ik := 116) (is := 118) (ic := 120) (by decide +kernel) (by decide +kernel : Cond.classLink RX7 116 _ ∈ wsX7_common) (by decide +kernel : Cond.initialized _ ∈ wsX7_common) (by decide +kernel) (by decide +kernel) (by decide +kernel) at_ioe (by decide +kernel) dX7_common_28 dX7_common_31 dX7_common_32 dX7_common_34 dX7_common_37 (Nat.le_of_ble_eq_true rfl) (Nat.le_of_ble_eq_true rfl) (Nat.le_of_ble_eq_true rfl) (Nat.le_of_ble_eq_true rfl) (Nat.le_of_ble_eq_true rfl) (Nat.le_of_ble_eq_true rfl) ?_
          exact ⟨rfl, by omega, rfl⟩
        · cases hw
      · obtain ⟨hg9, ⟨b_14, hw⟩ | ⟨b_14, hw⟩⟩ := hw
        all_goals replace hg9 := hg9.symm
        all_goals subst hg9
        · cases hw
        · refine lv_astoreN (lv' := [(4, .null), (3, .null), (0, .ref (ad 0)), (1, .int (iz li)), (2, .int (iz lj))]) C.1.1 C.1.2.1 dX7_common_17 hl (by decide) rfl (fun ls hl => ?_)
          refine lv_aload_nN C.1.1 C.1.2.1 dX7_common_19 rfl (lv_at hl 1 rfl) ?_
          refine lv_ifnullN (tgt := 28) C.1.1 C.1.2.1 dX7_common_20 (by decide) ?_
          refine g_throw C G X hlf hlk hnt hl (cls := "java/lang/IndexOutOfBoundsException") (text := "no such layer") (ik := 116) (is := 118) (ic := 120) (by decide +kernel) (by decide +kernel : Cond.classLink RX7 116 _ ∈ wsX7_common) (by decide +kernel : Cond.initialized _ ∈ wsX7_common) (by decide +kernel) (by decide +kernel) (by decide +kernel) at_ioe (by decide +kernel) dX7_common_28 dX7_common_31 dX7_common_32 dX7_common_34 dX7_common_37 (Nat.le_of_ble_eq_true rfl) (Nat.le_of_ble_eq_true rfl) (Nat.le_of_ble_eq_true rfl) (Nat.le_of_ble_eq_true rfl) (Nat.le_of_ble_eq_true rfl) (Nat.le_of_ble_eq_true rfl) ?_
          exact ⟨rfl, by omega, rfl⟩
theorem fX7_meet_16 : gFld wsX7_meet RX7 16 7 2 := ⟨RX7, TX7, 8, rfl, by decide, by decide +kernel, by decide +kernel⟩
set_option maxHeartbeats 4000000 in
set_option maxRecDepth 100000 in
theorem c_X7_meet (l : Launch) (hlf : l.stackTraces = false) (κ : gKap) (B n : Nat) (ad : Nat → Nat) (g : Nat → va_E) (tl : Int) (nl : Int) (v : Int → Int) (li : Int) (lj : Int) (hnn : 192 ≤ n) (hX : isX κ ad g tl) (hpl : isPl κ ad g 2 nl v) (hok : okPl nl v) (hli : inI li) (hlj : inI lj) : vx_Met l yX7_meet wsX7_meet ({ frames := 6, cells := 1, slots := 6, locals := 82 }) (gPreX κ B n ad g [.ref (ad 0), .int (iz li), .int (iz lj)]) (gQi κ B n ad (fun z g' => g' = g ∧ (((0 ≤ li ∧ li < nl) ∧ 0 ≤ lj ∧ lj < nl) ∧ isFirst (fun t => v (4 * li + 4) = v (4 * lj + 4) ∧ rad (v (4 * li + 1)) (v (4 * li + 2)) (v (4 * li + 3)) (t % v (4 * li + 1)) = rad (v (4 * lj + 1)) (v (4 * lj + 2)) (v (4 * lj + 3)) (t % v (4 * lj + 1))) (v (4 * li + 1) / gd (v (4 * li + 1)) (v (4 * lj + 1)) * v (4 * lj + 1)) z))) (gXX κ B n ad (fun E g9 => (E = "java/lang/IndexOutOfBoundsException" ∧ (¬ ((0 ≤ li ∧ li < nl) ∧ 0 ≤ lj ∧ lj < nl)) ∧ g9 = g))) 1 6 (gFree B) := by
  refine g_metX RX7 (cc := cX7_meet) (maxL := 5) (ret := (some .int)) (by decide) rfl rfl (Nat.le_of_ble_eq_true rfl) ?_
  intro p e s m args below meth c C hr hlk hnt X G ls hl
  have hl : lv_has ls 5 [(0, .ref (ad 0)), (1, .int (iz li)), (2, .int (iz lj))] := hl
  obtain ⟨hn6, hv0, hv25, hlay, hsee⟩ := id hok
  refine g_aload_n C dX7_meet_0 rfl hl 0 rfl ?_
  refine g_get C G (pos := 0) fX7_meet_16 (by omega) hX.1 rfl dX7_meet_1 ?_
  refine g_iload_n C dX7_meet_4 rfl hl 1 rfl ?_
  refine g_co C G (g_runV (As := [.int (iz li)]) (rest := []) (pos := 2) C G (c_X4_find l κ B n ad g 2 nl v li (by omega) hpl (by omega) (by omega)) (cwV 1 C.1.2.2.2.2 gX7_meet_X4_find rfl rfl rfl (by decide +kernel) ⟨Nat.le_of_ble_eq_true rfl, Nat.le_of_ble_eq_true rfl⟩) (by omega) hpl.1 (T := TX4) (N := 6) rfl rfl hl rfl (Nat.le_of_ble_eq_true rfl) dX7_meet_5 ⟨Nat.le_of_ble_eq_true rfl, Nat.le_of_ble_eq_true rfl⟩) (fun q_1 g9 H locs hw G => ?_) (fun g9 H locs hw G => ?_)
  · obtain ⟨hg9, ⟨b_2, hw⟩ | ⟨b_2, hw⟩⟩ := hw
    all_goals replace hg9 := hg9.symm
    all_goals subst hg9
    · cases hw
      have hla := hlay li (by omega) (by omega)
      refine lv_astore_n (lv' := [(3, .ref (ad (2 + 2 + (li).toNat))), (0, .ref (ad 0)), (1, .int (iz li)), (2, .int (iz lj))]) C.1.1 C.1.2.1 dX7_meet_8 rfl hl (by decide) rfl (fun ls hl => ?_)
      refine g_aload_n C dX7_meet_9 rfl hl 1 rfl ?_
      refine g_get C G (pos := 0) fX7_meet_16 (by omega) hX.1 rfl dX7_meet_10 ?_
      refine g_iload_n C dX7_meet_13 rfl hl 3 rfl ?_
      refine g_co C G (g_runV (As := [.int (iz lj)]) (rest := []) (pos := 2) C G (c_X4_find l κ B n ad g 2 nl v lj (by omega) hpl (by omega) (by omega)) (cwV 1 C.1.2.2.2.2 gX7_meet_X4_find rfl rfl rfl (by decide +kernel) ⟨Nat.le_of_ble_eq_true rfl, Nat.le_of_ble_eq_true rfl⟩) (by omega) hpl.1 (T := TX4) (N := 6) rfl rfl hl rfl (Nat.le_of_ble_eq_true rfl) dX7_meet_14 ⟨Nat.le_of_ble_eq_true rfl, Nat.le_of_ble_eq_true rfl⟩) (fun q_3 g9 H locs hw G => ?_) (fun g9 H locs hw G => ?_)
      · obtain ⟨hg9, ⟨b_4, hw⟩ | ⟨b_4, hw⟩⟩ := hw
        all_goals replace hg9 := hg9.symm
        all_goals subst hg9
        · cases hw
          have hlb := hlay lj (by omega) (by omega)
          refine lv_astore (lv' := [(4, .ref (ad (2 + 2 + (lj).toNat))), (3, .ref (ad (2 + 2 + (li).toNat))), (0, .ref (ad 0)), (1, .int (iz li)), (2, .int (iz lj))]) C.1.1 C.1.2.1 dX7_meet_17 hl (by decide) rfl (fun ls hl => ?_)
          refine g_aload_n C dX7_meet_19 rfl hl 1 rfl ?_
          refine lv_ifnull C.1.1 C.1.2.1 dX7_meet_20 ?_
          refine g_aload C dX7_meet_23 hl 0 rfl ?_
          refine lv_ifnonnull (tgt := 38) C.1.1 C.1.2.1 dX7_meet_25 (by decide) ?_
          refine g_aload_n C dX7_meet_38 rfl hl 1 rfl ?_
          refine g_aload C dX7_meet_39 hl 0 rfl ?_
          refine g_ci C G (g_runV (As := [.ref (ad (2 + 2 + (lj).toNat))]) (rest := []) (pos := 2 + 2 + (li).toNat) C G (c_X3_firstMeeting l κ B n ad g (2 + 2 + (li).toNat) (v (4 * li + 1)) (v (4 * li + 2)) (v (4 * li + 3)) (v (4 * li + 4)) (2 + 2 + (lj).toNat) (v (4 * lj + 1)) (v (4 * lj + 2)) (v (4 * lj + 3)) (v (4 * lj + 4)) (by omega) (hpl.lay (by omega) (by omega)) (by omega) (hpl.lay (by omega) (by omega)) hla.1 hlb.1 (by omega) (by omega)) (cwV 1 C.1.2.2.2.2 gX7_meet_X3_firstMeeting rfl rfl rfl (by decide +kernel) ⟨Nat.le_of_ble_eq_true rfl, Nat.le_of_ble_eq_true rfl⟩) (by omega) (hpl.lay (by omega) (by omega)) (T := TX3) (N := 4) rfl rfl hl rfl (Nat.le_of_ble_eq_true rfl) dX7_meet_41 ⟨Nat.le_of_ble_eq_true rfl, Nat.le_of_ble_eq_true rfl⟩) (fun z_5 g9 H locs hw G => ?_)
          obtain ⟨hg9, h_6⟩ := hw
          replace hg9 := hg9.symm
          subst hg9
          refine vx_ret ?_
          refine g_iret C G hr hlk (Nat.le_of_ble_eq_true rfl) (Nat.le_of_ble_eq_true rfl) dX7_meet_44 ?_
          exact ⟨rfl, by omega, h_6⟩
        · cases hw
      · obtain ⟨hg9, ⟨b_4, hw⟩ | ⟨b_4, hw⟩⟩ := hw
        all_goals replace hg9 := hg9.symm
        all_goals subst hg9
        · cases hw
        · refine lv_astoreN (lv' := [(4, .null), (3, .ref (ad (2 + 2 + (li).toNat))), (0, .ref (ad 0)), (1, .int (iz li)), (2, .int (iz lj))]) C.1.1 C.1.2.1 dX7_meet_17 hl (by decide) rfl (fun ls hl => ?_)
          refine g_aload_n C dX7_meet_19 rfl hl 1 rfl ?_
          refine lv_ifnull C.1.1 C.1.2.1 dX7_meet_20 ?_
          refine lv_aloadN C.1.1 C.1.2.1 dX7_meet_23 (lv_at hl 0 rfl) ?_
          refine lv_ifnonnullN C.1.1 C.1.2.1 dX7_meet_25 ?_
          refine g_throw C G X hlf hlk hnt hl (cls := "java/lang/IndexOutOfBoundsException") (text := "no such layer") (ik := 116) (is := 118) (ic := 120) (by decide +kernel) (by decide +kernel : Cond.classLink RX7 116 _ ∈ wsX7_meet) (by decide +kernel : Cond.initialized _ ∈ wsX7_meet) (by decide +kernel) (by decide +kernel) (by decide +kernel) at_ioe (by decide +kernel) dX7_meet_28 dX7_meet_31 dX7_meet_32 dX7_meet_34 dX7_meet_37 (Nat.le_of_ble_eq_true rfl) (Nat.le_of_ble_eq_true rfl) (Nat.le_of_ble_eq_true rfl) (Nat.le_of_ble_eq_true rfl) (Nat.le_of_ble_eq_true rfl) (Nat.le_of_ble_eq_true rfl) ?_
          exact ⟨rfl, by omega, rfl⟩
    · cases hw
  · obtain ⟨hg9, ⟨b_2, hw⟩ | ⟨b_2, hw⟩⟩ := hw
    all_goals replace hg9 := hg9.symm
    all_goals subst hg9
    · cases hw
    · refine lv_astore_nN (lv' := [(3, .null), (0, .ref (ad 0)), (1, .int (iz li)), (2, .int (iz lj))]) C.1.1 C.1.2.1 dX7_meet_8 rfl hl (by decide) rfl (fun ls hl => ?_)
      refine g_aload_n C dX7_meet_9 rfl hl 1 rfl ?_
      refine g_get C G (pos := 0) fX7_meet_16 (by omega) hX.1 rfl dX7_meet_10 ?_
      refine g_iload_n C dX7_meet_13 rfl hl 3 rfl ?_
      refine g_co C G (g_runV (As := [.int (iz lj)]) (rest := []) (pos := 2) C G (c_X4_find l κ B n ad g 2 nl v lj (by omega) hpl (by omega) (by omega)) (cwV 1 C.1.2.2.2.2 gX7_meet_X4_find rfl rfl rfl (by decide +kernel) ⟨Nat.le_of_ble_eq_true rfl, Nat.le_of_ble_eq_true rfl⟩) (by omega) hpl.1 (T := TX4) (N := 6) rfl rfl hl rfl (Nat.le_of_ble_eq_true rfl) dX7_meet_14 ⟨Nat.le_of_ble_eq_true rfl, Nat.le_of_ble_eq_true rfl⟩) (fun q_7 g9 H locs hw G => ?_) (fun g9 H locs hw G => ?_)
      · obtain ⟨hg9, ⟨b_8, hw⟩ | ⟨b_8, hw⟩⟩ := hw
        all_goals replace hg9 := hg9.symm
        all_goals subst hg9
        · cases hw
          have hlb := hlay lj (by omega) (by omega)
          refine lv_astore (lv' := [(4, .ref (ad (2 + 2 + (lj).toNat))), (3, .null), (0, .ref (ad 0)), (1, .int (iz li)), (2, .int (iz lj))]) C.1.1 C.1.2.1 dX7_meet_17 hl (by decide) rfl (fun ls hl => ?_)
          refine lv_aload_nN C.1.1 C.1.2.1 dX7_meet_19 rfl (lv_at hl 1 rfl) ?_
          refine lv_ifnullN (tgt := 28) C.1.1 C.1.2.1 dX7_meet_20 (by decide) ?_
          refine g_throw C G X hlf hlk hnt hl (cls := "java/lang/IndexOutOfBoundsException") (text := "no such layer") (ik := 116) (is := 118) (ic := 120) (by decide +kernel) (by decide +kernel : Cond.classLink RX7 116 _ ∈ wsX7_meet) (by decide +kernel : Cond.initialized _ ∈ wsX7_meet) (by decide +kernel) (by decide +kernel) (by decide +kernel) at_ioe (by decide +kernel) dX7_meet_28 dX7_meet_31 dX7_meet_32 dX7_meet_34 dX7_meet_37 (Nat.le_of_ble_eq_true rfl) (Nat.le_of_ble_eq_true rfl) (Nat.le_of_ble_eq_true rfl) (Nat.le_of_ble_eq_true rfl) (Nat.le_of_ble_eq_true rfl) (Nat.le_of_ble_eq_true rfl) ?_
          exact ⟨rfl, by omega, rfl⟩
        · cases hw
      · obtain ⟨hg9, ⟨b_8, hw⟩ | ⟨b_8, hw⟩⟩ := hw
        all_goals replace hg9 := hg9.symm
        all_goals subst hg9
        · cases hw
        · refine lv_astoreN (lv' := [(4, .null), (3, .null), (0, .ref (ad 0)), (1, .int (iz li)), (2, .int (iz lj))]) C.1.1 C.1.2.1 dX7_meet_17 hl (by decide) rfl (fun ls hl => ?_)
          refine lv_aload_nN C.1.1 C.1.2.1 dX7_meet_19 rfl (lv_at hl 1 rfl) ?_
          refine lv_ifnullN (tgt := 28) C.1.1 C.1.2.1 dX7_meet_20 (by decide) ?_
          refine g_throw C G X hlf hlk hnt hl (cls := "java/lang/IndexOutOfBoundsException") (text := "no such layer") (ik := 116) (is := 118) (ic := 120) (by decide +kernel) (by decide +kernel : Cond.classLink RX7 116 _ ∈ wsX7_meet) (by decide +kernel : Cond.initialized _ ∈ wsX7_meet) (by decide +kernel) (by decide +kernel) (by decide +kernel) at_ioe (by decide +kernel) dX7_meet_28 dX7_meet_31 dX7_meet_32 dX7_meet_34 dX7_meet_37 (Nat.le_of_ble_eq_true rfl) (Nat.le_of_ble_eq_true rfl) (Nat.le_of_ble_eq_true rfl) (Nat.le_of_ble_eq_true rfl) (Nat.le_of_ble_eq_true rfl) (Nat.le_of_ble_eq_true rfl) ?_
          exact ⟨rfl, by omega, rfl⟩
theorem fX7_turned_16 : gFld wsX7_turned RX7 16 7 2 := ⟨RX7, TX7, 8, rfl, by decide, by decide +kernel, by decide +kernel⟩
theorem fX7_turned_41 : gFld wsX7_turned RX7 41 7 7 := ⟨RX7, TX7, 8, rfl, by decide, by decide +kernel, by decide +kernel⟩
theorem fX7_turned_86 : gFld wsX7_turned RX7 86 4 0 := ⟨RX4, TX4, 6, rfl, by decide, by decide +kernel, by decide +kernel⟩
set_option maxHeartbeats 4000000 in
set_option maxRecDepth 100000 in
theorem c_X7_turned (l : Launch) (hlf : l.stackTraces = false) (κ : gKap) (B n : Nat) (ad : Nat → Nat) (g : Nat → va_E) (tl : Int) (nl : Int) (v : Int → Int) (li : Int) (lj : Int) (hnn : 192 ≤ n) (hX : isX κ ad g tl) (hpl : isPl κ ad g 2 nl v) (hok : okPl nl v) (hbn : isBn κ ad g 186) (hli : inI li) (hlj : inI lj) : vx_Met l yX7_turned wsX7_turned ({ frames := 6, cells := 1, slots := 6, locals := 102 }) (gPreX κ B n ad g [.ref (ad 0), .int (iz li), .int (iz lj)]) (gQi κ B n ad (fun z g' => isBn κ ad g' 186 ∧ frB g g' 186 ∧ ((0 ≤ li ∧ li < nl) ∧ 0 ≤ lj ∧ lj < nl) ∧ isFirst (fun d => SameR (v 0) (v (4 * li + 1)) (v (4 * li + 2)) (v (4 * li + 3)) ((v (4 * li + 4) + d) % v 0) (v (4 * lj + 1)) (v (4 * lj + 2)) (v (4 * lj + 3)) (v (4 * lj + 4))) (v 0) z)) (gXX κ B n ad (fun E g9 => (E = "java/lang/IndexOutOfBoundsException" ∧ (¬ ((0 ≤ li ∧ li < nl) ∧ 0 ≤ lj ∧ lj < nl)) ∧ g9 = g))) 1 6 (gFree B) := by
  refine g_metX RX7 (cc := cX7_turned) (maxL := 5) (ret := (some .int)) (by decide) rfl rfl (Nat.le_of_ble_eq_true rfl) ?_
  intro p e s m args below meth c C hr hlk hnt X G ls hl
  have hl : lv_has ls 5 [(0, .ref (ad 0)), (1, .int (iz li)), (2, .int (iz lj))] := hl
  obtain ⟨hn6, hv0, hv25, hlay, hsee⟩ := id hok
  refine g_aload_n C dX7_turned_0 rfl hl 0 rfl ?_
  refine g_get C G (pos := 0) fX7_turned_16 (by omega) hX.1 rfl dX7_turned_1 ?_
  refine g_iload_n C dX7_turned_4 rfl hl 1 rfl ?_
  refine g_co C G (g_runV (As := [.int (iz li)]) (rest := []) (pos := 2) C G (c_X4_find l κ B n ad g 2 nl v li (by omega) hpl (by omega) (by omega)) (cwV 1 C.1.2.2.2.2 gX7_turned_X4_find rfl rfl rfl (by decide +kernel) ⟨Nat.le_of_ble_eq_true rfl, Nat.le_of_ble_eq_true rfl⟩) (by omega) hpl.1 (T := TX4) (N := 6) rfl rfl hl rfl (Nat.le_of_ble_eq_true rfl) dX7_turned_5 ⟨Nat.le_of_ble_eq_true rfl, Nat.le_of_ble_eq_true rfl⟩) (fun q_1 g9 H locs hw G => ?_) (fun g9 H locs hw G => ?_)
  · obtain ⟨hg9, ⟨b_2, hw⟩ | ⟨b_2, hw⟩⟩ := hw
    all_goals replace hg9 := hg9.symm
    all_goals subst hg9
    · cases hw
      have hla := hlay li (by omega) (by omega)
      refine lv_astore_n (lv' := [(3, .ref (ad (2 + 2 + (li).toNat))), (0, .ref (ad 0)), (1, .int (iz li)), (2, .int (iz lj))]) C.1.1 C.1.2.1 dX7_turned_8 rfl hl (by decide) rfl (fun ls hl => ?_)
      refine g_aload_n C dX7_turned_9 rfl hl 1 rfl ?_
      refine g_get C G (pos := 0) fX7_turned_16 (by omega) hX.1 rfl dX7_turned_10 ?_
      refine g_iload_n C dX7_turned_13 rfl hl 3 rfl ?_
      refine g_co C G (g_runV (As := [.int (iz lj)]) (rest := []) (pos := 2) C G (c_X4_find l κ B n ad g 2 nl v lj (by omega) hpl (by omega) (by omega)) (cwV 1 C.1.2.2.2.2 gX7_turned_X4_find rfl rfl rfl (by decide +kernel) ⟨Nat.le_of_ble_eq_true rfl, Nat.le_of_ble_eq_true rfl⟩) (by omega) hpl.1 (T := TX4) (N := 6) rfl rfl hl rfl (Nat.le_of_ble_eq_true rfl) dX7_turned_14 ⟨Nat.le_of_ble_eq_true rfl, Nat.le_of_ble_eq_true rfl⟩) (fun q_3 g9 H locs hw G => ?_) (fun g9 H locs hw G => ?_)
      · obtain ⟨hg9, ⟨b_4, hw⟩ | ⟨b_4, hw⟩⟩ := hw
        all_goals replace hg9 := hg9.symm
        all_goals subst hg9
        · cases hw
          have hlb := hlay lj (by omega) (by omega)
          refine lv_astore (lv' := [(4, .ref (ad (2 + 2 + (lj).toNat))), (3, .ref (ad (2 + 2 + (li).toNat))), (0, .ref (ad 0)), (1, .int (iz li)), (2, .int (iz lj))]) C.1.1 C.1.2.1 dX7_turned_17 hl (by decide) rfl (fun ls hl => ?_)
          refine g_aload_n C dX7_turned_19 rfl hl 1 rfl ?_
          refine lv_ifnull C.1.1 C.1.2.1 dX7_turned_20 ?_
          refine g_aload C dX7_turned_23 hl 0 rfl ?_
          refine lv_ifnonnull (tgt := 38) C.1.1 C.1.2.1 dX7_turned_25 (by decide) ?_
          refine g_aload_n C dX7_turned_38 rfl hl 2 rfl ?_
          refine g_get C G (pos := 0) fX7_turned_41 (by omega) hX.1 rfl dX7_turned_39 ?_
          refine g_aload_n C dX7_turned_42 rfl hl 2 rfl ?_
          refine g_get C G (pos := 0) fX7_turned_16 (by omega) hX.1 rfl dX7_turned_43 ?_
          refine g_get C G (pos := 2) fX7_turned_86 (by omega) hpl.1 rfl dX7_turned_46 ?_
          refine g_aload_n C dX7_turned_49 rfl hl 1 rfl ?_
          refine g_aload C dX7_turned_50 hl 0 rfl ?_
          refine g_ci C G (g_runV (As := [.int (iz (v 0)), .ref (ad (2 + 2 + (li).toNat)), .ref (ad (2 + 2 + (lj).toNat))]) (rest := []) (pos := 186) C G (c_X0_turnBetween l κ B n ad g 186 (v 0) (2 + 2 + (li).toNat) (v (4 * li + 1)) (v (4 * li + 2)) (v (4 * li + 3)) (v (4 * li + 4)) (2 + 2 + (lj).toNat) (v (4 * lj + 1)) (v (4 * lj + 2)) (v (4 * lj + 3)) (v (4 * lj + 4)) (by omega) hbn hv0 (by omega) (hpl.lay (by omega) (by omega)) (by omega) hla.1 hla.2 (by omega) (hpl.lay (by omega) (by omega)) (by omega) hlb.1 hlb.2) (cwV 3 C.1.2.2.2.2 gX7_turned_X0_turnBetween rfl rfl rfl (by decide +kernel) ⟨Nat.le_of_ble_eq_true rfl, Nat.le_of_ble_eq_true rfl⟩) (by omega) hbn.1 (T := TX0) (N := 3) rfl rfl hl rfl (Nat.le_of_ble_eq_true rfl) dX7_turned_52 ⟨Nat.le_of_ble_eq_true rfl, Nat.le_of_ble_eq_true rfl⟩) (fun z_9 g_5 H locs hw9 G => ?_)
          obtain ⟨hbn_6, hfb_7, hx_8⟩ := hw9
          have hc_10 : g_5 0 = .inr (7, [.ref (ad 1), .int (iz tl), .ref (ad 2), .ref (ad 12), .ref (ad 22), .ref (ad 164), .ref (ad 165), .ref (ad 186)]) := (hfb_7 _ (by omega)).trans hX.1
          have hc_11 : g_5 164 = aPl κ 2 (fun j => if j < 2 then some (ad (166 + 10 * j)) else none) := (hfb_7 _ (by omega)).trans hX.2
          have hpl_12 : isPl κ ad g_5 2 nl v := hpl.far (fun _ _ _ => hfb_7 _ (by omega))
          refine vx_ret ?_
          refine g_iret C G hr hlk (Nat.le_of_ble_eq_true rfl) (Nat.le_of_ble_eq_true rfl) dX7_turned_55 ?_
          exact ⟨hbn_6, hfb_7, by omega, hx_8⟩
        · cases hw
      · obtain ⟨hg9, ⟨b_4, hw⟩ | ⟨b_4, hw⟩⟩ := hw
        all_goals replace hg9 := hg9.symm
        all_goals subst hg9
        · cases hw
        · refine lv_astoreN (lv' := [(4, .null), (3, .ref (ad (2 + 2 + (li).toNat))), (0, .ref (ad 0)), (1, .int (iz li)), (2, .int (iz lj))]) C.1.1 C.1.2.1 dX7_turned_17 hl (by decide) rfl (fun ls hl => ?_)
          refine g_aload_n C dX7_turned_19 rfl hl 1 rfl ?_
          refine lv_ifnull C.1.1 C.1.2.1 dX7_turned_20 ?_
          refine lv_aloadN C.1.1 C.1.2.1 dX7_turned_23 (lv_at hl 0 rfl) ?_
          refine lv_ifnonnullN C.1.1 C.1.2.1 dX7_turned_25 ?_
          refine g_throw C G X hlf hlk hnt hl (cls := "java/lang/IndexOutOfBoundsException") (text := "no such layer") (ik := 116) (is := 118) (ic := 120) (by decide +kernel) (by decide +kernel : Cond.classLink RX7 116 _ ∈ wsX7_turned) (by decide +kernel : Cond.initialized _ ∈ wsX7_turned) (by decide +kernel) (by decide +kernel) (by decide +kernel) at_ioe (by decide +kernel) dX7_turned_28 dX7_turned_31 dX7_turned_32 dX7_turned_34 dX7_turned_37 (Nat.le_of_ble_eq_true rfl) (Nat.le_of_ble_eq_true rfl) (Nat.le_of_ble_eq_true rfl) (Nat.le_of_ble_eq_true rfl) (Nat.le_of_ble_eq_true rfl) (Nat.le_of_ble_eq_true rfl) ?_
          exact ⟨rfl, by omega, rfl⟩
    · cases hw
  · obtain ⟨hg9, ⟨b_2, hw⟩ | ⟨b_2, hw⟩⟩ := hw
    all_goals replace hg9 := hg9.symm
    all_goals subst hg9
    · cases hw
    · refine lv_astore_nN (lv' := [(3, .null), (0, .ref (ad 0)), (1, .int (iz li)), (2, .int (iz lj))]) C.1.1 C.1.2.1 dX7_turned_8 rfl hl (by decide) rfl (fun ls hl => ?_)
      refine g_aload_n C dX7_turned_9 rfl hl 1 rfl ?_
      refine g_get C G (pos := 0) fX7_turned_16 (by omega) hX.1 rfl dX7_turned_10 ?_
      refine g_iload_n C dX7_turned_13 rfl hl 3 rfl ?_
      refine g_co C G (g_runV (As := [.int (iz lj)]) (rest := []) (pos := 2) C G (c_X4_find l κ B n ad g 2 nl v lj (by omega) hpl (by omega) (by omega)) (cwV 1 C.1.2.2.2.2 gX7_turned_X4_find rfl rfl rfl (by decide +kernel) ⟨Nat.le_of_ble_eq_true rfl, Nat.le_of_ble_eq_true rfl⟩) (by omega) hpl.1 (T := TX4) (N := 6) rfl rfl hl rfl (Nat.le_of_ble_eq_true rfl) dX7_turned_14 ⟨Nat.le_of_ble_eq_true rfl, Nat.le_of_ble_eq_true rfl⟩) (fun q_13 g9 H locs hw G => ?_) (fun g9 H locs hw G => ?_)
      · obtain ⟨hg9, ⟨b_14, hw⟩ | ⟨b_14, hw⟩⟩ := hw
        all_goals replace hg9 := hg9.symm
        all_goals subst hg9
        · cases hw
          have hlb := hlay lj (by omega) (by omega)
          refine lv_astore (lv' := [(4, .ref (ad (2 + 2 + (lj).toNat))), (3, .null), (0, .ref (ad 0)), (1, .int (iz li)), (2, .int (iz lj))]) C.1.1 C.1.2.1 dX7_turned_17 hl (by decide) rfl (fun ls hl => ?_)
          refine lv_aload_nN C.1.1 C.1.2.1 dX7_turned_19 rfl (lv_at hl 1 rfl) ?_
          refine lv_ifnullN (tgt := 28) C.1.1 C.1.2.1 dX7_turned_20 (by decide) ?_
          refine g_throw C G X hlf hlk hnt hl (cls := "java/lang/IndexOutOfBoundsException") (text := "no such layer") (ik := 116) (is := 118) (ic := 120) (by decide +kernel) (by decide +kernel : Cond.classLink RX7 116 _ ∈ wsX7_turned) (by decide +kernel : Cond.initialized _ ∈ wsX7_turned) (by decide +kernel) (by decide +kernel) (by decide +kernel) at_ioe (by decide +kernel) dX7_turned_28 dX7_turned_31 dX7_turned_32 dX7_turned_34 dX7_turned_37 (Nat.le_of_ble_eq_true rfl) (Nat.le_of_ble_eq_true rfl) (Nat.le_of_ble_eq_true rfl) (Nat.le_of_ble_eq_true rfl) (Nat.le_of_ble_eq_true rfl) (Nat.le_of_ble_eq_true rfl) ?_
          exact ⟨rfl, by omega, rfl⟩
        · cases hw
      · obtain ⟨hg9, ⟨b_14, hw⟩ | ⟨b_14, hw⟩⟩ := hw
        all_goals replace hg9 := hg9.symm
        all_goals subst hg9
        · cases hw
        · refine lv_astoreN (lv' := [(4, .null), (3, .null), (0, .ref (ad 0)), (1, .int (iz li)), (2, .int (iz lj))]) C.1.1 C.1.2.1 dX7_turned_17 hl (by decide) rfl (fun ls hl => ?_)
          refine lv_aload_nN C.1.1 C.1.2.1 dX7_turned_19 rfl (lv_at hl 1 rfl) ?_
          refine lv_ifnullN (tgt := 28) C.1.1 C.1.2.1 dX7_turned_20 (by decide) ?_
          refine g_throw C G X hlf hlk hnt hl (cls := "java/lang/IndexOutOfBoundsException") (text := "no such layer") (ik := 116) (is := 118) (ic := 120) (by decide +kernel) (by decide +kernel : Cond.classLink RX7 116 _ ∈ wsX7_turned) (by decide +kernel : Cond.initialized _ ∈ wsX7_turned) (by decide +kernel) (by decide +kernel) (by decide +kernel) at_ioe (by decide +kernel) dX7_turned_28 dX7_turned_31 dX7_turned_32 dX7_turned_34 dX7_turned_37 (Nat.le_of_ble_eq_true rfl) (Nat.le_of_ble_eq_true rfl) (Nat.le_of_ble_eq_true rfl) (Nat.le_of_ble_eq_true rfl) (Nat.le_of_ble_eq_true rfl) (Nat.le_of_ble_eq_true rfl) ?_
          exact ⟨rfl, by omega, rfl⟩
theorem fX7_bestStart_16 : gFld wsX7_bestStart RX7 16 7 2 := ⟨RX7, TX7, 8, rfl, by decide, by decide +kernel, by decide +kernel⟩
theorem fX7_bestStart_41 : gFld wsX7_bestStart RX7 41 7 7 := ⟨RX7, TX7, 8, rfl, by decide, by decide +kernel, by decide +kernel⟩
theorem fX7_bestStart_86 : gFld wsX7_bestStart RX7 86 4 0 := ⟨RX4, TX4, 6, rfl, by decide, by decide +kernel, by decide +kernel⟩
set_option maxHeartbeats 4000000 in
set_option maxRecDepth 100000 in
theorem c_X7_bestStart (l : Launch) (hlf : l.stackTraces = false) (κ : gKap) (B n : Nat) (ad : Nat → Nat) (g : Nat → va_E) (tl : Int) (nl : Int) (v : Int → Int) (li : Int) (lj : Int) (hnn : 192 ≤ n) (hX : isX κ ad g tl) (hpl : isPl κ ad g 2 nl v) (hok : okPl nl v) (hbn : isBn κ ad g 186) (hli : inI li) (hlj : inI lj) : vx_Met l yX7_bestStart wsX7_bestStart ({ frames := 6, cells := 1, slots := 6, locals := 105 }) (gPreX κ B n ad g [.ref (ad 0), .int (iz li), .int (iz lj)]) (gQi κ B n ad (fun z g' => isBn κ ad g' 186 ∧ frB g g' 186 ∧ ((0 ≤ li ∧ li < nl) ∧ 0 ≤ lj ∧ lj < nl) ∧ li ≠ lj ∧ z = (bsf (cmF (v 0) (v (4 * li + 1)) (v (4 * li + 2)) (v (4 * li + 3)) (v (4 * lj + 1)) (v (4 * lj + 2)) (v (4 * lj + 3)) (v (4 * lj + 4))) (v 0).toNat).1)) (gXX κ B n ad (fun E g9 => (E = "java/lang/IndexOutOfBoundsException" ∧ (¬ ((0 ≤ li ∧ li < nl) ∧ 0 ≤ lj ∧ lj < nl)) ∧ g9 = g) ∨ (E = "java/lang/IllegalArgumentException" ∧ (((0 ≤ li ∧ li < nl) ∧ 0 ≤ lj ∧ lj < nl) ∧ li = lj) ∧ g9 = g))) 1 6 (gFree B) := by
  refine g_metX RX7 (cc := cX7_bestStart) (maxL := 5) (ret := (some .int)) (by decide) rfl rfl (Nat.le_of_ble_eq_true rfl) ?_
  intro p e s m args below meth c C hr hlk hnt X G ls hl
  have hl : lv_has ls 5 [(0, .ref (ad 0)), (1, .int (iz li)), (2, .int (iz lj))] := hl
  obtain ⟨hn6, hv0, hv25, hlay, hsee⟩ := id hok
  refine g_aload_n C dX7_bestStart_0 rfl hl 0 rfl ?_
  refine g_get C G (pos := 0) fX7_bestStart_16 (by omega) hX.1 rfl dX7_bestStart_1 ?_
  refine g_iload_n C dX7_bestStart_4 rfl hl 1 rfl ?_
  refine g_co C G (g_runV (As := [.int (iz li)]) (rest := []) (pos := 2) C G (c_X4_find l κ B n ad g 2 nl v li (by omega) hpl (by omega) (by omega)) (cwV 1 C.1.2.2.2.2 gX7_bestStart_X4_find rfl rfl rfl (by decide +kernel) ⟨Nat.le_of_ble_eq_true rfl, Nat.le_of_ble_eq_true rfl⟩) (by omega) hpl.1 (T := TX4) (N := 6) rfl rfl hl rfl (Nat.le_of_ble_eq_true rfl) dX7_bestStart_5 ⟨Nat.le_of_ble_eq_true rfl, Nat.le_of_ble_eq_true rfl⟩) (fun q_1 g9 H locs hw G => ?_) (fun g9 H locs hw G => ?_)
  · obtain ⟨hg9, ⟨b_2, hw⟩ | ⟨b_2, hw⟩⟩ := hw
    all_goals replace hg9 := hg9.symm
    all_goals subst hg9
    · cases hw
      have hla := hlay li (by omega) (by omega)
      refine lv_astore_n (lv' := [(3, .ref (ad (2 + 2 + (li).toNat))), (0, .ref (ad 0)), (1, .int (iz li)), (2, .int (iz lj))]) C.1.1 C.1.2.1 dX7_bestStart_8 rfl hl (by decide) rfl (fun ls hl => ?_)
      refine g_aload_n C dX7_bestStart_9 rfl hl 1 rfl ?_
      refine g_get C G (pos := 0) fX7_bestStart_16 (by omega) hX.1 rfl dX7_bestStart_10 ?_
      refine g_iload_n C dX7_bestStart_13 rfl hl 3 rfl ?_
      refine g_co C G (g_runV (As := [.int (iz lj)]) (rest := []) (pos := 2) C G (c_X4_find l κ B n ad g 2 nl v lj (by omega) hpl (by omega) (by omega)) (cwV 1 C.1.2.2.2.2 gX7_bestStart_X4_find rfl rfl rfl (by decide +kernel) ⟨Nat.le_of_ble_eq_true rfl, Nat.le_of_ble_eq_true rfl⟩) (by omega) hpl.1 (T := TX4) (N := 6) rfl rfl hl rfl (Nat.le_of_ble_eq_true rfl) dX7_bestStart_14 ⟨Nat.le_of_ble_eq_true rfl, Nat.le_of_ble_eq_true rfl⟩) (fun q_3 g9 H locs hw G => ?_) (fun g9 H locs hw G => ?_)
      · obtain ⟨hg9, ⟨b_4, hw⟩ | ⟨b_4, hw⟩⟩ := hw
        all_goals replace hg9 := hg9.symm
        all_goals subst hg9
        · cases hw
          have hlb := hlay lj (by omega) (by omega)
          refine lv_astore (lv' := [(4, .ref (ad (2 + 2 + (lj).toNat))), (3, .ref (ad (2 + 2 + (li).toNat))), (0, .ref (ad 0)), (1, .int (iz li)), (2, .int (iz lj))]) C.1.1 C.1.2.1 dX7_bestStart_17 hl (by decide) rfl (fun ls hl => ?_)
          refine g_aload_n C dX7_bestStart_19 rfl hl 1 rfl ?_
          refine lv_ifnull C.1.1 C.1.2.1 dX7_bestStart_20 ?_
          refine g_aload C dX7_bestStart_23 hl 0 rfl ?_
          refine lv_ifnonnull (tgt := 38) C.1.1 C.1.2.1 dX7_bestStart_25 (by decide) ?_
          refine g_iload_n C dX7_bestStart_38 rfl hl 3 rfl ?_
          refine g_iload_n C dX7_bestStart_39 rfl hl 4 rfl ?_
          refine g_icmp_ne (tgt := 54) C (by omega) (by omega) dX7_bestStart_40 (by decide) (fun c_5 => ?_) (fun c_5 => ?_)
          · refine g_aload_n C dX7_bestStart_54 rfl hl 2 rfl ?_
            refine g_get C G (pos := 0) fX7_bestStart_41 (by omega) hX.1 rfl dX7_bestStart_55 ?_
            refine g_aload_n C dX7_bestStart_58 rfl hl 2 rfl ?_
            refine g_get C G (pos := 0) fX7_bestStart_16 (by omega) hX.1 rfl dX7_bestStart_59 ?_
            refine g_get C G (pos := 2) fX7_bestStart_86 (by omega) hpl.1 rfl dX7_bestStart_62 ?_
            refine g_aload_n C dX7_bestStart_65 rfl hl 1 rfl ?_
            refine g_aload C dX7_bestStart_66 hl 0 rfl ?_
            refine g_ci C G (g_runV (As := [.int (iz (v 0)), .ref (ad (2 + 2 + (li).toNat)), .ref (ad (2 + 2 + (lj).toNat))]) (rest := []) (pos := 186) C G (c_X0_startWithMost l κ B n ad g 186 (v 0) (2 + 2 + (li).toNat) (v (4 * li + 1)) (v (4 * li + 2)) (v (4 * li + 3)) (v (4 * li + 4)) (2 + 2 + (lj).toNat) (v (4 * lj + 1)) (v (4 * lj + 2)) (v (4 * lj + 3)) (v (4 * lj + 4)) (by omega) hbn hv0 (by omega) (hpl.lay (by omega) (by omega)) (by omega) hla.1 hla.2 (by omega) (hpl.lay (by omega) (by omega)) (by omega) hlb.1 hlb.2) (cwV 3 C.1.2.2.2.2 gX7_bestStart_X0_startWithMost rfl rfl rfl (by decide +kernel) ⟨Nat.le_of_ble_eq_true rfl, Nat.le_of_ble_eq_true rfl⟩) (by omega) hbn.1 (T := TX0) (N := 3) rfl rfl hl rfl (Nat.le_of_ble_eq_true rfl) dX7_bestStart_68 ⟨Nat.le_of_ble_eq_true rfl, Nat.le_of_ble_eq_true rfl⟩) (fun z_10 g_6 H locs hw9 G => ?_)
            obtain ⟨hbn_7, hfb_8, hx_9⟩ := hw9
            have hc_11 : g_6 0 = .inr (7, [.ref (ad 1), .int (iz tl), .ref (ad 2), .ref (ad 12), .ref (ad 22), .ref (ad 164), .ref (ad 165), .ref (ad 186)]) := (hfb_8 _ (by omega)).trans hX.1
            have hc_12 : g_6 164 = aPl κ 2 (fun j => if j < 2 then some (ad (166 + 10 * j)) else none) := (hfb_8 _ (by omega)).trans hX.2
            have hpl_13 : isPl κ ad g_6 2 nl v := hpl.far (fun _ _ _ => hfb_8 _ (by omega))
            refine vx_ret ?_
            refine g_iret C G hr hlk (Nat.le_of_ble_eq_true rfl) (Nat.le_of_ble_eq_true rfl) dX7_bestStart_71 ?_
            exact ⟨hbn_7, hfb_8, by omega, by omega, hx_9.1⟩
          · refine g_throwW C G X hlf hlk hnt hl (cls := "java/lang/IllegalArgumentException") (text := "l and m are the same") (ik := 45) (is := 275) (ic := 49) (by decide +kernel) (by decide +kernel : Cond.classLink RX7 45 _ ∈ wsX7_bestStart) (by decide +kernel : Cond.initialized _ ∈ wsX7_bestStart) (by decide +kernel) (by decide +kernel) (by decide +kernel) at_iae (by decide +kernel) dX7_bestStart_43 dX7_bestStart_46 dX7_bestStart_47 dX7_bestStart_50 dX7_bestStart_53 (Nat.le_of_ble_eq_true rfl) (Nat.le_of_ble_eq_true rfl) (Nat.le_of_ble_eq_true rfl) (Nat.le_of_ble_eq_true rfl) (Nat.le_of_ble_eq_true rfl) (Nat.le_of_ble_eq_true rfl) ?_
            exact Or.inr (⟨rfl, by omega, rfl⟩)
        · cases hw
      · obtain ⟨hg9, ⟨b_4, hw⟩ | ⟨b_4, hw⟩⟩ := hw
        all_goals replace hg9 := hg9.symm
        all_goals subst hg9
        · cases hw
        · refine lv_astoreN (lv' := [(4, .null), (3, .ref (ad (2 + 2 + (li).toNat))), (0, .ref (ad 0)), (1, .int (iz li)), (2, .int (iz lj))]) C.1.1 C.1.2.1 dX7_bestStart_17 hl (by decide) rfl (fun ls hl => ?_)
          refine g_aload_n C dX7_bestStart_19 rfl hl 1 rfl ?_
          refine lv_ifnull C.1.1 C.1.2.1 dX7_bestStart_20 ?_
          refine lv_aloadN C.1.1 C.1.2.1 dX7_bestStart_23 (lv_at hl 0 rfl) ?_
          refine lv_ifnonnullN C.1.1 C.1.2.1 dX7_bestStart_25 ?_
          refine g_throw C G X hlf hlk hnt hl (cls := "java/lang/IndexOutOfBoundsException") (text := "no such layer") (ik := 116) (is := 118) (ic := 120) (by decide +kernel) (by decide +kernel : Cond.classLink RX7 116 _ ∈ wsX7_bestStart) (by decide +kernel : Cond.initialized _ ∈ wsX7_bestStart) (by decide +kernel) (by decide +kernel) (by decide +kernel) at_ioe (by decide +kernel) dX7_bestStart_28 dX7_bestStart_31 dX7_bestStart_32 dX7_bestStart_34 dX7_bestStart_37 (Nat.le_of_ble_eq_true rfl) (Nat.le_of_ble_eq_true rfl) (Nat.le_of_ble_eq_true rfl) (Nat.le_of_ble_eq_true rfl) (Nat.le_of_ble_eq_true rfl) (Nat.le_of_ble_eq_true rfl) ?_
          exact Or.inl ⟨rfl, by omega, rfl⟩
    · cases hw
  · obtain ⟨hg9, ⟨b_2, hw⟩ | ⟨b_2, hw⟩⟩ := hw
    all_goals replace hg9 := hg9.symm
    all_goals subst hg9
    · cases hw
    · refine lv_astore_nN (lv' := [(3, .null), (0, .ref (ad 0)), (1, .int (iz li)), (2, .int (iz lj))]) C.1.1 C.1.2.1 dX7_bestStart_8 rfl hl (by decide) rfl (fun ls hl => ?_)
      refine g_aload_n C dX7_bestStart_9 rfl hl 1 rfl ?_
      refine g_get C G (pos := 0) fX7_bestStart_16 (by omega) hX.1 rfl dX7_bestStart_10 ?_
      refine g_iload_n C dX7_bestStart_13 rfl hl 3 rfl ?_
      refine g_co C G (g_runV (As := [.int (iz lj)]) (rest := []) (pos := 2) C G (c_X4_find l κ B n ad g 2 nl v lj (by omega) hpl (by omega) (by omega)) (cwV 1 C.1.2.2.2.2 gX7_bestStart_X4_find rfl rfl rfl (by decide +kernel) ⟨Nat.le_of_ble_eq_true rfl, Nat.le_of_ble_eq_true rfl⟩) (by omega) hpl.1 (T := TX4) (N := 6) rfl rfl hl rfl (Nat.le_of_ble_eq_true rfl) dX7_bestStart_14 ⟨Nat.le_of_ble_eq_true rfl, Nat.le_of_ble_eq_true rfl⟩) (fun q_14 g9 H locs hw G => ?_) (fun g9 H locs hw G => ?_)
      · obtain ⟨hg9, ⟨b_15, hw⟩ | ⟨b_15, hw⟩⟩ := hw
        all_goals replace hg9 := hg9.symm
        all_goals subst hg9
        · cases hw
          have hlb := hlay lj (by omega) (by omega)
          refine lv_astore (lv' := [(4, .ref (ad (2 + 2 + (lj).toNat))), (3, .null), (0, .ref (ad 0)), (1, .int (iz li)), (2, .int (iz lj))]) C.1.1 C.1.2.1 dX7_bestStart_17 hl (by decide) rfl (fun ls hl => ?_)
          refine lv_aload_nN C.1.1 C.1.2.1 dX7_bestStart_19 rfl (lv_at hl 1 rfl) ?_
          refine lv_ifnullN (tgt := 28) C.1.1 C.1.2.1 dX7_bestStart_20 (by decide) ?_
          refine g_throw C G X hlf hlk hnt hl (cls := "java/lang/IndexOutOfBoundsException") (text := "no such layer") (ik := 116) (is := 118) (ic := 120) (by decide +kernel) (by decide +kernel : Cond.classLink RX7 116 _ ∈ wsX7_bestStart) (by decide +kernel : Cond.initialized _ ∈ wsX7_bestStart) (by decide +kernel) (by decide +kernel) (by decide +kernel) at_ioe (by decide +kernel) dX7_bestStart_28 dX7_bestStart_31 dX7_bestStart_32 dX7_bestStart_34 dX7_bestStart_37 (Nat.le_of_ble_eq_true rfl) (Nat.le_of_ble_eq_true rfl) (Nat.le_of_ble_eq_true rfl) (Nat.le_of_ble_eq_true rfl) (Nat.le_of_ble_eq_true rfl) (Nat.le_of_ble_eq_true rfl) ?_
          exact Or.inl ⟨rfl, by omega, rfl⟩
        · cases hw
      · obtain ⟨hg9, ⟨b_15, hw⟩ | ⟨b_15, hw⟩⟩ := hw
        all_goals replace hg9 := hg9.symm
        all_goals subst hg9
        · cases hw
        · refine lv_astoreN (lv' := [(4, .null), (3, .null), (0, .ref (ad 0)), (1, .int (iz li)), (2, .int (iz lj))]) C.1.1 C.1.2.1 dX7_bestStart_17 hl (by decide) rfl (fun ls hl => ?_)
          refine lv_aload_nN C.1.1 C.1.2.1 dX7_bestStart_19 rfl (lv_at hl 1 rfl) ?_
          refine lv_ifnullN (tgt := 28) C.1.1 C.1.2.1 dX7_bestStart_20 (by decide) ?_
          refine g_throw C G X hlf hlk hnt hl (cls := "java/lang/IndexOutOfBoundsException") (text := "no such layer") (ik := 116) (is := 118) (ic := 120) (by decide +kernel) (by decide +kernel : Cond.classLink RX7 116 _ ∈ wsX7_bestStart) (by decide +kernel : Cond.initialized _ ∈ wsX7_bestStart) (by decide +kernel) (by decide +kernel) (by decide +kernel) at_ioe (by decide +kernel) dX7_bestStart_28 dX7_bestStart_31 dX7_bestStart_32 dX7_bestStart_34 dX7_bestStart_37 (Nat.le_of_ble_eq_true rfl) (Nat.le_of_ble_eq_true rfl) (Nat.le_of_ble_eq_true rfl) (Nat.le_of_ble_eq_true rfl) (Nat.le_of_ble_eq_true rfl) (Nat.le_of_ble_eq_true rfl) ?_
          exact Or.inl ⟨rfl, by omega, rfl⟩
