/-! ROSETTEPLATEMODEL (X8): the text -/
theorem vu_swap {v : Int → Int} {z1 z2 x y : Int} (h : z1 ≠ z2) : vu (vu v z1 x) z2 y = vu (vu v z2 y) z1 x := by
  funext i
  unfold vu
  repeat' split
  all_goals first | rfl | (exfalso; omega)
theorem ld_step {V rw9 f : Int → Int} {k : Int} (hk : 0 ≤ k) (h : ∀ i, V i = if 0 ≤ i ∧ i < k then rw9 (-1 + 1 + i) else f i) : ∀ i, vu V k (rw9 k) i = if 0 ≤ i ∧ i < k + 1 then rw9 (-1 + 1 + i) else f i := by
  have e : rw9 k = rw9 (-1 + 1 + k) := by rw [show (-1 : Int) + 1 + k = k by omega]
  rw [e]
  exact br_step hk h
theorem fwX8_readText_93 : gFldW wsX8_readText RX8 93 8 9 .int false := ⟨RX8, TX8, 17, tyX8, rfl, by decide, by decide +kernel, by decide +kernel, tyX8_ok, nmX8, rfl, by decide +kernel, by decide +kernel⟩
theorem fX8_readText_86 : gFld wsX8_readText RX8 86 8 6 := ⟨RX8, TX8, 17, rfl, by decide, by decide +kernel, by decide +kernel⟩
theorem fwX8_readText_89 : gFldW wsX8_readText RX8 89 8 10 .boolean false := ⟨RX8, TX8, 17, tyX8, rfl, by decide, by decide +kernel, by decide +kernel, tyX8_ok, nmX8, rfl, by decide +kernel, by decide +kernel⟩
theorem fwX8_readText_98 : gFldW wsX8_readText RX8 98 8 8 .int false := ⟨RX8, TX8, 17, tyX8, rfl, by decide, by decide +kernel, by decide +kernel, tyX8_ok, nmX8, rfl, by decide +kernel, by decide +kernel⟩
theorem fX8_readText_19 : gFld wsX8_readText RX8 19 8 7 := ⟨RX8, TX8, 17, rfl, by decide, by decide +kernel, by decide +kernel⟩
theorem fX8_readText_89 : gFld wsX8_readText RX8 89 8 10 := ⟨RX8, TX8, 17, rfl, by decide, by decide +kernel, by decide +kernel⟩
theorem fX8_readText_93 : gFld wsX8_readText RX8 93 8 9 := ⟨RX8, TX8, 17, rfl, by decide, by decide +kernel, by decide +kernel⟩
theorem fX8_readText_16 : gFld wsX8_readText RX8 16 8 5 := ⟨RX8, TX8, 17, rfl, by decide, by decide +kernel, by decide +kernel⟩
set_option maxHeartbeats 4000000 in
set_option maxRecDepth 100000 in
theorem c_X8_readText (l : Launch) (κ : gKap) (B n : Nat) (ad : Nat → Nat) (g : Nat → va_E) (ly : Int) (th : Int) (mk : Int) (tx : Int) (rl : Int) (a0 : Int) (wr : Int) (s0 : Int) (s1 : Int) (rm : Int) (X9 : Int → Int) (q9 : Int → Int) (hn8 : 200 ≤ n) (hM : g 192 = oM ad ly th mk tx rl a0 wr s0 s1 rm) (hT : g 195 = aI κ 100 X9) (hRd : g 196 = aI κ 42 q9) (htx : 0 ≤ tx ∧ tx ≤ 100) (hinq : inV q9) (hTx : ∀ i, 0 ≤ i → i < 100 → 0 ≤ X9 i ∧ X9 i ≤ 255) : Met l yX8_readText wsX8_readText ({ frames := 3, cells := 0, slots := 0, locals := 75 }) (gPre κ B n ad g [.ref (ad 192)]) (gQi κ B n ad (fun z g' => z = (rtS X9 tx rl q9).1 ∧ ∃ l8 p8 w8 q8, g' 192 = oM ad ly th mk tx l8 p8 w8 s0 s1 rm ∧ g' 196 = aI κ 42 q8 ∧ inV q8 ∧ (∀ x, x ≠ 192 → x ≠ 196 → g' x = g x) ∧ ((rtS X9 tx rl q9).1 = -9 → l8 = (rtS X9 tx rl q9).2.1 ∧ q8 = (rtS X9 tx rl q9).2.2))) 0 0 (gFree B) := by
  refine g_met RX8 (cc := cX8_readText) (maxL := 1) (ret := (some .int)) (by decide) rfl rfl (Nat.le_of_ble_eq_true rfl) ?_
  intro p e s m args below meth c C hr hlk hnm G ls hl
  have hl : lv_has ls 1 [(0, .ref (ad 192))] := hl
  refine g_aload_n C dX8_readText_0 rfl hl 0 rfl ?_
  refine g_iconst (a := 0) C dX8_readText_1 rfl ?_
  refine g_put C G (pos := 192) (fs' := [.ref (ad 193), .int (iz ly), .int (iz th), .ref (ad 194), .int (iz mk), .ref (ad 195), .int (iz tx), .ref (ad 196), .int (iz rl), .int (iz 0), .int (iz wr), .int (iz s0), .int (iz s1), .ref (ad 197), .int (iz rm), .ref (ad 198), .ref (ad 199)]) fwX8_readText_93 (by omega) hM (Nat.le_of_ble_eq_true rfl) rfl rfl rfl dX8_readText_2 (fun H locs G => ?_)
  obtain ⟨g_1, hg_2⟩ : ∃ g9, g9 = va_up g 192 (.inr (8, [.ref (ad 193), .int (iz ly), .int (iz th), .ref (ad 194), .int (iz mk), .ref (ad 195), .int (iz tx), .ref (ad 196), .int (iz rl), .int (iz 0), .int (iz wr), .int (iz s0), .int (iz s1), .ref (ad 197), .int (iz rm), .ref (ad 198), .ref (ad 199)])) := ⟨_, rfl⟩
  rw [← hg_2] at G
  have hc_3 : g_1 192 = .inr (8, [.ref (ad 193), .int (iz ly), .int (iz th), .ref (ad 194), .int (iz mk), .ref (ad 195), .int (iz tx), .ref (ad 196), .int (iz rl), .int (iz 0), .int (iz wr), .int (iz s0), .int (iz s1), .ref (ad 197), .int (iz rm), .ref (ad 198), .ref (ad 199)]) := by rw [hg_2]; exact gu_self _ _ _
  have hc_4 : g_1 195 = aI κ 100 X9 := by rw [hg_2, gu_ne (by decide)]; exact hT
  have hc_5 : g_1 196 = aI κ 42 q9 := by rw [hg_2, gu_ne (by decide)]; exact hRd
  refine g_aload_n C dX8_readText_5 rfl hl 0 rfl ?_
  refine g_aload_n C dX8_readText_6 rfl hl 0 rfl ?_
  refine g_get C G (pos := 192) fX8_readText_86 (by omega) hc_3 rfl dX8_readText_7 ?_
  refine g_if_eq (tgt := 24) C (by omega) dX8_readText_10 (by decide) (fun c_6 => ?_) (fun c_6 => ?_)
  · refine g_iconst (a := 1) C dX8_readText_24 rfl ?_
    refine g_goto (tgt := 29) C dX8_readText_25 (by decide) ?_
    refine g_put C G (pos := 192) (fs' := [.ref (ad 193), .int (iz ly), .int (iz th), .ref (ad 194), .int (iz mk), .ref (ad 195), .int (iz tx), .ref (ad 196), .int (iz rl), .int (iz 0), .int (iz 1), .int (iz s0), .int (iz s1), .ref (ad 197), .int (iz rm), .ref (ad 198), .ref (ad 199)]) fwX8_readText_89 (by omega) hc_3 (Nat.le_of_ble_eq_true rfl) rfl (gnar_z (by decide)) rfl dX8_readText_29 (fun H locs G => ?_)
    obtain ⟨g_7, hg_8⟩ : ∃ g9, g9 = va_up g_1 192 (.inr (8, [.ref (ad 193), .int (iz ly), .int (iz th), .ref (ad 194), .int (iz mk), .ref (ad 195), .int (iz tx), .ref (ad 196), .int (iz rl), .int (iz 0), .int (iz 1), .int (iz s0), .int (iz s1), .ref (ad 197), .int (iz rm), .ref (ad 198), .ref (ad 199)])) := ⟨_, rfl⟩
    rw [← hg_8] at G
    have hc_9 : g_7 192 = .inr (8, [.ref (ad 193), .int (iz ly), .int (iz th), .ref (ad 194), .int (iz mk), .ref (ad 195), .int (iz tx), .ref (ad 196), .int (iz rl), .int (iz 0), .int (iz 1), .int (iz s0), .int (iz s1), .ref (ad 197), .int (iz rm), .ref (ad 198), .ref (ad 199)]) := by rw [hg_8]; exact gu_self _ _ _
    have hc_10 : g_7 195 = aI κ 100 X9 := by rw [hg_8, gu_ne (by decide)]; exact hc_4
    have hc_11 : g_7 196 = aI κ 42 q9 := by rw [hg_8, gu_ne (by decide)]; exact hc_5
    refine g_aload_n C dX8_readText_32 rfl hl 0 rfl ?_
    refine g_iconst (a := 0) C dX8_readText_33 rfl ?_
    refine g_put C G (pos := 192) (fs' := [.ref (ad 193), .int (iz ly), .int (iz th), .ref (ad 194), .int (iz mk), .ref (ad 195), .int (iz tx), .ref (ad 196), .int (iz 0), .int (iz 0), .int (iz 1), .int (iz s0), .int (iz s1), .ref (ad 197), .int (iz rm), .ref (ad 198), .ref (ad 199)]) fwX8_readText_98 (by omega) hc_9 (Nat.le_of_ble_eq_true rfl) rfl rfl rfl dX8_readText_34 (fun H locs G => ?_)
    obtain ⟨g_12, hg_13⟩ : ∃ g9, g9 = va_up g_7 192 (.inr (8, [.ref (ad 193), .int (iz ly), .int (iz th), .ref (ad 194), .int (iz mk), .ref (ad 195), .int (iz tx), .ref (ad 196), .int (iz 0), .int (iz 0), .int (iz 1), .int (iz s0), .int (iz s1), .ref (ad 197), .int (iz rm), .ref (ad 198), .ref (ad 199)])) := ⟨_, rfl⟩
    rw [← hg_13] at G
    have hc_14 : g_12 192 = .inr (8, [.ref (ad 193), .int (iz ly), .int (iz th), .ref (ad 194), .int (iz mk), .ref (ad 195), .int (iz tx), .ref (ad 196), .int (iz 0), .int (iz 0), .int (iz 1), .int (iz s0), .int (iz s1), .ref (ad 197), .int (iz rm), .ref (ad 198), .ref (ad 199)]) := by rw [hg_13]; exact gu_self _ _ _
    have hc_15 : g_12 195 = aI κ 100 X9 := by rw [hg_13, gu_ne (by decide)]; exact hc_10
    have hc_16 : g_12 196 = aI κ 42 q9 := by rw [hg_13, gu_ne (by decide)]; exact hc_11
    refine g_aload_n C dX8_readText_37 rfl hl 0 rfl ?_
    refine g_get C G (pos := 192) fX8_readText_19 (by omega) hc_14 rfl dX8_readText_38 ?_
    refine g_bipush (a := 25) C dX8_readText_41 (by decide) ?_
    refine g_iconst (a := 0) C dX8_readText_43 rfl ?_
    refine g_iastore C G (pos := 196) (by omega) hc_16 (by omega) (by omega) (by omega) dX8_readText_44 (fun H locs G => ?_)
    obtain ⟨g_17, hg_18⟩ : ∃ g9, g9 = va_up g_12 196 (aI κ 42 (vu q9 25 0)) := ⟨_, rfl⟩
    rw [← hg_18] at G
    have hc_19 : g_17 192 = .inr (8, [.ref (ad 193), .int (iz ly), .int (iz th), .ref (ad 194), .int (iz mk), .ref (ad 195), .int (iz tx), .ref (ad 196), .int (iz 0), .int (iz 0), .int (iz 1), .int (iz s0), .int (iz s1), .ref (ad 197), .int (iz rm), .ref (ad 198), .ref (ad 199)]) := by rw [hg_18, gu_ne (by decide)]; exact hc_14
    have hc_20 : g_17 195 = aI κ 100 X9 := by rw [hg_18, gu_ne (by decide)]; exact hc_15
    have hc_21 : g_17 196 = aI κ 42 (vu q9 25 0) := by rw [hg_18]; exact gu_self _ _ _
    refine g_aload_n C dX8_readText_45 rfl hl 0 rfl ?_
    refine g_get C G (pos := 192) fX8_readText_89 (by omega) hc_19 rfl dX8_readText_46 ?_
    refine g_if_ne (tgt := 72) C (by decide) dX8_readText_49 (by decide) (fun _ => ?_) (fun c9 => absurd c9 (by decide))
    refine g_aload_n C dX8_readText_72 rfl hl 0 rfl ?_
    refine g_get C G (pos := 192) fX8_readText_89 (by omega) hc_19 rfl dX8_readText_73 ?_
    refine g_if_ne (tgt := 97) C (by decide) dX8_readText_76 (by decide) (fun _ => ?_) (fun c9 => absurd c9 (by decide))
    refine g_aload_n C dX8_readText_97 rfl hl 0 rfl ?_
    refine g_get C G (pos := 192) fX8_readText_89 (by omega) hc_19 rfl dX8_readText_98 ?_
    refine g_if_eq (tgt := 111) C (by decide) dX8_readText_101 (by decide) (fun c9 => absurd c9 (by decide)) (fun _ => ?_)
    refine g_aload_n C dX8_readText_104 rfl hl 0 rfl ?_
    refine g_get C G (pos := 192) fX8_readText_93 (by omega) hc_19 rfl dX8_readText_105 ?_
    refine g_goto (tgt := 113) C dX8_readText_108 (by decide) ?_
    refine g_iret C G hr hlk (Nat.le_of_ble_eq_true rfl) (Nat.le_of_ble_eq_true rfl) dX8_readText_113 ?_
    have hE : rtS X9 tx rl q9 = (0, rl, q9) := by
      have hg9 : rgS X9 tx rl q9 = (false, 0, rl, q9) := by
        unfold rgS; exact if_neg (fun q => by omega)
      unfold rtS; rw [hg9]; rfl
    rw [hE]
    exact ⟨rfl, _, _, _, _, hc_19, hc_21, (hinq.vu (by omega)), fun x x1 x2 => by rw [hg_18, gu_ne (by omega), hg_13, gu_ne (by omega), hg_8, gu_ne (by omega), hg_2, gu_ne (by omega)], fun q => absurd q (by dsimp only; omega)⟩
  · refine g_aload_n C dX8_readText_13 rfl hl 0 rfl ?_
    refine g_get C G (pos := 192) fX8_readText_16 (by omega) hc_3 rfl dX8_readText_14 ?_
    refine g_iconst (a := 0) C dX8_readText_17 rfl ?_
    have hx9 := hTx 0 (by omega) (by omega)
    refine g_iaload C G (pos := 195) (by omega) hc_4 (by omega) (by omega) (by omega) dX8_readText_18 ?_
    refine g_bipush (a := 69) C dX8_readText_19 (by decide) ?_
    refine g_icmp_eq (tgt := 28) C (by omega) (by decide) dX8_readText_21 (by decide) (fun c_22 => ?_) (fun c_22 => ?_)
    · refine g_iconst (a := 0) C dX8_readText_28 rfl ?_
      refine g_put C G (pos := 192) (fs' := [.ref (ad 193), .int (iz ly), .int (iz th), .ref (ad 194), .int (iz mk), .ref (ad 195), .int (iz tx), .ref (ad 196), .int (iz rl), .int (iz 0), .int (iz 0), .int (iz s0), .int (iz s1), .ref (ad 197), .int (iz rm), .ref (ad 198), .ref (ad 199)]) fwX8_readText_89 (by omega) hc_3 (Nat.le_of_ble_eq_true rfl) rfl (gnar_z (by decide)) rfl dX8_readText_29 (fun H locs G => ?_)
      obtain ⟨g_23, hg_24⟩ : ∃ g9, g9 = va_up g_1 192 (.inr (8, [.ref (ad 193), .int (iz ly), .int (iz th), .ref (ad 194), .int (iz mk), .ref (ad 195), .int (iz tx), .ref (ad 196), .int (iz rl), .int (iz 0), .int (iz 0), .int (iz s0), .int (iz s1), .ref (ad 197), .int (iz rm), .ref (ad 198), .ref (ad 199)])) := ⟨_, rfl⟩
      rw [← hg_24] at G
      have hc_25 : g_23 192 = .inr (8, [.ref (ad 193), .int (iz ly), .int (iz th), .ref (ad 194), .int (iz mk), .ref (ad 195), .int (iz tx), .ref (ad 196), .int (iz rl), .int (iz 0), .int (iz 0), .int (iz s0), .int (iz s1), .ref (ad 197), .int (iz rm), .ref (ad 198), .ref (ad 199)]) := by rw [hg_24]; exact gu_self _ _ _
      have hc_26 : g_23 195 = aI κ 100 X9 := by rw [hg_24, gu_ne (by decide)]; exact hc_4
      have hc_27 : g_23 196 = aI κ 42 q9 := by rw [hg_24, gu_ne (by decide)]; exact hc_5
      refine g_aload_n C dX8_readText_32 rfl hl 0 rfl ?_
      refine g_iconst (a := 0) C dX8_readText_33 rfl ?_
      refine g_put C G (pos := 192) (fs' := [.ref (ad 193), .int (iz ly), .int (iz th), .ref (ad 194), .int (iz mk), .ref (ad 195), .int (iz tx), .ref (ad 196), .int (iz 0), .int (iz 0), .int (iz 0), .int (iz s0), .int (iz s1), .ref (ad 197), .int (iz rm), .ref (ad 198), .ref (ad 199)]) fwX8_readText_98 (by omega) hc_25 (Nat.le_of_ble_eq_true rfl) rfl rfl rfl dX8_readText_34 (fun H locs G => ?_)
      obtain ⟨g_28, hg_29⟩ : ∃ g9, g9 = va_up g_23 192 (.inr (8, [.ref (ad 193), .int (iz ly), .int (iz th), .ref (ad 194), .int (iz mk), .ref (ad 195), .int (iz tx), .ref (ad 196), .int (iz 0), .int (iz 0), .int (iz 0), .int (iz s0), .int (iz s1), .ref (ad 197), .int (iz rm), .ref (ad 198), .ref (ad 199)])) := ⟨_, rfl⟩
      rw [← hg_29] at G
      have hc_30 : g_28 192 = .inr (8, [.ref (ad 193), .int (iz ly), .int (iz th), .ref (ad 194), .int (iz mk), .ref (ad 195), .int (iz tx), .ref (ad 196), .int (iz 0), .int (iz 0), .int (iz 0), .int (iz s0), .int (iz s1), .ref (ad 197), .int (iz rm), .ref (ad 198), .ref (ad 199)]) := by rw [hg_29]; exact gu_self _ _ _
      have hc_31 : g_28 195 = aI κ 100 X9 := by rw [hg_29, gu_ne (by decide)]; exact hc_26
      have hc_32 : g_28 196 = aI κ 42 q9 := by rw [hg_29, gu_ne (by decide)]; exact hc_27
      refine g_aload_n C dX8_readText_37 rfl hl 0 rfl ?_
      refine g_get C G (pos := 192) fX8_readText_19 (by omega) hc_30 rfl dX8_readText_38 ?_
      refine g_bipush (a := 25) C dX8_readText_41 (by decide) ?_
      refine g_iconst (a := 0) C dX8_readText_43 rfl ?_
      refine g_iastore C G (pos := 196) (by omega) hc_32 (by omega) (by omega) (by omega) dX8_readText_44 (fun H locs G => ?_)
      obtain ⟨g_33, hg_34⟩ : ∃ g9, g9 = va_up g_28 196 (aI κ 42 (vu q9 25 0)) := ⟨_, rfl⟩
      rw [← hg_34] at G
      have hc_35 : g_33 192 = .inr (8, [.ref (ad 193), .int (iz ly), .int (iz th), .ref (ad 194), .int (iz mk), .ref (ad 195), .int (iz tx), .ref (ad 196), .int (iz 0), .int (iz 0), .int (iz 0), .int (iz s0), .int (iz s1), .ref (ad 197), .int (iz rm), .ref (ad 198), .ref (ad 199)]) := by rw [hg_34, gu_ne (by decide)]; exact hc_30
      have hc_36 : g_33 195 = aI κ 100 X9 := by rw [hg_34, gu_ne (by decide)]; exact hc_31
      have hc_37 : g_33 196 = aI κ 42 (vu q9 25 0) := by rw [hg_34]; exact gu_self _ _ _
      refine g_aload_n C dX8_readText_45 rfl hl 0 rfl ?_
      refine g_get C G (pos := 192) fX8_readText_89 (by omega) hc_35 rfl dX8_readText_46 ?_
      refine g_if_ne (tgt := 72) C (by decide) dX8_readText_49 (by decide) (fun c9 => absurd c9 (by decide)) (fun _ => ?_)
      refine g_aload_n C dX8_readText_52 rfl hl 0 rfl ?_
      refine g_iconst (a := 1) C dX8_readText_53 rfl ?_
      refine g_put C G (pos := 192) (fs' := [.ref (ad 193), .int (iz ly), .int (iz th), .ref (ad 194), .int (iz mk), .ref (ad 195), .int (iz tx), .ref (ad 196), .int (iz 0), .int (iz 1), .int (iz 0), .int (iz s0), .int (iz s1), .ref (ad 197), .int (iz rm), .ref (ad 198), .ref (ad 199)]) fwX8_readText_93 (by omega) hc_35 (Nat.le_of_ble_eq_true rfl) rfl rfl rfl dX8_readText_54 (fun H locs G => ?_)
      obtain ⟨g_38, hg_39⟩ : ∃ g9, g9 = va_up g_33 192 (.inr (8, [.ref (ad 193), .int (iz ly), .int (iz th), .ref (ad 194), .int (iz mk), .ref (ad 195), .int (iz tx), .ref (ad 196), .int (iz 0), .int (iz 1), .int (iz 0), .int (iz s0), .int (iz s1), .ref (ad 197), .int (iz rm), .ref (ad 198), .ref (ad 199)])) := ⟨_, rfl⟩
      rw [← hg_39] at G
      have hc_40 : g_38 192 = .inr (8, [.ref (ad 193), .int (iz ly), .int (iz th), .ref (ad 194), .int (iz mk), .ref (ad 195), .int (iz tx), .ref (ad 196), .int (iz 0), .int (iz 1), .int (iz 0), .int (iz s0), .int (iz s1), .ref (ad 197), .int (iz rm), .ref (ad 198), .ref (ad 199)]) := by rw [hg_39]; exact gu_self _ _ _
      have hc_41 : g_38 195 = aI κ 100 X9 := by rw [hg_39, gu_ne (by decide)]; exact hc_36
      have hc_42 : g_38 196 = aI κ 42 (vu q9 25 0) := by rw [hg_39, gu_ne (by decide)]; exact hc_37
      refine g_aload_n C dX8_readText_57 rfl hl 0 rfl ?_
      refine g_get C G (pos := 192) fX8_readText_19 (by omega) hc_40 rfl dX8_readText_58 ?_
      refine g_iconst (a := 0) C dX8_readText_61 rfl ?_
      refine g_aload_n C dX8_readText_62 rfl hl 0 rfl ?_
      refine g_iconst (a := 2) C dX8_readText_63 rfl ?_
      refine g_bipush (a := 12) C dX8_readText_64 (by decide) ?_
      refine g_bipush (a := 96) C dX8_readText_66 (by decide) ?_
      refine g_ci C G (g_runV (As := [.int (iz 2), .int (iz 12), .int (iz 96)]) (rest := [.int (iz 0), .ref (ad 196)]) (pos := 192) C G (c_X8_number l κ B n ad g_38 ly th mk tx 0 1 0 s0 s1 rm X9 2 12 96 hn8 hc_40 hc_41 rfl (by omega) (by omega) htx (by omega) hTx) (cwV 3 C.1.2.2.2.2 gX8_readText_X8_number rfl rfl rfl (by decide +kernel) ⟨Nat.le_of_ble_eq_true rfl, Nat.le_of_ble_eq_true rfl⟩) (by omega) hc_40 (T := TX8) (N := 17) rfl rfl hl rfl (Nat.le_of_ble_eq_true rfl) dX8_readText_68 ⟨Nat.le_of_ble_eq_true rfl, Nat.le_of_ble_eq_true rfl⟩) (fun z_43 g9 H locs hw9 G => ?_)
      have hr_47 := rd_range (T9 := X9) (L9 := tx) (lo := 12) (hi := 96) (dg := 2) (q := 1) (by omega) (by omega) (by omega)
      obtain ⟨r_45, p_46, e_44⟩ : ∃ r9 p9, rd X9 tx 12 96 2 1 = (r9, p9) := ⟨_, _, rfl⟩
      rw [e_44] at hw9 hr_47
      dsimp only at hw9 hr_47
      rcases hw9 with hw9 | hw9
      · obtain ⟨hq_48, hw, hq_48z⟩ := hw9
        subst hw
        obtain ⟨g_49, hg_50⟩ : ∃ g9, g9 = va_up g_38 192 (.inr (8, [.ref (ad 193), .int (iz ly), .int (iz th), .ref (ad 194), .int (iz mk), .ref (ad 195), .int (iz tx), .ref (ad 196), .int (iz 0), .int (iz p_46), .int (iz 1), .int (iz s0), .int (iz s1), .ref (ad 197), .int (iz rm), .ref (ad 198), .ref (ad 199)])) := ⟨_, rfl⟩
        rw [← hg_50] at G
        have hc_51 : g_49 192 = .inr (8, [.ref (ad 193), .int (iz ly), .int (iz th), .ref (ad 194), .int (iz mk), .ref (ad 195), .int (iz tx), .ref (ad 196), .int (iz 0), .int (iz p_46), .int (iz 1), .int (iz s0), .int (iz s1), .ref (ad 197), .int (iz rm), .ref (ad 198), .ref (ad 199)]) := by rw [hg_50]; exact gu_self _ _ _
        have hc_52 : g_49 195 = aI κ 100 X9 := by rw [hg_50, gu_ne (by decide)]; exact hc_41
        have hc_53 : g_49 196 = aI κ 42 (vu q9 25 0) := by rw [hg_50, gu_ne (by decide)]; exact hc_42
        refine g_iastore C G (pos := 196) (by omega) hc_53 (by omega) (by omega) (by omega) dX8_readText_71 (fun H locs G => ?_)
        obtain ⟨g_54, hg_55⟩ : ∃ g9, g9 = va_up g_49 196 (aI κ 42 (vu (vu q9 25 0) 0 z_43)) := ⟨_, rfl⟩
        rw [← hg_55] at G
        have hc_56 : g_54 192 = .inr (8, [.ref (ad 193), .int (iz ly), .int (iz th), .ref (ad 194), .int (iz mk), .ref (ad 195), .int (iz tx), .ref (ad 196), .int (iz 0), .int (iz p_46), .int (iz 1), .int (iz s0), .int (iz s1), .ref (ad 197), .int (iz rm), .ref (ad 198), .ref (ad 199)]) := by rw [hg_55, gu_ne (by decide)]; exact hc_51
        have hc_57 : g_54 195 = aI κ 100 X9 := by rw [hg_55, gu_ne (by decide)]; exact hc_52
        have hc_58 : g_54 196 = aI κ 42 (vu (vu q9 25 0) 0 z_43) := by rw [hg_55]; exact gu_self _ _ _
        refine g_aload_n C dX8_readText_72 rfl hl 0 rfl ?_
        refine g_get C G (pos := 192) fX8_readText_89 (by omega) hc_56 rfl dX8_readText_73 ?_
        refine g_if_ne (tgt := 97) C (by decide) dX8_readText_76 (by decide) (fun _ => ?_) (fun c9 => absurd c9 (by decide))
        refine g_aload_n C dX8_readText_97 rfl hl 0 rfl ?_
        refine g_get C G (pos := 192) fX8_readText_89 (by omega) hc_56 rfl dX8_readText_98 ?_
        refine g_if_eq (tgt := 111) C (by decide) dX8_readText_101 (by decide) (fun c9 => absurd c9 (by decide)) (fun _ => ?_)
        refine g_aload_n C dX8_readText_104 rfl hl 0 rfl ?_
        refine g_get C G (pos := 192) fX8_readText_93 (by omega) hc_56 rfl dX8_readText_105 ?_
        refine g_goto (tgt := 113) C dX8_readText_108 (by decide) ?_
        refine g_iret C G hr hlk (Nat.le_of_ble_eq_true rfl) (Nat.le_of_ble_eq_true rfl) dX8_readText_113 ?_
        have hE : rtS X9 tx rl q9 = (p_46, rl, q9) := by
          have hg9 : rgS X9 tx rl q9 = (false, p_46, rl, q9) := by
            unfold rgS; rw [if_pos ⟨by omega, by omega⟩]; simp only [e_44]; rw [if_pos (by omega)]
          unfold rtS; rw [hg9]; rfl
        rw [hE]
        exact ⟨rfl, _, _, _, _, hc_56, hc_58, ((hinq.vu (by omega)).vu (by omega)), fun x x1 x2 => by rw [hg_55, gu_ne (by omega), hg_50, gu_ne (by omega), hg_39, gu_ne (by omega), hg_34, gu_ne (by omega), hg_29, gu_ne (by omega), hg_24, gu_ne (by omega), hg_2, gu_ne (by omega)], fun q => absurd q (by dsimp only; omega)⟩
      · obtain ⟨hq_59, hw, hq_59z⟩ := hw9
        subst hw
        subst hq_59z
        obtain ⟨g_60, hg_61⟩ : ∃ g9, g9 = va_up g_38 192 (.inr (8, [.ref (ad 193), .int (iz ly), .int (iz th), .ref (ad 194), .int (iz mk), .ref (ad 195), .int (iz tx), .ref (ad 196), .int (iz 0), .int (iz p_46), .int (iz 0), .int (iz s0), .int (iz s1), .ref (ad 197), .int (iz rm), .ref (ad 198), .ref (ad 199)])) := ⟨_, rfl⟩
        rw [← hg_61] at G
        have hc_62 : g_60 192 = .inr (8, [.ref (ad 193), .int (iz ly), .int (iz th), .ref (ad 194), .int (iz mk), .ref (ad 195), .int (iz tx), .ref (ad 196), .int (iz 0), .int (iz p_46), .int (iz 0), .int (iz s0), .int (iz s1), .ref (ad 197), .int (iz rm), .ref (ad 198), .ref (ad 199)]) := by rw [hg_61]; exact gu_self _ _ _
        have hc_63 : g_60 195 = aI κ 100 X9 := by rw [hg_61, gu_ne (by decide)]; exact hc_41
        have hc_64 : g_60 196 = aI κ 42 (vu q9 25 0) := by rw [hg_61, gu_ne (by decide)]; exact hc_42
        refine g_iastore C G (pos := 196) (by omega) hc_64 (by omega) (by omega) (by omega) dX8_readText_71 (fun H locs G => ?_)
        obtain ⟨g_65, hg_66⟩ : ∃ g9, g9 = va_up g_60 196 (aI κ 42 (vu (vu q9 25 0) 0 z_43)) := ⟨_, rfl⟩
        rw [← hg_66] at G
        have hc_67 : g_65 192 = .inr (8, [.ref (ad 193), .int (iz ly), .int (iz th), .ref (ad 194), .int (iz mk), .ref (ad 195), .int (iz tx), .ref (ad 196), .int (iz 0), .int (iz p_46), .int (iz 0), .int (iz s0), .int (iz s1), .ref (ad 197), .int (iz rm), .ref (ad 198), .ref (ad 199)]) := by rw [hg_66, gu_ne (by decide)]; exact hc_62
        have hc_68 : g_65 195 = aI κ 100 X9 := by rw [hg_66, gu_ne (by decide)]; exact hc_63
        have hc_69 : g_65 196 = aI κ 42 (vu (vu q9 25 0) 0 z_43) := by rw [hg_66]; exact gu_self _ _ _
        have lp_72_n_71 : ∀ (k_70 : Nat) (i : Int) (p9 : Int) (l9 : Int) (V : Int → Int) (gv : Nat → va_E), (100 - i).toNat < k_70 → (0 ≤ i ∧ i ≤ 100) → (i ≤ p9 ∧ p9 ≤ tx) → (okR l9 V) → (gv 192 = oM ad ly th mk tx l9 p9 0 s0 s1 rm) → (gv 195 = aI κ 100 X9) → (gv 196 = aI κ 42 V) → (∀ x, x ≠ 192 → x ≠ 196 → gv x = g x) → (rdS X9 tx (100 - i).toNat p9 l9 V = rtS X9 tx rl q9) → ∀ (H : Heap) (locs : List Loc), gG κ B n ad s gv H locs → ∀ (ls : Array Slot), lv_has ls 1 [(0, .ref (ad 192))] → W p l e ({ frames := 3, cells := 0, slots := 0, locals := 75 }) s m args below meth c H locs 0 0 (MQ below (gQi κ B n ad (fun z g' => z = (rtS X9 tx rl q9).1 ∧ ∃ l8 p8 w8 q8, g' 192 = oM ad ly th mk tx l8 p8 w8 s0 s1 rm ∧ g' 196 = aI κ 42 q8 ∧ inV q8 ∧ (∀ x, x ≠ 192 → x ≠ 196 → g' x = g x) ∧ ((rtS X9 tx rl q9).1 = -9 → l8 = (rtS X9 tx rl q9).2.1 ∧ q8 = (rtS X9 tx rl q9).2.2))) args s 0 0 (gFree B)) (F0 m 72 ls []) := by
          intro k_70
          induction k_70 with
          | zero => intro i p9 l9 V gv hm; exact absurd hm (Nat.not_lt_zero _)
          | succ k_70 ih_lp_72_n_71 =>
            intro i p9 l9 V gv hm hi hp hok9 hm9 ht9 hr9 hfr hR H locs G ls hl
            refine g_aload_n C dX8_readText_72 rfl hl 0 rfl ?_
            refine g_get C G (pos := 192) fX8_readText_89 (by omega) hm9 rfl dX8_readText_73 ?_
            refine g_if_ne (tgt := 97) C (by decide) dX8_readText_76 (by decide) (fun c9 => absurd c9 (by decide)) (fun _ => ?_)
            refine g_aload_n C dX8_readText_79 rfl hl 0 rfl ?_
            refine g_get C G (pos := 192) fX8_readText_93 (by omega) hm9 rfl dX8_readText_80 ?_
            refine g_aload_n C dX8_readText_83 rfl hl 0 rfl ?_
            refine g_get C G (pos := 192) fX8_readText_86 (by omega) hm9 rfl dX8_readText_84 ?_
            refine g_icmp_ge (tgt := 97) C (by omega) (by omega) dX8_readText_87 (by decide) (fun c_72 => ?_) (fun c_72 => ?_)
            · refine g_aload_n C dX8_readText_97 rfl hl 0 rfl ?_
              refine g_get C G (pos := 192) fX8_readText_89 (by omega) hm9 rfl dX8_readText_98 ?_
              refine g_if_eq (tgt := 111) C (by decide) dX8_readText_101 (by decide) (fun _ => ?_) (fun c9 => absurd c9 (by decide))
              refine g_bipush (a := (-9)) C dX8_readText_111 (by decide) ?_
              refine g_iret C G hr hlk (Nat.le_of_ble_eq_true rfl) (Nat.le_of_ble_eq_true rfl) dX8_readText_113 ?_
              have hE : rtS X9 tx rl q9 = (-9, l9, V) := by rw [← hR, rdS_end (by omega)]
              rw [hE]
              exact ⟨rfl, _, _, _, _, hm9, hr9, hok9.2, hfr, fun _ => ⟨rfl, rfl⟩⟩
            · refine g_aload_n C dX8_readText_90 rfl hl 0 rfl ?_
              have hk9 := rpS_ok (T9 := X9) (L9 := tx) (q := p9) (nl := l9) (v := V) (by omega) htx.2 hok9
              refine g_cv C G (g_runV (As := []) (rest := []) (pos := 192) C G (c_X8_part l κ B n ad gv ly th mk tx l9 p9 0 s0 s1 rm X9 V hn8 hm9 ht9 hr9 rfl hok9 htx (by omega) hTx) (cwV 0 C.1.2.2.2.2 gX8_readText_X8_part rfl rfl rfl (by decide +kernel) ⟨Nat.le_of_ble_eq_true rfl, Nat.le_of_ble_eq_true rfl⟩) (by omega) hm9 (T := TX8) (N := 17) rfl rfl hl rfl (Nat.le_of_ble_eq_true rfl) dX8_readText_91 ⟨Nat.le_of_ble_eq_true rfl, Nat.le_of_ble_eq_true rfl⟩) (fun g_73 H locs hw9 G => ?_)
              rcases hw9 with hw9 | hw9
              · obtain ⟨hF_74, hc_75, hc_76, hf_77⟩ := hw9
                have hc_78 : g_73 195 = aI κ 100 X9 := (hf_77 _ (by decide) (by decide)).trans ht9
                refine g_goto (tgt := 72) C dX8_readText_94 (by decide) ?_
                exact ih_lp_72_n_71 (i + 1) ((rpS X9 tx p9 l9 V).2.1) ((rpS X9 tx p9 l9 V).2.2.1) ((rpS X9 tx p9 l9 V).2.2.2) g_73 (by omega) (by omega) (by have := hk9.1; have := hk9.2.2 hF_74; omega) hk9.2.1 hc_75 hc_78 hc_76 (fun x x1 x2 => (hf_77 x x1 x2).trans (hfr x x1 x2)) (by rw [← hR, rdS_on (by omega) (by omega) hF_74]) _ _ G _ (lv_sub hl [0] rfl)
              · obtain ⟨hF_79, l_83, q_84, hc_80, hc_81, hi_85, hf_82⟩ := hw9
                have hc_86 : g_73 195 = aI κ 100 X9 := (hf_82 _ (by decide) (by decide)).trans ht9
                refine g_goto (tgt := 72) C dX8_readText_94 (by decide) ?_
                refine g_aload_n C dX8_readText_72 rfl hl 0 rfl ?_
                refine g_get C G (pos := 192) fX8_readText_89 (by omega) hc_80 rfl dX8_readText_73 ?_
                refine g_if_ne (tgt := 97) C (by decide) dX8_readText_76 (by decide) (fun _ => ?_) (fun c9 => absurd c9 (by decide))
                refine g_aload_n C dX8_readText_97 rfl hl 0 rfl ?_
                refine g_get C G (pos := 192) fX8_readText_89 (by omega) hc_80 rfl dX8_readText_98 ?_
                refine g_if_eq (tgt := 111) C (by decide) dX8_readText_101 (by decide) (fun c9 => absurd c9 (by decide)) (fun _ => ?_)
                refine g_aload_n C dX8_readText_104 rfl hl 0 rfl ?_
                refine g_get C G (pos := 192) fX8_readText_93 (by omega) hc_80 rfl dX8_readText_105 ?_
                refine g_goto (tgt := 113) C dX8_readText_108 (by decide) ?_
                refine g_iret C G hr hlk (Nat.le_of_ble_eq_true rfl) (Nat.le_of_ble_eq_true rfl) dX8_readText_113 ?_
                have hE : rtS X9 tx rl q9 = ((rpS X9 tx p9 l9 V).2.1, (rpS X9 tx p9 l9 V).2.2.1, (rpS X9 tx p9 l9 V).2.2.2) := by rw [← hR, rdS_bad (by omega) (by omega) (by rw [hF_79]; decide)]
                rw [hE]
                exact ⟨rfl, _, _, _, _, hc_80, hc_81, hi_85, fun x x1 x2 => (hf_82 x x1 x2).trans (hfr x x1 x2), fun q => absurd q (by have := hk9.1; dsimp only; omega)⟩
        have hg9 : rgS X9 tx rl q9 = (true, p_46, 0, vu (vu q9 0 z_43) 25 0) := by unfold rgS; rw [if_pos ⟨by omega, by omega⟩]; simp only [e_44]; rw [if_neg (by omega)]
        have hz9 := rgS_ok (T9 := X9) (L9 := tx) (nl := rl) (v := q9) htx hinq (by rw [hg9])
        rw [hg9] at hz9
        dsimp only at hz9
        have hsw : vu (vu q9 25 0) 0 z_43 = vu (vu q9 0 z_43) 25 0 := vu_swap (by decide)
        rw [← hsw] at hg9 hz9
        exact lp_72_n_71 _ 0 p_46 0 (vu (vu q9 25 0) 0 z_43) g_65 (Nat.lt_succ_self _) (by omega) (by omega) hz9.2.2 hc_67 hc_68 hc_69 (fun x x1 x2 => by rw [hg_66, gu_ne (by omega), hg_61, gu_ne (by omega), hg_39, gu_ne (by omega), hg_34, gu_ne (by omega), hg_29, gu_ne (by omega), hg_24, gu_ne (by omega), hg_2, gu_ne (by omega)]) (by unfold rtS; rw [hg9]; rfl) _ _ G _ (lv_sub hl [0] rfl)
    · refine g_iconst (a := 1) C dX8_readText_24 rfl ?_
      refine g_goto (tgt := 29) C dX8_readText_25 (by decide) ?_
      refine g_put C G (pos := 192) (fs' := [.ref (ad 193), .int (iz ly), .int (iz th), .ref (ad 194), .int (iz mk), .ref (ad 195), .int (iz tx), .ref (ad 196), .int (iz rl), .int (iz 0), .int (iz 1), .int (iz s0), .int (iz s1), .ref (ad 197), .int (iz rm), .ref (ad 198), .ref (ad 199)]) fwX8_readText_89 (by omega) hc_3 (Nat.le_of_ble_eq_true rfl) rfl (gnar_z (by decide)) rfl dX8_readText_29 (fun H locs G => ?_)
      obtain ⟨g_87, hg_88⟩ : ∃ g9, g9 = va_up g_1 192 (.inr (8, [.ref (ad 193), .int (iz ly), .int (iz th), .ref (ad 194), .int (iz mk), .ref (ad 195), .int (iz tx), .ref (ad 196), .int (iz rl), .int (iz 0), .int (iz 1), .int (iz s0), .int (iz s1), .ref (ad 197), .int (iz rm), .ref (ad 198), .ref (ad 199)])) := ⟨_, rfl⟩
      rw [← hg_88] at G
      have hc_89 : g_87 192 = .inr (8, [.ref (ad 193), .int (iz ly), .int (iz th), .ref (ad 194), .int (iz mk), .ref (ad 195), .int (iz tx), .ref (ad 196), .int (iz rl), .int (iz 0), .int (iz 1), .int (iz s0), .int (iz s1), .ref (ad 197), .int (iz rm), .ref (ad 198), .ref (ad 199)]) := by rw [hg_88]; exact gu_self _ _ _
      have hc_90 : g_87 195 = aI κ 100 X9 := by rw [hg_88, gu_ne (by decide)]; exact hc_4
      have hc_91 : g_87 196 = aI κ 42 q9 := by rw [hg_88, gu_ne (by decide)]; exact hc_5
      refine g_aload_n C dX8_readText_32 rfl hl 0 rfl ?_
      refine g_iconst (a := 0) C dX8_readText_33 rfl ?_
      refine g_put C G (pos := 192) (fs' := [.ref (ad 193), .int (iz ly), .int (iz th), .ref (ad 194), .int (iz mk), .ref (ad 195), .int (iz tx), .ref (ad 196), .int (iz 0), .int (iz 0), .int (iz 1), .int (iz s0), .int (iz s1), .ref (ad 197), .int (iz rm), .ref (ad 198), .ref (ad 199)]) fwX8_readText_98 (by omega) hc_89 (Nat.le_of_ble_eq_true rfl) rfl rfl rfl dX8_readText_34 (fun H locs G => ?_)
      obtain ⟨g_92, hg_93⟩ : ∃ g9, g9 = va_up g_87 192 (.inr (8, [.ref (ad 193), .int (iz ly), .int (iz th), .ref (ad 194), .int (iz mk), .ref (ad 195), .int (iz tx), .ref (ad 196), .int (iz 0), .int (iz 0), .int (iz 1), .int (iz s0), .int (iz s1), .ref (ad 197), .int (iz rm), .ref (ad 198), .ref (ad 199)])) := ⟨_, rfl⟩
      rw [← hg_93] at G
      have hc_94 : g_92 192 = .inr (8, [.ref (ad 193), .int (iz ly), .int (iz th), .ref (ad 194), .int (iz mk), .ref (ad 195), .int (iz tx), .ref (ad 196), .int (iz 0), .int (iz 0), .int (iz 1), .int (iz s0), .int (iz s1), .ref (ad 197), .int (iz rm), .ref (ad 198), .ref (ad 199)]) := by rw [hg_93]; exact gu_self _ _ _
      have hc_95 : g_92 195 = aI κ 100 X9 := by rw [hg_93, gu_ne (by decide)]; exact hc_90
      have hc_96 : g_92 196 = aI κ 42 q9 := by rw [hg_93, gu_ne (by decide)]; exact hc_91
      refine g_aload_n C dX8_readText_37 rfl hl 0 rfl ?_
      refine g_get C G (pos := 192) fX8_readText_19 (by omega) hc_94 rfl dX8_readText_38 ?_
      refine g_bipush (a := 25) C dX8_readText_41 (by decide) ?_
      refine g_iconst (a := 0) C dX8_readText_43 rfl ?_
      refine g_iastore C G (pos := 196) (by omega) hc_96 (by omega) (by omega) (by omega) dX8_readText_44 (fun H locs G => ?_)
      obtain ⟨g_97, hg_98⟩ : ∃ g9, g9 = va_up g_92 196 (aI κ 42 (vu q9 25 0)) := ⟨_, rfl⟩
      rw [← hg_98] at G
      have hc_99 : g_97 192 = .inr (8, [.ref (ad 193), .int (iz ly), .int (iz th), .ref (ad 194), .int (iz mk), .ref (ad 195), .int (iz tx), .ref (ad 196), .int (iz 0), .int (iz 0), .int (iz 1), .int (iz s0), .int (iz s1), .ref (ad 197), .int (iz rm), .ref (ad 198), .ref (ad 199)]) := by rw [hg_98, gu_ne (by decide)]; exact hc_94
      have hc_100 : g_97 195 = aI κ 100 X9 := by rw [hg_98, gu_ne (by decide)]; exact hc_95
      have hc_101 : g_97 196 = aI κ 42 (vu q9 25 0) := by rw [hg_98]; exact gu_self _ _ _
      refine g_aload_n C dX8_readText_45 rfl hl 0 rfl ?_
      refine g_get C G (pos := 192) fX8_readText_89 (by omega) hc_99 rfl dX8_readText_46 ?_
      refine g_if_ne (tgt := 72) C (by decide) dX8_readText_49 (by decide) (fun _ => ?_) (fun c9 => absurd c9 (by decide))
      refine g_aload_n C dX8_readText_72 rfl hl 0 rfl ?_
      refine g_get C G (pos := 192) fX8_readText_89 (by omega) hc_99 rfl dX8_readText_73 ?_
      refine g_if_ne (tgt := 97) C (by decide) dX8_readText_76 (by decide) (fun _ => ?_) (fun c9 => absurd c9 (by decide))
      refine g_aload_n C dX8_readText_97 rfl hl 0 rfl ?_
      refine g_get C G (pos := 192) fX8_readText_89 (by omega) hc_99 rfl dX8_readText_98 ?_
      refine g_if_eq (tgt := 111) C (by decide) dX8_readText_101 (by decide) (fun c9 => absurd c9 (by decide)) (fun _ => ?_)
      refine g_aload_n C dX8_readText_104 rfl hl 0 rfl ?_
      refine g_get C G (pos := 192) fX8_readText_93 (by omega) hc_99 rfl dX8_readText_105 ?_
      refine g_goto (tgt := 113) C dX8_readText_108 (by decide) ?_
      refine g_iret C G hr hlk (Nat.le_of_ble_eq_true rfl) (Nat.le_of_ble_eq_true rfl) dX8_readText_113 ?_
      have hE : rtS X9 tx rl q9 = (0, rl, q9) := by
        have hg9 : rgS X9 tx rl q9 = (false, 0, rl, q9) := by
          unfold rgS; exact if_neg (fun q => by omega)
        unfold rtS; rw [hg9]; rfl
      rw [hE]
      exact ⟨rfl, _, _, _, _, hc_99, hc_101, (hinq.vu (by omega)), fun x x1 x2 => by rw [hg_98, gu_ne (by omega), hg_93, gu_ne (by omega), hg_88, gu_ne (by omega), hg_2, gu_ne (by omega)], fun q => absurd q (by dsimp only; omega)⟩
theorem fwX8_errorPosition_31 : gFldW wsX8_errorPosition RX8 31 8 2 .int false := ⟨RX8, TX8, 17, tyX8, rfl, by decide, by decide +kernel, by decide +kernel, tyX8_ok, nmX8, rfl, by decide +kernel, by decide +kernel⟩
set_option maxHeartbeats 4000000 in
set_option maxRecDepth 100000 in
theorem c_X8_errorPosition (l : Launch) (κ : gKap) (B n : Nat) (ad : Nat → Nat) (g : Nat → va_E) (ly : Int) (th : Int) (mk : Int) (tx : Int) (rl : Int) (a0 : Int) (wr : Int) (s0 : Int) (s1 : Int) (rm : Int) (X9 : Int → Int) (q9 : Int → Int) (hn8 : 200 ≤ n) (hM : g 192 = oM ad ly th mk tx rl a0 wr s0 s1 rm) (hT : g 195 = aI κ 100 X9) (hRd : g 196 = aI κ 42 q9) (htx : 0 ≤ tx ∧ tx ≤ 100) (hinq : inV q9) (hTx : ∀ i, 0 ≤ i → i < 100 → 0 ≤ X9 i ∧ X9 i ≤ 255) : Met l yX8_errorPosition wsX8_errorPosition ({ frames := 4, cells := 0, slots := 0, locals := 95 }) (gPre κ B n ad g [.ref (ad 192)]) (gQi κ B n ad (fun z g' => z = (rtS X9 tx rl q9).1 ∧ ∃ l8 p8 w8 q8, g' 192 = oM ad ly 0 mk tx l8 p8 w8 s0 s1 rm ∧ g' 196 = aI κ 42 q8 ∧ inV q8 ∧ (∀ x, x ≠ 192 → x ≠ 196 → g' x = g x))) 0 0 (gFree B) := by
  refine g_met RX8 (cc := cX8_errorPosition) (maxL := 1) (ret := (some .int)) (by decide) rfl rfl (Nat.le_of_ble_eq_true rfl) ?_
  intro p e s m args below meth c C hr hlk hnm G ls hl
  have hl : lv_has ls 1 [(0, .ref (ad 192))] := hl
  refine g_aload_n C dX8_errorPosition_0 rfl hl 0 rfl ?_
  refine g_iconst (a := 0) C dX8_errorPosition_1 rfl ?_
  refine g_put C G (pos := 192) (fs' := [.ref (ad 193), .int (iz ly), .int (iz 0), .ref (ad 194), .int (iz mk), .ref (ad 195), .int (iz tx), .ref (ad 196), .int (iz rl), .int (iz a0), .int (iz wr), .int (iz s0), .int (iz s1), .ref (ad 197), .int (iz rm), .ref (ad 198), .ref (ad 199)]) fwX8_errorPosition_31 (by omega) hM (Nat.le_of_ble_eq_true rfl) rfl rfl rfl dX8_errorPosition_2 (fun H locs G => ?_)
  obtain ⟨g_1, hg_2⟩ : ∃ g9, g9 = va_up g 192 (.inr (8, [.ref (ad 193), .int (iz ly), .int (iz 0), .ref (ad 194), .int (iz mk), .ref (ad 195), .int (iz tx), .ref (ad 196), .int (iz rl), .int (iz a0), .int (iz wr), .int (iz s0), .int (iz s1), .ref (ad 197), .int (iz rm), .ref (ad 198), .ref (ad 199)])) := ⟨_, rfl⟩
  rw [← hg_2] at G
  have hc_3 : g_1 192 = .inr (8, [.ref (ad 193), .int (iz ly), .int (iz 0), .ref (ad 194), .int (iz mk), .ref (ad 195), .int (iz tx), .ref (ad 196), .int (iz rl), .int (iz a0), .int (iz wr), .int (iz s0), .int (iz s1), .ref (ad 197), .int (iz rm), .ref (ad 198), .ref (ad 199)]) := by rw [hg_2]; exact gu_self _ _ _
  have hc_4 : g_1 195 = aI κ 100 X9 := by rw [hg_2, gu_ne (by decide)]; exact hT
  have hc_5 : g_1 196 = aI κ 42 q9 := by rw [hg_2, gu_ne (by decide)]; exact hRd
  refine g_aload_n C dX8_errorPosition_5 rfl hl 0 rfl ?_
  refine g_ci C G (g_runV (As := []) (rest := []) (pos := 192) C G (c_X8_readText l κ B n ad g_1 ly 0 mk tx rl a0 wr s0 s1 rm X9 q9 hn8 hc_3 hc_4 hc_5 htx hinq hTx) (cwV 0 C.1.2.2.2.2 gX8_errorPosition_X8_readText rfl rfl rfl (by decide +kernel) ⟨Nat.le_of_ble_eq_true rfl, Nat.le_of_ble_eq_true rfl⟩) (by omega) hc_3 (T := TX8) (N := 17) rfl rfl hl rfl (Nat.le_of_ble_eq_true rfl) dX8_errorPosition_6 ⟨Nat.le_of_ble_eq_true rfl, Nat.le_of_ble_eq_true rfl⟩) (fun z_6 g_7 H locs hw9 G => ?_)
  obtain ⟨h_8, l_14, p_15, w_16, q_17, hc_9, hc_10, hi_11, hf_12, hs_13⟩ := hw9
  have hc_18 : g_7 195 = aI κ 100 X9 := (hf_12 _ (by decide) (by decide)).trans hc_4
  have hrg9 := rtS_rg (T9 := X9) (L9 := tx) (nl := rl) (v := q9) htx hinq
  rw [← h_8] at hrg9
  refine g_iret C G hr hlk (Nat.le_of_ble_eq_true rfl) (Nat.le_of_ble_eq_true rfl) dX8_errorPosition_9 ?_
  exact ⟨h_8, _, _, _, _, hc_9, hc_10, hi_11, fun x x1 x2 => by refine (hf_12 x x1 x2).trans ?_; rw [hg_2, gu_ne (by omega)]⟩
theorem fwX8_load_31 : gFldW wsX8_load RX8 31 8 2 .int false := ⟨RX8, TX8, 17, tyX8, rfl, by decide, by decide +kernel, by decide +kernel, tyX8_ok, nmX8, rfl, by decide +kernel, by decide +kernel⟩
theorem fX8_load_98 : gFld wsX8_load RX8 98 8 8 := ⟨RX8, TX8, 17, rfl, by decide, by decide +kernel, by decide +kernel⟩
theorem fwX8_load_35 : gFldW wsX8_load RX8 35 8 1 .int false := ⟨RX8, TX8, 17, tyX8, rfl, by decide, by decide +kernel, by decide +kernel, tyX8_ok, nmX8, rfl, by decide +kernel, by decide +kernel⟩
theorem fwX8_load_111 : gFldW wsX8_load RX8 111 8 14 .int false := ⟨RX8, TX8, 17, tyX8, rfl, by decide, by decide +kernel, by decide +kernel, tyX8_ok, nmX8, rfl, by decide +kernel, by decide +kernel⟩
theorem fwX8_load_114 : gFldW wsX8_load RX8 114 8 11 .boolean false := ⟨RX8, TX8, 17, tyX8, rfl, by decide, by decide +kernel, by decide +kernel, tyX8_ok, nmX8, rfl, by decide +kernel, by decide +kernel⟩
theorem fwX8_load_117 : gFldW wsX8_load RX8 117 8 12 .boolean false := ⟨RX8, TX8, 17, tyX8, rfl, by decide, by decide +kernel, by decide +kernel, tyX8_ok, nmX8, rfl, by decide +kernel, by decide +kernel⟩
theorem fX8_load_35 : gFld wsX8_load RX8 35 8 1 := ⟨RX8, TX8, 17, rfl, by decide, by decide +kernel, by decide +kernel⟩
theorem fX8_load_7 : gFld wsX8_load RX8 7 8 0 := ⟨RX8, TX8, 17, rfl, by decide, by decide +kernel, by decide +kernel⟩
theorem fX8_load_19 : gFld wsX8_load RX8 19 8 7 := ⟨RX8, TX8, 17, rfl, by decide, by decide +kernel, by decide +kernel⟩
set_option maxHeartbeats 4000000 in
set_option maxRecDepth 100000 in
theorem c_X8_load (l : Launch) (κ : gKap) (B n : Nat) (ad : Nat → Nat) (g : Nat → va_E) (ly : Int) (th : Int) (mk : Int) (tx : Int) (rl : Int) (a0 : Int) (wr : Int) (s0 : Int) (s1 : Int) (rm : Int) (f : Int → Int) (X9 : Int → Int) (q9 : Int → Int) (hn8 : 200 ≤ n) (hM : g 192 = oM ad ly th mk tx rl a0 wr s0 s1 rm) (hN : g 193 = aI κ 42 f) (hT : g 195 = aI κ 100 X9) (hRd : g 196 = aI κ 42 q9) (htx : 0 ≤ tx ∧ tx ≤ 100) (hinq : inV q9) (hTx : ∀ i, 0 ≤ i → i < 100 → 0 ≤ X9 i ∧ X9 i ≤ 255) : Met l yX8_load wsX8_load ({ frames := 4, cells := 0, slots := 0, locals := 95 }) (gPre κ B n ad g [.ref (ad 192)]) (gQi κ B n ad (fun z g' => (¬ (rtS X9 tx rl q9).1 = -9 ∧ z = 0 ∧ ∃ l8 p8 w8 q8, g' 192 = oM ad ly 1 mk tx l8 p8 w8 s0 s1 rm ∧ g' 196 = aI κ 42 q8 ∧ g' 193 = aI κ 42 f ∧ inV q8 ∧ ∀ x, x ≠ 192 → x ≠ 196 → x ≠ 193 → g' x = g x) ∨ ((rtS X9 tx rl q9).1 = -9 ∧ z = (rtS X9 tx rl q9).2.1 ∧ ∃ p8 w8 q8, g' 192 = oM ad ((rtS X9 tx rl q9).2.1) 0 mk tx ((rtS X9 tx rl q9).2.1) p8 w8 0 0 0 ∧ g' 196 = aI κ 42 q8 ∧ g' 193 = aI κ 42 (brF (rtS X9 tx rl q9).2.2 (-1) f) ∧ inV q8 ∧ ∀ x, x ≠ 192 → x ≠ 196 → x ≠ 193 → g' x = g x))) 0 0 (gFree B) := by
  refine g_met RX8 (cc := cX8_load) (maxL := 2) (ret := (some .int)) (by decide) rfl rfl (Nat.le_of_ble_eq_true rfl) ?_
  intro p e s m args below meth c C hr hlk hnm G ls hl
  have hl : lv_has ls 2 [(0, .ref (ad 192))] := hl
  refine g_aload_n C dX8_load_0 rfl hl 0 rfl ?_
  refine g_iconst (a := 0) C dX8_load_1 rfl ?_
  refine g_put C G (pos := 192) (fs' := [.ref (ad 193), .int (iz ly), .int (iz 0), .ref (ad 194), .int (iz mk), .ref (ad 195), .int (iz tx), .ref (ad 196), .int (iz rl), .int (iz a0), .int (iz wr), .int (iz s0), .int (iz s1), .ref (ad 197), .int (iz rm), .ref (ad 198), .ref (ad 199)]) fwX8_load_31 (by omega) hM (Nat.le_of_ble_eq_true rfl) rfl rfl rfl dX8_load_2 (fun H locs G => ?_)
  obtain ⟨g_1, hg_2⟩ : ∃ g9, g9 = va_up g 192 (.inr (8, [.ref (ad 193), .int (iz ly), .int (iz 0), .ref (ad 194), .int (iz mk), .ref (ad 195), .int (iz tx), .ref (ad 196), .int (iz rl), .int (iz a0), .int (iz wr), .int (iz s0), .int (iz s1), .ref (ad 197), .int (iz rm), .ref (ad 198), .ref (ad 199)])) := ⟨_, rfl⟩
  rw [← hg_2] at G
  have hc_3 : g_1 192 = .inr (8, [.ref (ad 193), .int (iz ly), .int (iz 0), .ref (ad 194), .int (iz mk), .ref (ad 195), .int (iz tx), .ref (ad 196), .int (iz rl), .int (iz a0), .int (iz wr), .int (iz s0), .int (iz s1), .ref (ad 197), .int (iz rm), .ref (ad 198), .ref (ad 199)]) := by rw [hg_2]; exact gu_self _ _ _
  have hc_4 : g_1 193 = aI κ 42 f := by rw [hg_2, gu_ne (by decide)]; exact hN
  have hc_5 : g_1 195 = aI κ 100 X9 := by rw [hg_2, gu_ne (by decide)]; exact hT
  have hc_6 : g_1 196 = aI κ 42 q9 := by rw [hg_2, gu_ne (by decide)]; exact hRd
  refine g_aload_n C dX8_load_5 rfl hl 0 rfl ?_
  refine g_ci C G (g_runV (As := []) (rest := []) (pos := 192) C G (c_X8_readText l κ B n ad g_1 ly 0 mk tx rl a0 wr s0 s1 rm X9 q9 hn8 hc_3 hc_5 hc_6 htx hinq hTx) (cwV 0 C.1.2.2.2.2 gX8_load_X8_readText rfl rfl rfl (by decide +kernel) ⟨Nat.le_of_ble_eq_true rfl, Nat.le_of_ble_eq_true rfl⟩) (by omega) hc_3 (T := TX8) (N := 17) rfl rfl hl rfl (Nat.le_of_ble_eq_true rfl) dX8_load_6 ⟨Nat.le_of_ble_eq_true rfl, Nat.le_of_ble_eq_true rfl⟩) (fun z_7 g_8 H locs hw9 G => ?_)
  obtain ⟨h_9, l_15, p_16, w_17, q_18, hc_10, hc_11, hi_12, hf_13, hs_14⟩ := hw9
  have hc_19 : g_8 193 = aI κ 42 f := (hf_13 _ (by decide) (by decide)).trans hc_4
  have hc_20 : g_8 195 = aI κ 100 X9 := (hf_13 _ (by decide) (by decide)).trans hc_5
  have hrg9 := rtS_rg (T9 := X9) (L9 := tx) (nl := rl) (v := q9) htx hinq
  rw [← h_9] at hrg9
  refine g_bipush (a := (-9)) C dX8_load_9 (by decide) ?_
  refine g_icmp_eq (tgt := 20) C (by omega) (by omega) dX8_load_11 (by decide) (fun c_21 => ?_) (fun c_21 => ?_)
  · have hfL_22 : ∀ x, x ≠ 192 → x ≠ 196 → g_8 x = g x := fun x x1 x2 => by refine (hf_13 x x1 x2).trans ?_; rw [hg_2, gu_ne (by omega)]
    refine g_iconst (a := 0) C dX8_load_20 rfl ?_
    refine lv_istore_n (lv' := [(1, .int (iz 0)), (0, .ref (ad 192))]) C.1.1 C.1.2.1 dX8_load_21 rfl hl (by decide) rfl (fun ls hl => ?_)
    have lp_22_n_24 : ∀ (k_23 : Nat) (k : Int) (V : Int → Int) (gv : Nat → va_E), (42 - k).toNat < k_23 → (0 ≤ k ∧ k ≤ 42) → (gv = va_up g_8 193 (aI κ 42 V)) → (∀ i, V i = if 0 ≤ i ∧ i < k then q_18 (-1 + 1 + i) else f i) → ∀ (H : Heap) (locs : List Loc), gG κ B n ad s gv H locs → ∀ (ls : Array Slot), lv_has ls 2 [(0, .ref (ad 192)), (1, .int (iz k))] → W p l e ({ frames := 4, cells := 0, slots := 0, locals := 95 }) s m args below meth c H locs 0 0 (MQ below (gQi κ B n ad (fun z g' => (¬ (rtS X9 tx rl q9).1 = -9 ∧ z = 0 ∧ ∃ l8 p8 w8 q8, g' 192 = oM ad ly 1 mk tx l8 p8 w8 s0 s1 rm ∧ g' 196 = aI κ 42 q8 ∧ g' 193 = aI κ 42 f ∧ inV q8 ∧ ∀ x, x ≠ 192 → x ≠ 196 → x ≠ 193 → g' x = g x) ∨ ((rtS X9 tx rl q9).1 = -9 ∧ z = (rtS X9 tx rl q9).2.1 ∧ ∃ p8 w8 q8, g' 192 = oM ad ((rtS X9 tx rl q9).2.1) 0 mk tx ((rtS X9 tx rl q9).2.1) p8 w8 0 0 0 ∧ g' 196 = aI κ 42 q8 ∧ g' 193 = aI κ 42 (brF (rtS X9 tx rl q9).2.2 (-1) f) ∧ inV q8 ∧ ∀ x, x ≠ 192 → x ≠ 196 → x ≠ 193 → g' x = g x))) args s 0 0 (gFree B)) (F0 m 22 ls []) := by
      intro k_23
      induction k_23 with
      | zero => intro k V gv hm; exact absurd hm (Nat.not_lt_zero _)
      | succ k_23 ih_lp_22_n_24 =>
        intro k V gv hm hk hgv hV H locs G ls hl
        have hm9 : gv 192 = .inr (8, [.ref (ad 193), .int (iz ly), .int (iz 0), .ref (ad 194), .int (iz mk), .ref (ad 195), .int (iz tx), .ref (ad 196), .int (iz l_15), .int (iz p_16), .int (iz w_17), .int (iz s0), .int (iz s1), .ref (ad 197), .int (iz rm), .ref (ad 198), .ref (ad 199)]) := by rw [hgv, gu_ne (by decide)]; exact hc_10
        have hr9 : gv 196 = aI κ 42 q_18 := by rw [hgv, gu_ne (by decide)]; exact hc_11
        have hn9 : gv 193 = aI κ 42 V := by rw [hgv]; exact gu_self _ _ _
        refine g_iload_n C dX8_load_22 rfl hl 1 rfl ?_
        refine g_bipush (a := 42) C dX8_load_23 (by decide) ?_
        refine g_icmp_ge (tgt := 46) C (by omega) (by decide) dX8_load_25 (by decide) (fun c_25 => ?_) (fun c_25 => ?_)
        · refine g_aload_n C dX8_load_46 rfl hl 0 rfl ?_
          refine g_aload_n C dX8_load_47 rfl hl 0 rfl ?_
          refine g_get C G (pos := 192) fX8_load_98 (by omega) hm9 rfl dX8_load_48 ?_
          refine g_put C G (pos := 192) (fs' := [.ref (ad 193), .int (iz l_15), .int (iz 0), .ref (ad 194), .int (iz mk), .ref (ad 195), .int (iz tx), .ref (ad 196), .int (iz l_15), .int (iz p_16), .int (iz w_17), .int (iz s0), .int (iz s1), .ref (ad 197), .int (iz rm), .ref (ad 198), .ref (ad 199)]) fwX8_load_35 (by omega) hm9 (Nat.le_of_ble_eq_true rfl) rfl rfl rfl dX8_load_51 (fun H locs G => ?_)
          obtain ⟨g_26, hg_27⟩ : ∃ g9, g9 = va_up gv 192 (.inr (8, [.ref (ad 193), .int (iz l_15), .int (iz 0), .ref (ad 194), .int (iz mk), .ref (ad 195), .int (iz tx), .ref (ad 196), .int (iz l_15), .int (iz p_16), .int (iz w_17), .int (iz s0), .int (iz s1), .ref (ad 197), .int (iz rm), .ref (ad 198), .ref (ad 199)])) := ⟨_, rfl⟩
          rw [← hg_27] at G
          have hc_28 : g_26 192 = .inr (8, [.ref (ad 193), .int (iz l_15), .int (iz 0), .ref (ad 194), .int (iz mk), .ref (ad 195), .int (iz tx), .ref (ad 196), .int (iz l_15), .int (iz p_16), .int (iz w_17), .int (iz s0), .int (iz s1), .ref (ad 197), .int (iz rm), .ref (ad 198), .ref (ad 199)]) := by rw [hg_27]; exact gu_self _ _ _
          have hc_29 : g_26 196 = aI κ 42 q_18 := by rw [hg_27, gu_ne (by decide)]; exact hr9
          have hc_30 : g_26 193 = aI κ 42 V := by rw [hg_27, gu_ne (by decide)]; exact hn9
          refine g_aload_n C dX8_load_54 rfl hl 0 rfl ?_
          refine g_iconst (a := 0) C dX8_load_55 rfl ?_
          refine g_put C G (pos := 192) (fs' := [.ref (ad 193), .int (iz l_15), .int (iz 0), .ref (ad 194), .int (iz mk), .ref (ad 195), .int (iz tx), .ref (ad 196), .int (iz l_15), .int (iz p_16), .int (iz w_17), .int (iz s0), .int (iz s1), .ref (ad 197), .int (iz 0), .ref (ad 198), .ref (ad 199)]) fwX8_load_111 (by omega) hc_28 (Nat.le_of_ble_eq_true rfl) rfl rfl rfl dX8_load_56 (fun H locs G => ?_)
          obtain ⟨g_31, hg_32⟩ : ∃ g9, g9 = va_up g_26 192 (.inr (8, [.ref (ad 193), .int (iz l_15), .int (iz 0), .ref (ad 194), .int (iz mk), .ref (ad 195), .int (iz tx), .ref (ad 196), .int (iz l_15), .int (iz p_16), .int (iz w_17), .int (iz s0), .int (iz s1), .ref (ad 197), .int (iz 0), .ref (ad 198), .ref (ad 199)])) := ⟨_, rfl⟩
          rw [← hg_32] at G
          have hc_33 : g_31 192 = .inr (8, [.ref (ad 193), .int (iz l_15), .int (iz 0), .ref (ad 194), .int (iz mk), .ref (ad 195), .int (iz tx), .ref (ad 196), .int (iz l_15), .int (iz p_16), .int (iz w_17), .int (iz s0), .int (iz s1), .ref (ad 197), .int (iz 0), .ref (ad 198), .ref (ad 199)]) := by rw [hg_32]; exact gu_self _ _ _
          have hc_34 : g_31 196 = aI κ 42 q_18 := by rw [hg_32, gu_ne (by decide)]; exact hc_29
          have hc_35 : g_31 193 = aI κ 42 V := by rw [hg_32, gu_ne (by decide)]; exact hc_30
          refine g_aload_n C dX8_load_59 rfl hl 0 rfl ?_
          refine g_iconst (a := 0) C dX8_load_60 rfl ?_
          refine g_put C G (pos := 192) (fs' := [.ref (ad 193), .int (iz l_15), .int (iz 0), .ref (ad 194), .int (iz mk), .ref (ad 195), .int (iz tx), .ref (ad 196), .int (iz l_15), .int (iz p_16), .int (iz w_17), .int (iz 0), .int (iz s1), .ref (ad 197), .int (iz 0), .ref (ad 198), .ref (ad 199)]) fwX8_load_114 (by omega) hc_33 (Nat.le_of_ble_eq_true rfl) rfl (gnar_z (by decide)) rfl dX8_load_61 (fun H locs G => ?_)
          obtain ⟨g_36, hg_37⟩ : ∃ g9, g9 = va_up g_31 192 (.inr (8, [.ref (ad 193), .int (iz l_15), .int (iz 0), .ref (ad 194), .int (iz mk), .ref (ad 195), .int (iz tx), .ref (ad 196), .int (iz l_15), .int (iz p_16), .int (iz w_17), .int (iz 0), .int (iz s1), .ref (ad 197), .int (iz 0), .ref (ad 198), .ref (ad 199)])) := ⟨_, rfl⟩
          rw [← hg_37] at G
          have hc_38 : g_36 192 = .inr (8, [.ref (ad 193), .int (iz l_15), .int (iz 0), .ref (ad 194), .int (iz mk), .ref (ad 195), .int (iz tx), .ref (ad 196), .int (iz l_15), .int (iz p_16), .int (iz w_17), .int (iz 0), .int (iz s1), .ref (ad 197), .int (iz 0), .ref (ad 198), .ref (ad 199)]) := by rw [hg_37]; exact gu_self _ _ _
          have hc_39 : g_36 196 = aI κ 42 q_18 := by rw [hg_37, gu_ne (by decide)]; exact hc_34
          have hc_40 : g_36 193 = aI κ 42 V := by rw [hg_37, gu_ne (by decide)]; exact hc_35
          refine g_aload_n C dX8_load_64 rfl hl 0 rfl ?_
          refine g_iconst (a := 0) C dX8_load_65 rfl ?_
          refine g_put C G (pos := 192) (fs' := [.ref (ad 193), .int (iz l_15), .int (iz 0), .ref (ad 194), .int (iz mk), .ref (ad 195), .int (iz tx), .ref (ad 196), .int (iz l_15), .int (iz p_16), .int (iz w_17), .int (iz 0), .int (iz 0), .ref (ad 197), .int (iz 0), .ref (ad 198), .ref (ad 199)]) fwX8_load_117 (by omega) hc_38 (Nat.le_of_ble_eq_true rfl) rfl (gnar_z (by decide)) rfl dX8_load_66 (fun H locs G => ?_)
          obtain ⟨g_41, hg_42⟩ : ∃ g9, g9 = va_up g_36 192 (.inr (8, [.ref (ad 193), .int (iz l_15), .int (iz 0), .ref (ad 194), .int (iz mk), .ref (ad 195), .int (iz tx), .ref (ad 196), .int (iz l_15), .int (iz p_16), .int (iz w_17), .int (iz 0), .int (iz 0), .ref (ad 197), .int (iz 0), .ref (ad 198), .ref (ad 199)])) := ⟨_, rfl⟩
          rw [← hg_42] at G
          have hc_43 : g_41 192 = .inr (8, [.ref (ad 193), .int (iz l_15), .int (iz 0), .ref (ad 194), .int (iz mk), .ref (ad 195), .int (iz tx), .ref (ad 196), .int (iz l_15), .int (iz p_16), .int (iz w_17), .int (iz 0), .int (iz 0), .ref (ad 197), .int (iz 0), .ref (ad 198), .ref (ad 199)]) := by rw [hg_42]; exact gu_self _ _ _
          have hc_44 : g_41 196 = aI κ 42 q_18 := by rw [hg_42, gu_ne (by decide)]; exact hc_39
          have hc_45 : g_41 193 = aI κ 42 V := by rw [hg_42, gu_ne (by decide)]; exact hc_40
          refine g_aload_n C dX8_load_69 rfl hl 0 rfl ?_
          refine g_get C G (pos := 192) fX8_load_35 (by omega) hc_43 rfl dX8_load_70 ?_
          refine g_iret C G hr hlk (Nat.le_of_ble_eq_true rfl) (Nat.le_of_ble_eq_true rfl) dX8_load_73 ?_
          have hq9 : (rtS X9 tx rl q9).1 = -9 := by omega
          obtain ⟨hs1, hs2⟩ := hs_14 hq9
          have hVe : V = brF q_18 (-1) f := br_end (by omega) hV
          exact Or.inr ⟨hq9, hs1, _, _, _, (by rw [← hs1]; exact hc_43), hc_44, by rw [hc_45, hVe, hs2], hi_12, fun x x1 x2 x3 => by rw [hg_42, gu_ne (by omega)]; rw [hg_37, gu_ne (by omega)]; rw [hg_32, gu_ne (by omega)]; rw [hg_27, gu_ne (by omega)]; rw [hgv, gu_ne (by omega)]; exact hfL_22 x x1 x2⟩
        · refine g_aload_n C dX8_load_28 rfl hl 0 rfl ?_
          refine g_get C G (pos := 192) fX8_load_7 (by omega) hm9 rfl dX8_load_29 ?_
          refine g_iload_n C dX8_load_32 rfl hl 1 rfl ?_
          refine g_aload_n C dX8_load_33 rfl hl 0 rfl ?_
          refine g_get C G (pos := 192) fX8_load_19 (by omega) hm9 rfl dX8_load_34 ?_
          refine g_iload_n C dX8_load_37 rfl hl 1 rfl ?_
          refine g_iaload C G (pos := 196) (by omega) hr9 (by omega) (by omega) (by omega) dX8_load_38 ?_
          refine g_iastore C G (pos := 193) (by omega) hn9 (by omega) (by omega) (by omega) dX8_load_39 (fun H locs G => ?_)
          obtain ⟨g_46, hg_47⟩ : ∃ g9, g9 = va_up gv 193 (aI κ 42 (vu V k (q_18 k))) := ⟨_, rfl⟩
          rw [← hg_47] at G
          have hc_48 : g_46 192 = .inr (8, [.ref (ad 193), .int (iz ly), .int (iz 0), .ref (ad 194), .int (iz mk), .ref (ad 195), .int (iz tx), .ref (ad 196), .int (iz l_15), .int (iz p_16), .int (iz w_17), .int (iz s0), .int (iz s1), .ref (ad 197), .int (iz rm), .ref (ad 198), .ref (ad 199)]) := by rw [hg_47, gu_ne (by decide)]; exact hm9
          have hc_49 : g_46 196 = aI κ 42 q_18 := by rw [hg_47, gu_ne (by decide)]; exact hr9
          have hc_50 : g_46 193 = aI κ 42 (vu V k (q_18 k)) := by rw [hg_47]; exact gu_self _ _ _
          refine lv_iinc (v := iz (k + 1)) (lv' := [(1, .int (iz (k + 1))), (0, .ref (ad 192))]) C.1.1 C.1.2.1 dX8_load_40 hl (k := 1) rfl (g_inc (by omega)) (by decide) rfl (fun ls hl => ?_)
          refine g_goto (tgt := 22) C dX8_load_43 (by decide) ?_
          exact ih_lp_22_n_24 (k + 1) (vu V k (q_18 k)) g_46 (by omega) (by omega) (by rw [hg_47, hgv, gu_up]) (ld_step hk.1 hV) _ _ G _ (lv_sub hl [1, 0] rfl)
    exact lp_22_n_24 _ 0 f g_8 (Nat.lt_succ_self _) (by omega) (by funext x; by_cases hx : x = 193 <;> simp [va_up, hx, hc_19]) (fun i => by rw [if_neg (by omega)]) _ _ G _ (lv_sub hl [1, 0] rfl)
  · refine g_aload_n C dX8_load_14 rfl hl 0 rfl ?_
    refine g_iconst (a := 1) C dX8_load_15 rfl ?_
    refine g_ci C G (g_runV (As := [.int (iz 1)]) (rest := []) (pos := 192) C G (c_X8_refused l κ B n ad g_8 ly 0 mk tx l_15 p_16 w_17 s0 s1 rm 1 hn8 hc_10) (cwV 1 C.1.2.2.2.2 gX8_load_X8_refused rfl rfl rfl (by decide +kernel) ⟨Nat.le_of_ble_eq_true rfl, Nat.le_of_ble_eq_true rfl⟩) (by omega) hc_10 (T := TX8) (N := 17) rfl rfl hl rfl (Nat.le_of_ble_eq_true rfl) dX8_load_16 ⟨Nat.le_of_ble_eq_true rfl, Nat.le_of_ble_eq_true rfl⟩) (fun z_51 g9 H locs hw G => ?_)
    obtain ⟨hw, h_52⟩ := hw
    subst hw
    obtain ⟨g_53, hg_54⟩ : ∃ g9, g9 = va_up g_8 192 (.inr (8, [.ref (ad 193), .int (iz ly), .int (iz 1), .ref (ad 194), .int (iz mk), .ref (ad 195), .int (iz tx), .ref (ad 196), .int (iz l_15), .int (iz p_16), .int (iz w_17), .int (iz s0), .int (iz s1), .ref (ad 197), .int (iz rm), .ref (ad 198), .ref (ad 199)])) := ⟨_, rfl⟩
    rw [← hg_54] at G
    have hc_55 : g_53 193 = aI κ 42 f := by rw [hg_54, gu_ne (by decide)]; exact hc_19
    have hc_56 : g_53 195 = aI κ 100 X9 := by rw [hg_54, gu_ne (by decide)]; exact hc_20
    have hc_57 : g_53 192 = .inr (8, [.ref (ad 193), .int (iz ly), .int (iz 1), .ref (ad 194), .int (iz mk), .ref (ad 195), .int (iz tx), .ref (ad 196), .int (iz l_15), .int (iz p_16), .int (iz w_17), .int (iz s0), .int (iz s1), .ref (ad 197), .int (iz rm), .ref (ad 198), .ref (ad 199)]) := by rw [hg_54]; exact gu_self _ _ _
    have hc_58 : g_53 196 = aI κ 42 q_18 := by rw [hg_54, gu_ne (by decide)]; exact hc_11
    refine g_iret C G hr hlk (Nat.le_of_ble_eq_true rfl) (Nat.le_of_ble_eq_true rfl) dX8_load_19 ?_
    exact Or.inl ⟨fun q => by omega, by omega, _, _, _, _, hc_57, hc_58, hc_55, hi_12, fun x x1 x2 x3 => by rw [hg_54, gu_ne (by omega)]; refine (hf_13 x x1 x2).trans ?_; rw [hg_2, gu_ne (by omega)]⟩
