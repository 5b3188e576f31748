/-! ROSETTEPLATEMODEL (X8): acts -/
theorem see_step {V f : Int → Int} {k : Int} (hk : 28 ≤ k) (h : ∀ i, V i = if 26 ≤ i ∧ i < k - 2 then f (i + 2) else f i) : ∀ i, vu V (k - 2) (V k) i = if 26 ≤ i ∧ i < k + 1 - 2 then f (i + 2) else f i := by
  intro i
  by_cases hi : i = k - 2
  · rw [hi, vu_self, h k, if_neg (by omega), if_pos (by omega), show k - 2 + 2 = k by omega]
  · rw [vu_ne hi, h i]
    by_cases h2 : 26 ≤ i ∧ i < k - 2
    · rw [if_pos h2, if_pos (by omega)]
    · rw [if_neg h2, if_neg (by omega)]
theorem see_end {V f : Int → Int} {k : Int} (hk : k = 42) (h : ∀ i, V i = if 26 ≤ i ∧ i < k - 2 then f (i + 2) else f i) : V = shv f := by
  subst hk
  funext i
  rw [h i]
  unfold shv
  by_cases h2 : 26 ≤ i ∧ i ≤ 39
  · rw [if_pos h2, if_pos (by omega)]
  · rw [if_neg h2, if_neg (by omega)]
theorem fwX8_setRing_31 : gFldW wsX8_setRing RX8 31 8 2 .int false := ⟨RX8, TX8, 17, tyX8, rfl, by decide, by decide +kernel, by decide +kernel, tyX8_ok, nmX8, rfl, by decide +kernel, by decide +kernel⟩
set_option maxHeartbeats 4000000 in
set_option maxRecDepth 100000 in
theorem c_X8_setRing (l : Launch) (κ : gKap) (B n : Nat) (ad : Nat → Nat) (g : Nat → va_E) (ly : Int) (th : Int) (mk : Int) (tx : Int) (rl : Int) (a0 : Int) (wr : Int) (s0 : Int) (s1 : Int) (rm : Int) (f : Int → Int) (M9 : Int → Int) (X9 : Int → Int) (q9 : Int → Int) (pa : Int → Int) (be : Int → Int) (sv : Int → Int) (te : Int) (hn8 : 200 ≤ n) (hM : g 192 = oM ad ly th mk tx rl a0 wr s0 s1 rm) (hN : g 193 = aI κ 42 f) (hK : g 194 = aI κ 28896 M9) (hT : g 195 = aI κ 100 X9) (hRd : g 196 = aI κ 42 q9) (hPa : g 197 = aI κ 602 pa) (hBe : g 198 = aI κ 43 be) (hSv : g 199 = aI κ 86 sv) (hok : okPl ly f) (hmk : 0 ≤ mk ∧ mk ≤ 800000000) (hMr : ∀ i, 0 ≤ i → i < 28896 → 0 ≤ M9 i ∧ M9 i ≤ mk) (hinq : inV q9) (hrm : 0 ≤ rm ∧ rm ≤ 14) (hte : inI te) : Met l yX8_setRing wsX8_setRing ({ frames := 2, cells := 0, slots := 0, locals := 45 }) (gPre κ B n ad g [.ref (ad 192), .int (iz te)]) (gQi κ B n ad (fun z g' => (((¬ (12 ≤ te ∧ te ≤ 96)) ∧ jkM κ ad g' ly 1 tx s0 s1 rm (mk + 1000) f X9 pa sv) ∨ (((12 ≤ te ∧ te ≤ 96) ∧ z = f 0) ∧ jkM κ ad g' ly 0 tx s0 s1 (remC rm) (mk + 1000) (tk2 ly f te (f 25)) X9 (rmF pa rm ly f) sv)) ∧ frM g g')) 0 0 (gFree B) := by
  refine g_met RX8 (cc := cX8_setRing) (maxL := 2) (ret := (some .int)) (by decide) rfl rfl (Nat.le_of_ble_eq_true rfl) ?_
  intro p e s m args below meth c C hr hlk hnm G ls hl
  have hl : lv_has ls 2 [(0, .ref (ad 192)), (1, .int (iz te))] := hl
  obtain ⟨hn6, hv0, hv25, hlay, hsee⟩ := id hok
  refine g_aload_n C dX8_setRing_0 rfl hl 0 rfl ?_
  refine g_iconst (a := 0) C dX8_setRing_1 rfl ?_
  refine g_put C G (pos := 192) (fs' := [.ref (ad 193), .int (iz ly), .int (iz 0), .ref (ad 194), .int (iz mk), .ref (ad 195), .int (iz tx), .ref (ad 196), .int (iz rl), .int (iz a0), .int (iz wr), .int (iz s0), .int (iz s1), .ref (ad 197), .int (iz rm), .ref (ad 198), .ref (ad 199)]) fwX8_setRing_31 (by omega) hM (Nat.le_of_ble_eq_true rfl) rfl rfl rfl dX8_setRing_2 (fun H locs G => ?_)
  obtain ⟨g_1, hg_2⟩ : ∃ g9, g9 = va_up g 192 (.inr (8, [.ref (ad 193), .int (iz ly), .int (iz 0), .ref (ad 194), .int (iz mk), .ref (ad 195), .int (iz tx), .ref (ad 196), .int (iz rl), .int (iz a0), .int (iz wr), .int (iz s0), .int (iz s1), .ref (ad 197), .int (iz rm), .ref (ad 198), .ref (ad 199)])) := ⟨_, rfl⟩
  rw [← hg_2] at G
  have hc_3 : g_1 192 = .inr (8, [.ref (ad 193), .int (iz ly), .int (iz 0), .ref (ad 194), .int (iz mk), .ref (ad 195), .int (iz tx), .ref (ad 196), .int (iz rl), .int (iz a0), .int (iz wr), .int (iz s0), .int (iz s1), .ref (ad 197), .int (iz rm), .ref (ad 198), .ref (ad 199)]) := by rw [hg_2]; exact gu_self _ _ _
  have hc_4 : g_1 193 = aI κ 42 f := by rw [hg_2, gu_ne (by decide)]; exact hN
  have hc_5 : g_1 194 = aI κ 28896 M9 := by rw [hg_2, gu_ne (by decide)]; exact hK
  have hc_6 : g_1 195 = aI κ 100 X9 := by rw [hg_2, gu_ne (by decide)]; exact hT
  have hc_7 : g_1 196 = aI κ 42 q9 := by rw [hg_2, gu_ne (by decide)]; exact hRd
  have hc_8 : g_1 197 = aI κ 602 pa := by rw [hg_2, gu_ne (by decide)]; exact hPa
  have hc_9 : g_1 198 = aI κ 43 be := by rw [hg_2, gu_ne (by decide)]; exact hBe
  have hc_10 : g_1 199 = aI κ 86 sv := by rw [hg_2, gu_ne (by decide)]; exact hSv
  refine g_iload_n C dX8_setRing_5 rfl hl 1 rfl ?_
  refine g_ci C G (g_runS (As := [.int (iz te)]) (rest := []) C G (c_X8_isTeeth l κ B n ad g_1 te (by omega)) (va_cwS 1 C.1.2.2.2.2 gX8_setRing_X8_isTeeth rfl rfl rfl (by decide +kernel) ⟨Nat.le_of_ble_eq_true rfl, Nat.le_of_ble_eq_true rfl⟩) rfl hl rfl (Nat.le_of_ble_eq_true rfl) dX8_setRing_6 ⟨Nat.le_of_ble_eq_true rfl, Nat.le_of_ble_eq_true rfl⟩) (fun z_12 g9 H locs hw G => ?_)
  obtain ⟨hg9, hw⟩ := hw
  replace hg9 := hg9.symm
  subst hg9
  rcases hw with ⟨b_11, rfl⟩ | ⟨b_11, rfl⟩
  · refine g_if_ne (tgt := 18) C (by decide) dX8_setRing_9 (by decide) (fun _ => ?_) (fun c9 => absurd c9 (by decide))
    refine g_aload_n C dX8_setRing_18 rfl hl 0 rfl ?_
    refine g_cv C G (g_runV (As := []) (rest := []) (pos := 192) C G (c_X8_remember l κ B n ad g_1 ly 0 mk tx rl a0 wr s0 s1 rm f pa hn8 hc_3 hc_4 hc_8 (by omega)) (cwV 0 C.1.2.2.2.2 gX8_setRing_X8_remember rfl rfl rfl (by decide +kernel) ⟨Nat.le_of_ble_eq_true rfl, Nat.le_of_ble_eq_true rfl⟩) (by omega) hc_3 (T := TX8) (N := 17) rfl rfl hl rfl (Nat.le_of_ble_eq_true rfl) dX8_setRing_19 ⟨Nat.le_of_ble_eq_true rfl, Nat.le_of_ble_eq_true rfl⟩) (fun g_13 H locs hw9 G => ?_)
    obtain ⟨hc_14, hc_15, hf_16⟩ := hw9
    have hc_17 : g_13 193 = aI κ 42 f := (hf_16 193 (by decide) (by decide)).trans hc_4
    have hc_18 : g_13 194 = aI κ 28896 M9 := (hf_16 194 (by decide) (by decide)).trans hc_5
    have hc_19 : g_13 195 = aI κ 100 X9 := (hf_16 195 (by decide) (by decide)).trans hc_6
    have hc_20 : g_13 196 = aI κ 42 q9 := (hf_16 196 (by decide) (by decide)).trans hc_7
    have hc_21 : g_13 198 = aI κ 43 be := (hf_16 198 (by decide) (by decide)).trans hc_9
    have hc_22 : g_13 199 = aI κ 86 sv := (hf_16 199 (by decide) (by decide)).trans hc_10
    refine g_aload_n C dX8_setRing_22 rfl hl 0 rfl ?_
    refine g_iload_n C dX8_setRing_23 rfl hl 1 rfl ?_
    refine g_ci C G (g_runV (As := [.int (iz te)]) (rest := []) (pos := 192) C G (c_X8_takeRing l κ B n ad g_13 ly 0 mk tx rl a0 wr s0 s1 (remC rm) f te hn8 hc_14 hc_17 hok (by omega)) (cwV 1 C.1.2.2.2.2 gX8_setRing_X8_takeRing rfl rfl rfl (by decide +kernel) ⟨Nat.le_of_ble_eq_true rfl, Nat.le_of_ble_eq_true rfl⟩) (by omega) hc_14 (T := TX8) (N := 17) rfl rfl hl rfl (Nat.le_of_ble_eq_true rfl) dX8_setRing_24 ⟨Nat.le_of_ble_eq_true rfl, Nat.le_of_ble_eq_true rfl⟩) (fun z_23 g9 H locs hw G => ?_)
    obtain ⟨hz_24, hw⟩ := hw
    subst hw
    obtain ⟨g_25, hg_26⟩ : ∃ g9, g9 = va_up g_13 193 (aI κ 42 (tk2 ly f te (f 25))) := ⟨_, rfl⟩
    rw [← hg_26] at G
    have hc_27 : g_25 193 = aI κ 42 (tk2 ly f te (f 25)) := by rw [hg_26]; exact gu_self _ _ _
    have hc_28 : g_25 194 = aI κ 28896 M9 := by rw [hg_26, gu_ne (by decide)]; exact hc_18
    have hc_29 : g_25 195 = aI κ 100 X9 := by rw [hg_26, gu_ne (by decide)]; exact hc_19
    have hc_30 : g_25 196 = aI κ 42 q9 := by rw [hg_26, gu_ne (by decide)]; exact hc_20
    have hc_31 : g_25 198 = aI κ 43 be := by rw [hg_26, gu_ne (by decide)]; exact hc_21
    have hc_32 : g_25 199 = aI κ 86 sv := by rw [hg_26, gu_ne (by decide)]; exact hc_22
    have hc_33 : g_25 192 = .inr (8, [.ref (ad 193), .int (iz ly), .int (iz 0), .ref (ad 194), .int (iz mk), .ref (ad 195), .int (iz tx), .ref (ad 196), .int (iz rl), .int (iz a0), .int (iz wr), .int (iz s0), .int (iz s1), .ref (ad 197), .int (iz (remC rm)), .ref (ad 198), .ref (ad 199)]) := by rw [hg_26, gu_ne (by decide)]; exact hc_14
    have hc_34 : g_25 197 = aI κ 602 (rmF pa rm ly f) := by rw [hg_26, gu_ne (by decide)]; exact hc_15
    refine g_iret C G hr hlk (Nat.le_of_ble_eq_true rfl) (Nat.le_of_ble_eq_true rfl) dX8_setRing_27 ?_
    exact ⟨Or.inr (⟨⟨by omega, hz_24⟩, ⟨_, _, _, _, _, _, _, hc_33, hc_27, hc_28, hc_29, hc_30, hc_34, hc_31, hc_32, by omega, hMr, hinq⟩⟩), fun q hq => (((congrFun hg_26 q).trans (gu_ne (by omega))).trans ((hf_16 q (by omega) (by omega)).trans ((congrFun hg_2 q).trans (gu_ne (by omega)))))⟩
  · refine g_if_ne (tgt := 18) C (by decide) dX8_setRing_9 (by decide) (fun c9 => absurd c9 (by decide)) (fun _ => ?_)
    refine g_aload_n C dX8_setRing_12 rfl hl 0 rfl ?_
    refine g_iconst (a := 1) C dX8_setRing_13 rfl ?_
    refine g_ci C G (g_runV (As := [.int (iz 1)]) (rest := []) (pos := 192) C G (c_X8_refused l κ B n ad g_1 ly 0 mk tx rl a0 wr s0 s1 rm 1 hn8 hc_3) (cwV 1 C.1.2.2.2.2 gX8_setRing_X8_refused rfl rfl rfl (by decide +kernel) ⟨Nat.le_of_ble_eq_true rfl, Nat.le_of_ble_eq_true rfl⟩) (by omega) hc_3 (T := TX8) (N := 17) rfl rfl hl rfl (Nat.le_of_ble_eq_true rfl) dX8_setRing_14 ⟨Nat.le_of_ble_eq_true rfl, Nat.le_of_ble_eq_true rfl⟩) (fun z_35 g9 H locs hw G => ?_)
    obtain ⟨hw, h_36⟩ := hw
    subst hw
    obtain ⟨g_37, hg_38⟩ : ∃ g9, g9 = va_up g_1 192 (.inr (8, [.ref (ad 193), .int (iz ly), .int (iz 1), .ref (ad 194), .int (iz mk), .ref (ad 195), .int (iz tx), .ref (ad 196), .int (iz rl), .int (iz a0), .int (iz wr), .int (iz s0), .int (iz s1), .ref (ad 197), .int (iz rm), .ref (ad 198), .ref (ad 199)])) := ⟨_, rfl⟩
    rw [← hg_38] at G
    have hc_39 : g_37 192 = .inr (8, [.ref (ad 193), .int (iz ly), .int (iz 1), .ref (ad 194), .int (iz mk), .ref (ad 195), .int (iz tx), .ref (ad 196), .int (iz rl), .int (iz a0), .int (iz wr), .int (iz s0), .int (iz s1), .ref (ad 197), .int (iz rm), .ref (ad 198), .ref (ad 199)]) := by rw [hg_38]; exact gu_self _ _ _
    have hc_40 : g_37 193 = aI κ 42 f := by rw [hg_38, gu_ne (by decide)]; exact hc_4
    have hc_41 : g_37 194 = aI κ 28896 M9 := by rw [hg_38, gu_ne (by decide)]; exact hc_5
    have hc_42 : g_37 195 = aI κ 100 X9 := by rw [hg_38, gu_ne (by decide)]; exact hc_6
    have hc_43 : g_37 196 = aI κ 42 q9 := by rw [hg_38, gu_ne (by decide)]; exact hc_7
    have hc_44 : g_37 197 = aI κ 602 pa := by rw [hg_38, gu_ne (by decide)]; exact hc_8
    have hc_45 : g_37 198 = aI κ 43 be := by rw [hg_38, gu_ne (by decide)]; exact hc_9
    have hc_46 : g_37 199 = aI κ 86 sv := by rw [hg_38, gu_ne (by decide)]; exact hc_10
    refine g_iret C G hr hlk (Nat.le_of_ble_eq_true rfl) (Nat.le_of_ble_eq_true rfl) dX8_setRing_17 ?_
    exact ⟨Or.inl ⟨by omega, ⟨_, _, _, _, _, _, _, hc_39, hc_40, hc_41, hc_42, hc_43, hc_44, hc_45, hc_46, by omega, hMr, hinq⟩⟩, fun q hq => (((congrFun hg_38 q).trans (gu_ne (by omega))).trans ((congrFun hg_2 q).trans (gu_ne (by omega))))⟩
theorem fwX8_addLayer_31 : gFldW wsX8_addLayer RX8 31 8 2 .int false := ⟨RX8, TX8, 17, tyX8, rfl, by decide, by decide +kernel, by decide +kernel, tyX8_ok, nmX8, rfl, by decide +kernel, by decide +kernel⟩
theorem fX8_addLayer_35 : gFld wsX8_addLayer RX8 35 8 1 := ⟨RX8, TX8, 17, rfl, by decide, by decide +kernel, by decide +kernel⟩
set_option maxHeartbeats 4000000 in
set_option maxRecDepth 100000 in
theorem c_X8_addLayer (l : Launch) (κ : gKap) (B n : Nat) (ad : Nat → Nat) (g : Nat → va_E) (ly : Int) (th : Int) (mk : Int) (tx : Int) (rl : Int) (a0 : Int) (wr : Int) (s0 : Int) (s1 : Int) (rm : Int) (f : Int → Int) (M9 : Int → Int) (X9 : Int → Int) (q9 : Int → Int) (pa : Int → Int) (be : Int → Int) (sv : Int → Int) (qw : Int) (qs : Int) (qh : Int) (qt : Int) (hn8 : 200 ≤ n) (hM : g 192 = oM ad ly th mk tx rl a0 wr s0 s1 rm) (hN : g 193 = aI κ 42 f) (hK : g 194 = aI κ 28896 M9) (hT : g 195 = aI κ 100 X9) (hRd : g 196 = aI κ 42 q9) (hPa : g 197 = aI κ 602 pa) (hBe : g 198 = aI κ 43 be) (hSv : g 199 = aI κ 86 sv) (hok : okPl ly f) (hmk : 0 ≤ mk ∧ mk ≤ 800000000) (hMr : ∀ i, 0 ≤ i → i < 28896 → 0 ≤ M9 i ∧ M9 i ≤ mk) (hinq : inV q9) (hrm : 0 ≤ rm ∧ rm ≤ 14) (hqw : inI qw) (hqs : inI qs) (hqh : inI qh) (hqt : inI qt) : Met l yX8_addLayer wsX8_addLayer ({ frames := 4, cells := 0, slots := 0, locals := 92 }) (gPre κ B n ad g [.ref (ad 192), .int (iz qw), .int (iz qs), .int (iz qh), .int (iz qt)]) (gQi κ B n ad (fun z g' => (((¬ ((5 ≤ qw ∧ qw ≤ 60) ∧ (qs = 0 ∨ qs = 1) ∧ (0 ≤ qh ∧ qh ≤ 20) ∧ 0 ≤ qt ∧ qt < f 0)) ∧ jkM κ ad g' ly 1 tx s0 s1 rm (mk + 1000) f X9 pa sv) ∨ ((((5 ≤ qw ∧ qw ≤ 60) ∧ (qs = 0 ∨ qs = 1) ∧ (0 ≤ qh ∧ qh ≤ 20) ∧ 0 ≤ qt ∧ qt < f 0) ∧ 6 ≤ ly) ∧ jkM κ ad g' ly 2 tx s0 s1 rm (mk + 1000) f X9 pa sv) ∨ (((((5 ≤ qw ∧ qw ≤ 60) ∧ (qs = 0 ∨ qs = 1) ∧ (0 ≤ qh ∧ qh ≤ 20) ∧ 0 ≤ qt ∧ qt < f 0) ∧ ly < 6) ∧ z = ly) ∧ jkM κ ad g' (ly + 1) 0 tx s0 s1 (remC rm) (mk + 1000) (v4 f ly qw qs qh qt) X9 (rmF pa rm ly f) sv)) ∧ frM g g')) 0 0 (gFree B) := by
  refine g_met RX8 (cc := cX8_addLayer) (maxL := 5) (ret := (some .int)) (by decide) rfl rfl (Nat.le_of_ble_eq_true rfl) ?_
  intro p e s m args below meth c C hr hlk hnm G ls hl
  have hl : lv_has ls 5 [(0, .ref (ad 192)), (1, .int (iz qw)), (2, .int (iz qs)), (3, .int (iz qh)), (4, .int (iz qt))] := hl
  obtain ⟨hn6, hv0, hv25, hlay, hsee⟩ := id hok
  refine g_aload_n C dX8_addLayer_0 rfl hl 0 rfl ?_
  refine g_iconst (a := 0) C dX8_addLayer_1 rfl ?_
  refine g_put C G (pos := 192) (fs' := [.ref (ad 193), .int (iz ly), .int (iz 0), .ref (ad 194), .int (iz mk), .ref (ad 195), .int (iz tx), .ref (ad 196), .int (iz rl), .int (iz a0), .int (iz wr), .int (iz s0), .int (iz s1), .ref (ad 197), .int (iz rm), .ref (ad 198), .ref (ad 199)]) fwX8_addLayer_31 (by omega) hM (Nat.le_of_ble_eq_true rfl) rfl rfl rfl dX8_addLayer_2 (fun H locs G => ?_)
  obtain ⟨g_1, hg_2⟩ : ∃ g9, g9 = va_up g 192 (.inr (8, [.ref (ad 193), .int (iz ly), .int (iz 0), .ref (ad 194), .int (iz mk), .ref (ad 195), .int (iz tx), .ref (ad 196), .int (iz rl), .int (iz a0), .int (iz wr), .int (iz s0), .int (iz s1), .ref (ad 197), .int (iz rm), .ref (ad 198), .ref (ad 199)])) := ⟨_, rfl⟩
  rw [← hg_2] at G
  have hc_3 : g_1 192 = .inr (8, [.ref (ad 193), .int (iz ly), .int (iz 0), .ref (ad 194), .int (iz mk), .ref (ad 195), .int (iz tx), .ref (ad 196), .int (iz rl), .int (iz a0), .int (iz wr), .int (iz s0), .int (iz s1), .ref (ad 197), .int (iz rm), .ref (ad 198), .ref (ad 199)]) := by rw [hg_2]; exact gu_self _ _ _
  have hc_4 : g_1 193 = aI κ 42 f := by rw [hg_2, gu_ne (by decide)]; exact hN
  have hc_5 : g_1 194 = aI κ 28896 M9 := by rw [hg_2, gu_ne (by decide)]; exact hK
  have hc_6 : g_1 195 = aI κ 100 X9 := by rw [hg_2, gu_ne (by decide)]; exact hT
  have hc_7 : g_1 196 = aI κ 42 q9 := by rw [hg_2, gu_ne (by decide)]; exact hRd
  have hc_8 : g_1 197 = aI κ 602 pa := by rw [hg_2, gu_ne (by decide)]; exact hPa
  have hc_9 : g_1 198 = aI κ 43 be := by rw [hg_2, gu_ne (by decide)]; exact hBe
  have hc_10 : g_1 199 = aI κ 86 sv := by rw [hg_2, gu_ne (by decide)]; exact hSv
  refine g_aload_n C dX8_addLayer_5 rfl hl 0 rfl ?_
  refine g_iload_n C dX8_addLayer_6 rfl hl 1 rfl ?_
  refine g_iload_n C dX8_addLayer_7 rfl hl 2 rfl ?_
  refine g_iload_n C dX8_addLayer_8 rfl hl 3 rfl ?_
  refine g_iload C dX8_addLayer_9 hl 4 rfl ?_
  refine g_ci C G (g_runV (As := [.int (iz qw), .int (iz qs), .int (iz qh), .int (iz qt)]) (rest := []) (pos := 192) C G (c_X8_canBe l κ B n ad g_1 ly 0 mk tx rl a0 wr s0 s1 rm f qw qs qh qt hn8 hc_3 hc_4 hok (by omega) (by omega) (by omega) (by omega)) (cwV 4 C.1.2.2.2.2 gX8_addLayer_X8_canBe rfl rfl rfl (by decide +kernel) ⟨Nat.le_of_ble_eq_true rfl, Nat.le_of_ble_eq_true rfl⟩) (by omega) hc_3 (T := TX8) (N := 17) rfl rfl hl rfl (Nat.le_of_ble_eq_true rfl) dX8_addLayer_11 ⟨Nat.le_of_ble_eq_true rfl, Nat.le_of_ble_eq_true rfl⟩) (fun z_12 g9 H locs hw G => ?_)
  obtain ⟨hg9, hw⟩ := hw
  replace hg9 := hg9.symm
  subst hg9
  rcases hw with ⟨b_11, rfl⟩ | ⟨b_11, rfl⟩
  · refine g_if_ne (tgt := 23) C (by decide) dX8_addLayer_14 (by decide) (fun _ => ?_) (fun c9 => absurd c9 (by decide))
    refine g_aload_n C dX8_addLayer_23 rfl hl 0 rfl ?_
    refine g_get C G (pos := 192) fX8_addLayer_35 (by omega) hc_3 rfl dX8_addLayer_24 ?_
    refine g_bipush (a := 6) C dX8_addLayer_27 (by decide) ?_
    refine g_icmp_ne (tgt := 38) C (by omega) (by decide) dX8_addLayer_29 (by decide) (fun c_13 => ?_) (fun c_13 => ?_)
    · refine g_aload_n C dX8_addLayer_38 rfl hl 0 rfl ?_
      refine g_cv C G (g_runV (As := []) (rest := []) (pos := 192) C G (c_X8_remember l κ B n ad g_1 ly 0 mk tx rl a0 wr s0 s1 rm f pa hn8 hc_3 hc_4 hc_8 (by omega)) (cwV 0 C.1.2.2.2.2 gX8_addLayer_X8_remember rfl rfl rfl (by decide +kernel) ⟨Nat.le_of_ble_eq_true rfl, Nat.le_of_ble_eq_true rfl⟩) (by omega) hc_3 (T := TX8) (N := 17) rfl rfl hl rfl (Nat.le_of_ble_eq_true rfl) dX8_addLayer_39 ⟨Nat.le_of_ble_eq_true rfl, Nat.le_of_ble_eq_true rfl⟩) (fun g_14 H locs hw9 G => ?_)
      obtain ⟨hc_15, hc_16, hf_17⟩ := hw9
      have hc_18 : g_14 193 = aI κ 42 f := (hf_17 193 (by decide) (by decide)).trans hc_4
      have hc_19 : g_14 194 = aI κ 28896 M9 := (hf_17 194 (by decide) (by decide)).trans hc_5
      have hc_20 : g_14 195 = aI κ 100 X9 := (hf_17 195 (by decide) (by decide)).trans hc_6
      have hc_21 : g_14 196 = aI κ 42 q9 := (hf_17 196 (by decide) (by decide)).trans hc_7
      have hc_22 : g_14 198 = aI κ 43 be := (hf_17 198 (by decide) (by decide)).trans hc_9
      have hc_23 : g_14 199 = aI κ 86 sv := (hf_17 199 (by decide) (by decide)).trans hc_10
      refine g_aload_n C dX8_addLayer_42 rfl hl 0 rfl ?_
      refine g_iload_n C dX8_addLayer_43 rfl hl 1 rfl ?_
      refine g_iload_n C dX8_addLayer_44 rfl hl 2 rfl ?_
      refine g_iload_n C dX8_addLayer_45 rfl hl 3 rfl ?_
      refine g_iload C dX8_addLayer_46 hl 4 rfl ?_
      refine g_ci C G (g_runV (As := [.int (iz qw), .int (iz qs), .int (iz qh), .int (iz qt)]) (rest := []) (pos := 192) C G (c_X8_lay l κ B n ad g_14 ly 0 mk tx rl a0 wr s0 s1 (remC rm) f qw qs qh qt hn8 hc_15 hc_18 (by omega)) (cwV 4 C.1.2.2.2.2 gX8_addLayer_X8_lay rfl rfl rfl (by decide +kernel) ⟨Nat.le_of_ble_eq_true rfl, Nat.le_of_ble_eq_true rfl⟩) (by omega) hc_15 (T := TX8) (N := 17) rfl rfl hl rfl (Nat.le_of_ble_eq_true rfl) dX8_addLayer_48 ⟨Nat.le_of_ble_eq_true rfl, Nat.le_of_ble_eq_true rfl⟩) (fun z_28 g_24 H locs hw9 G => ?_)
      obtain ⟨hz_29, hc_25, hc_26, hf_27⟩ := hw9
      have hc_30 : g_24 194 = aI κ 28896 M9 := (hf_27 194 (by decide) (by decide)).trans hc_19
      have hc_31 : g_24 195 = aI κ 100 X9 := (hf_27 195 (by decide) (by decide)).trans hc_20
      have hc_32 : g_24 196 = aI κ 42 q9 := (hf_27 196 (by decide) (by decide)).trans hc_21
      have hc_33 : g_24 198 = aI κ 43 be := (hf_27 198 (by decide) (by decide)).trans hc_22
      have hc_34 : g_24 199 = aI κ 86 sv := (hf_27 199 (by decide) (by decide)).trans hc_23
      have hc_35 : g_24 197 = aI κ 602 (rmF pa rm ly f) := (hf_27 197 (by decide) (by decide)).trans hc_16
      refine g_iret C G hr hlk (Nat.le_of_ble_eq_true rfl) (Nat.le_of_ble_eq_true rfl) dX8_addLayer_51 ?_
      exact ⟨Or.inr (Or.inr (⟨⟨⟨b_11, by omega⟩, hz_29⟩, ⟨_, _, _, _, _, _, _, hc_25, hc_26, hc_30, hc_31, hc_32, hc_35, hc_33, hc_34, by omega, hMr, hinq⟩⟩)), fun q hq => ((hf_27 q (by omega) (by omega)).trans ((hf_17 q (by omega) (by omega)).trans ((congrFun hg_2 q).trans (gu_ne (by omega)))))⟩
    · refine g_aload_n C dX8_addLayer_32 rfl hl 0 rfl ?_
      refine g_iconst (a := 2) C dX8_addLayer_33 rfl ?_
      refine g_ci C G (g_runV (As := [.int (iz 2)]) (rest := []) (pos := 192) C G (c_X8_refused l κ B n ad g_1 ly 0 mk tx rl a0 wr s0 s1 rm 2 hn8 hc_3) (cwV 1 C.1.2.2.2.2 gX8_addLayer_X8_refused rfl rfl rfl (by decide +kernel) ⟨Nat.le_of_ble_eq_true rfl, Nat.le_of_ble_eq_true rfl⟩) (by omega) hc_3 (T := TX8) (N := 17) rfl rfl hl rfl (Nat.le_of_ble_eq_true rfl) dX8_addLayer_34 ⟨Nat.le_of_ble_eq_true rfl, Nat.le_of_ble_eq_true rfl⟩) (fun z_36 g9 H locs hw G => ?_)
      obtain ⟨hw, h_37⟩ := hw
      subst hw
      obtain ⟨g_38, hg_39⟩ : ∃ g9, g9 = va_up g_1 192 (.inr (8, [.ref (ad 193), .int (iz ly), .int (iz 2), .ref (ad 194), .int (iz mk), .ref (ad 195), .int (iz tx), .ref (ad 196), .int (iz rl), .int (iz a0), .int (iz wr), .int (iz s0), .int (iz s1), .ref (ad 197), .int (iz rm), .ref (ad 198), .ref (ad 199)])) := ⟨_, rfl⟩
      rw [← hg_39] at G
      have hc_40 : g_38 192 = .inr (8, [.ref (ad 193), .int (iz ly), .int (iz 2), .ref (ad 194), .int (iz mk), .ref (ad 195), .int (iz tx), .ref (ad 196), .int (iz rl), .int (iz a0), .int (iz wr), .int (iz s0), .int (iz s1), .ref (ad 197), .int (iz rm), .ref (ad 198), .ref (ad 199)]) := by rw [hg_39]; exact gu_self _ _ _
      have hc_41 : g_38 193 = aI κ 42 f := by rw [hg_39, gu_ne (by decide)]; exact hc_4
      have hc_42 : g_38 194 = aI κ 28896 M9 := by rw [hg_39, gu_ne (by decide)]; exact hc_5
      have hc_43 : g_38 195 = aI κ 100 X9 := by rw [hg_39, gu_ne (by decide)]; exact hc_6
      have hc_44 : g_38 196 = aI κ 42 q9 := by rw [hg_39, gu_ne (by decide)]; exact hc_7
      have hc_45 : g_38 197 = aI κ 602 pa := by rw [hg_39, gu_ne (by decide)]; exact hc_8
      have hc_46 : g_38 198 = aI κ 43 be := by rw [hg_39, gu_ne (by decide)]; exact hc_9
      have hc_47 : g_38 199 = aI κ 86 sv := by rw [hg_39, gu_ne (by decide)]; exact hc_10
      refine g_iret C G hr hlk (Nat.le_of_ble_eq_true rfl) (Nat.le_of_ble_eq_true rfl) dX8_addLayer_37 ?_
      exact ⟨Or.inr (Or.inl ⟨⟨b_11, by omega⟩, ⟨_, _, _, _, _, _, _, hc_40, hc_41, hc_42, hc_43, hc_44, hc_45, hc_46, hc_47, by omega, hMr, hinq⟩⟩), fun q hq => (((congrFun hg_39 q).trans (gu_ne (by omega))).trans ((congrFun hg_2 q).trans (gu_ne (by omega))))⟩
  · refine g_if_ne (tgt := 23) C (by decide) dX8_addLayer_14 (by decide) (fun c9 => absurd c9 (by decide)) (fun _ => ?_)
    refine g_aload_n C dX8_addLayer_17 rfl hl 0 rfl ?_
    refine g_iconst (a := 1) C dX8_addLayer_18 rfl ?_
    refine g_ci C G (g_runV (As := [.int (iz 1)]) (rest := []) (pos := 192) C G (c_X8_refused l κ B n ad g_1 ly 0 mk tx rl a0 wr s0 s1 rm 1 hn8 hc_3) (cwV 1 C.1.2.2.2.2 gX8_addLayer_X8_refused rfl rfl rfl (by decide +kernel) ⟨Nat.le_of_ble_eq_true rfl, Nat.le_of_ble_eq_true rfl⟩) (by omega) hc_3 (T := TX8) (N := 17) rfl rfl hl rfl (Nat.le_of_ble_eq_true rfl) dX8_addLayer_19 ⟨Nat.le_of_ble_eq_true rfl, Nat.le_of_ble_eq_true rfl⟩) (fun z_48 g9 H locs hw G => ?_)
    obtain ⟨hw, h_49⟩ := hw
    subst hw
    obtain ⟨g_50, hg_51⟩ : ∃ g9, g9 = va_up g_1 192 (.inr (8, [.ref (ad 193), .int (iz ly), .int (iz 1), .ref (ad 194), .int (iz mk), .ref (ad 195), .int (iz tx), .ref (ad 196), .int (iz rl), .int (iz a0), .int (iz wr), .int (iz s0), .int (iz s1), .ref (ad 197), .int (iz rm), .ref (ad 198), .ref (ad 199)])) := ⟨_, rfl⟩
    rw [← hg_51] at G
    have hc_52 : g_50 192 = .inr (8, [.ref (ad 193), .int (iz ly), .int (iz 1), .ref (ad 194), .int (iz mk), .ref (ad 195), .int (iz tx), .ref (ad 196), .int (iz rl), .int (iz a0), .int (iz wr), .int (iz s0), .int (iz s1), .ref (ad 197), .int (iz rm), .ref (ad 198), .ref (ad 199)]) := by rw [hg_51]; exact gu_self _ _ _
    have hc_53 : g_50 193 = aI κ 42 f := by rw [hg_51, gu_ne (by decide)]; exact hc_4
    have hc_54 : g_50 194 = aI κ 28896 M9 := by rw [hg_51, gu_ne (by decide)]; exact hc_5
    have hc_55 : g_50 195 = aI κ 100 X9 := by rw [hg_51, gu_ne (by decide)]; exact hc_6
    have hc_56 : g_50 196 = aI κ 42 q9 := by rw [hg_51, gu_ne (by decide)]; exact hc_7
    have hc_57 : g_50 197 = aI κ 602 pa := by rw [hg_51, gu_ne (by decide)]; exact hc_8
    have hc_58 : g_50 198 = aI κ 43 be := by rw [hg_51, gu_ne (by decide)]; exact hc_9
    have hc_59 : g_50 199 = aI κ 86 sv := by rw [hg_51, gu_ne (by decide)]; exact hc_10
    refine g_iret C G hr hlk (Nat.le_of_ble_eq_true rfl) (Nat.le_of_ble_eq_true rfl) dX8_addLayer_22 ?_
    exact ⟨Or.inl ⟨b_11, ⟨_, _, _, _, _, _, _, hc_52, hc_53, hc_54, hc_55, hc_56, hc_57, hc_58, hc_59, by omega, hMr, hinq⟩⟩, fun q hq => (((congrFun hg_51 q).trans (gu_ne (by omega))).trans ((congrFun hg_2 q).trans (gu_ne (by omega))))⟩
theorem fwX8_change_31 : gFldW wsX8_change RX8 31 8 2 .int false := ⟨RX8, TX8, 17, tyX8, rfl, by decide, by decide +kernel, by decide +kernel, tyX8_ok, nmX8, rfl, by decide +kernel, by decide +kernel⟩
theorem fX8_change_7 : gFld wsX8_change RX8 7 8 0 := ⟨RX8, TX8, 17, rfl, by decide, by decide +kernel, by decide +kernel⟩
set_option maxHeartbeats 4000000 in
set_option maxRecDepth 100000 in
theorem c_X8_change (l : Launch) (κ : gKap) (B n : Nat) (ad : Nat → Nat) (g : Nat → va_E) (ly : Int) (th : Int) (mk : Int) (tx : Int) (rl : Int) (a0 : Int) (wr : Int) (s0 : Int) (s1 : Int) (rm : Int) (f : Int → Int) (M9 : Int → Int) (X9 : Int → Int) (q9 : Int → Int) (pa : Int → Int) (be : Int → Int) (sv : Int → Int) (li : Int) (wh : Int) (x9 : Int) (hn8 : 200 ≤ n) (hM : g 192 = oM ad ly th mk tx rl a0 wr s0 s1 rm) (hN : g 193 = aI κ 42 f) (hK : g 194 = aI κ 28896 M9) (hT : g 195 = aI κ 100 X9) (hRd : g 196 = aI κ 42 q9) (hPa : g 197 = aI κ 602 pa) (hBe : g 198 = aI κ 43 be) (hSv : g 199 = aI κ 86 sv) (hok : okPl ly f) (hmk : 0 ≤ mk ∧ mk ≤ 800000000) (hMr : ∀ i, 0 ≤ i → i < 28896 → 0 ≤ M9 i ∧ M9 i ≤ mk) (hinq : inV q9) (hrm : 0 ≤ rm ∧ rm ≤ 14) (hli : inI li) (hwh : inI wh) (hx9 : inI x9) : Met l yX8_change wsX8_change ({ frames := 3, cells := 0, slots := 0, locals := 68 }) (gPre κ B n ad g [.ref (ad 192), .int (iz li), .int (iz wh), .int (iz x9)]) (gQi κ B n ad (fun z g' => (((¬ (0 ≤ li ∧ li < ly)) ∧ jkM κ ad g' ly 1 tx s0 s1 rm (mk + 1000) f X9 pa sv) ∨ (((0 ≤ li ∧ li < ly) ∧ ¬ ((wh = 0 ∧ 5 ≤ x9 ∧ x9 ≤ 60) ∨ (wh = 1 ∧ (x9 = 0 ∨ x9 = 1)) ∨ (wh = 2 ∧ 0 ≤ x9 ∧ x9 ≤ 20) ∨ (wh = 3 ∧ 0 ≤ x9 ∧ x9 < f 0))) ∧ jkM κ ad g' ly 2 tx s0 s1 rm (mk + 1000) f X9 pa sv) ∨ ((((0 ≤ li ∧ li < ly) ∧ ((wh = 0 ∧ 5 ≤ x9 ∧ x9 ≤ 60) ∨ (wh = 1 ∧ (x9 = 0 ∨ x9 = 1)) ∨ (wh = 2 ∧ 0 ≤ x9 ∧ x9 ≤ 20) ∨ (wh = 3 ∧ 0 ≤ x9 ∧ x9 < f 0))) ∧ z = f (4 * li + 1 + wh)) ∧ jkM κ ad g' ly 0 tx s0 s1 (remC rm) (mk + 1000) (vu f (4 * li + 1 + wh) x9) X9 (rmF pa rm ly f) sv)) ∧ frM g g')) 0 0 (gFree B) := by
  refine g_met RX8 (cc := cX8_change) (maxL := 5) (ret := (some .int)) (by decide) rfl rfl (Nat.le_of_ble_eq_true rfl) ?_
  intro p e s m args below meth c C hr hlk hnm G ls hl
  have hl : lv_has ls 5 [(0, .ref (ad 192)), (1, .int (iz li)), (2, .int (iz wh)), (3, .int (iz x9))] := hl
  obtain ⟨hn6, hv0, hv25, hlay, hsee⟩ := id hok
  refine g_aload_n C dX8_change_0 rfl hl 0 rfl ?_
  refine g_iconst (a := 0) C dX8_change_1 rfl ?_
  refine g_put C G (pos := 192) (fs' := [.ref (ad 193), .int (iz ly), .int (iz 0), .ref (ad 194), .int (iz mk), .ref (ad 195), .int (iz tx), .ref (ad 196), .int (iz rl), .int (iz a0), .int (iz wr), .int (iz s0), .int (iz s1), .ref (ad 197), .int (iz rm), .ref (ad 198), .ref (ad 199)]) fwX8_change_31 (by omega) hM (Nat.le_of_ble_eq_true rfl) rfl rfl rfl dX8_change_2 (fun H locs G => ?_)
  obtain ⟨g_1, hg_2⟩ : ∃ g9, g9 = va_up g 192 (.inr (8, [.ref (ad 193), .int (iz ly), .int (iz 0), .ref (ad 194), .int (iz mk), .ref (ad 195), .int (iz tx), .ref (ad 196), .int (iz rl), .int (iz a0), .int (iz wr), .int (iz s0), .int (iz s1), .ref (ad 197), .int (iz rm), .ref (ad 198), .ref (ad 199)])) := ⟨_, rfl⟩
  rw [← hg_2] at G
  have hc_3 : g_1 192 = .inr (8, [.ref (ad 193), .int (iz ly), .int (iz 0), .ref (ad 194), .int (iz mk), .ref (ad 195), .int (iz tx), .ref (ad 196), .int (iz rl), .int (iz a0), .int (iz wr), .int (iz s0), .int (iz s1), .ref (ad 197), .int (iz rm), .ref (ad 198), .ref (ad 199)]) := by rw [hg_2]; exact gu_self _ _ _
  have hc_4 : g_1 193 = aI κ 42 f := by rw [hg_2, gu_ne (by decide)]; exact hN
  have hc_5 : g_1 194 = aI κ 28896 M9 := by rw [hg_2, gu_ne (by decide)]; exact hK
  have hc_6 : g_1 195 = aI κ 100 X9 := by rw [hg_2, gu_ne (by decide)]; exact hT
  have hc_7 : g_1 196 = aI κ 42 q9 := by rw [hg_2, gu_ne (by decide)]; exact hRd
  have hc_8 : g_1 197 = aI κ 602 pa := by rw [hg_2, gu_ne (by decide)]; exact hPa
  have hc_9 : g_1 198 = aI κ 43 be := by rw [hg_2, gu_ne (by decide)]; exact hBe
  have hc_10 : g_1 199 = aI κ 86 sv := by rw [hg_2, gu_ne (by decide)]; exact hSv
  refine g_aload_n C dX8_change_5 rfl hl 0 rfl ?_
  refine g_iload_n C dX8_change_6 rfl hl 1 rfl ?_
  refine g_ci C G (g_runV (As := [.int (iz li)]) (rest := []) (pos := 192) C G (c_X8_isLayer l κ B n ad g_1 ly 0 mk tx rl a0 wr s0 s1 rm li hn8 hc_3 hli (by omega)) (cwV 1 C.1.2.2.2.2 gX8_change_X8_isLayer rfl rfl rfl (by decide +kernel) ⟨Nat.le_of_ble_eq_true rfl, Nat.le_of_ble_eq_true rfl⟩) (by omega) hc_3 (T := TX8) (N := 17) rfl rfl hl rfl (Nat.le_of_ble_eq_true rfl) dX8_change_7 ⟨Nat.le_of_ble_eq_true rfl, Nat.le_of_ble_eq_true rfl⟩) (fun z_12 g9 H locs hw G => ?_)
  obtain ⟨hg9, hw⟩ := hw
  replace hg9 := hg9.symm
  subst hg9
  rcases hw with ⟨b_11, rfl⟩ | ⟨b_11, rfl⟩
  · refine g_if_ne (tgt := 19) C (by decide) dX8_change_10 (by decide) (fun _ => ?_) (fun c9 => absurd c9 (by decide))
    refine g_aload_n C dX8_change_19 rfl hl 0 rfl ?_
    refine g_iload_n C dX8_change_20 rfl hl 2 rfl ?_
    refine g_iload_n C dX8_change_21 rfl hl 3 rfl ?_
    refine g_ci C G (g_runV (As := [.int (iz wh), .int (iz x9)]) (rest := []) (pos := 192) C G (c_X8_can l κ B n ad g_1 ly 0 mk tx rl a0 wr s0 s1 rm f wh x9 hn8 hc_3 hc_4 hok (by omega) (by omega)) (cwV 2 C.1.2.2.2.2 gX8_change_X8_can rfl rfl rfl (by decide +kernel) ⟨Nat.le_of_ble_eq_true rfl, Nat.le_of_ble_eq_true rfl⟩) (by omega) hc_3 (T := TX8) (N := 17) rfl rfl hl rfl (Nat.le_of_ble_eq_true rfl) dX8_change_22 ⟨Nat.le_of_ble_eq_true rfl, Nat.le_of_ble_eq_true rfl⟩) (fun z_14 g9 H locs hw G => ?_)
    obtain ⟨hg9, hw⟩ := hw
    replace hg9 := hg9.symm
    subst hg9
    rcases hw with ⟨b_13, rfl⟩ | ⟨b_13, rfl⟩
    · refine g_if_ne (tgt := 34) C (by decide) dX8_change_25 (by decide) (fun _ => ?_) (fun c9 => absurd c9 (by decide))
      refine g_aload_n C dX8_change_34 rfl hl 0 rfl ?_
      refine g_cv C G (g_runV (As := []) (rest := []) (pos := 192) C G (c_X8_remember l κ B n ad g_1 ly 0 mk tx rl a0 wr s0 s1 rm f pa hn8 hc_3 hc_4 hc_8 (by omega)) (cwV 0 C.1.2.2.2.2 gX8_change_X8_remember rfl rfl rfl (by decide +kernel) ⟨Nat.le_of_ble_eq_true rfl, Nat.le_of_ble_eq_true rfl⟩) (by omega) hc_3 (T := TX8) (N := 17) rfl rfl hl rfl (Nat.le_of_ble_eq_true rfl) dX8_change_35 ⟨Nat.le_of_ble_eq_true rfl, Nat.le_of_ble_eq_true rfl⟩) (fun g_15 H locs hw9 G => ?_)
      obtain ⟨hc_16, hc_17, hf_18⟩ := hw9
      have hc_19 : g_15 193 = aI κ 42 f := (hf_18 193 (by decide) (by decide)).trans hc_4
      have hc_20 : g_15 194 = aI κ 28896 M9 := (hf_18 194 (by decide) (by decide)).trans hc_5
      have hc_21 : g_15 195 = aI κ 100 X9 := (hf_18 195 (by decide) (by decide)).trans hc_6
      have hc_22 : g_15 196 = aI κ 42 q9 := (hf_18 196 (by decide) (by decide)).trans hc_7
      have hc_23 : g_15 198 = aI κ 43 be := (hf_18 198 (by decide) (by decide)).trans hc_9
      have hc_24 : g_15 199 = aI κ 86 sv := (hf_18 199 (by decide) (by decide)).trans hc_10
      refine g_aload_n C dX8_change_38 rfl hl 0 rfl ?_
      refine g_get C G (pos := 192) fX8_change_7 (by omega) hc_16 rfl dX8_change_39 ?_
      refine g_iconst (a := 4) C dX8_change_42 rfl ?_
      refine g_iload_n C dX8_change_43 rfl hl 1 rfl ?_
      refine g_imul C dX8_change_44 ?_
      refine g_iconst (a := 1) C dX8_change_45 rfl ?_
      refine g_iadd C dX8_change_46 ?_
      refine g_iload_n C dX8_change_47 rfl hl 2 rfl ?_
      refine g_iadd C dX8_change_48 ?_
      refine g_iaload C G (pos := 193) (by omega) hc_19 (by omega) (by omega) (by omega) dX8_change_49 ?_
      refine lv_istore (lv' := [(4, .int (iz (f (((4 * li) + 1) + wh)))), (0, .ref (ad 192)), (1, .int (iz li)), (2, .int (iz wh)), (3, .int (iz x9))]) C.1.1 C.1.2.1 dX8_change_50 hl (by decide) rfl (fun ls hl => ?_)
      refine g_aload_n C dX8_change_52 rfl hl 1 rfl ?_
      refine g_get C G (pos := 192) fX8_change_7 (by omega) hc_16 rfl dX8_change_53 ?_
      refine g_iconst (a := 4) C dX8_change_56 rfl ?_
      refine g_iload_n C dX8_change_57 rfl hl 2 rfl ?_
      refine g_imul C dX8_change_58 ?_
      refine g_iconst (a := 1) C dX8_change_59 rfl ?_
      refine g_iadd C dX8_change_60 ?_
      refine g_iload_n C dX8_change_61 rfl hl 3 rfl ?_
      refine g_iadd C dX8_change_62 ?_
      refine g_iload_n C dX8_change_63 rfl hl 4 rfl ?_
      refine g_iastore C G (pos := 193) (by omega) hc_19 (by omega) (by omega) (by omega) dX8_change_64 (fun H locs G => ?_)
      obtain ⟨g_25, hg_26⟩ : ∃ g9, g9 = va_up g_15 193 (aI κ 42 (vu f (((4 * li) + 1) + wh) x9)) := ⟨_, rfl⟩
      rw [← hg_26] at G
      have hc_27 : g_25 193 = aI κ 42 (vu f (((4 * li) + 1) + wh) x9) := by rw [hg_26]; exact gu_self _ _ _
      have hc_28 : g_25 194 = aI κ 28896 M9 := by rw [hg_26, gu_ne (by decide)]; exact hc_20
      have hc_29 : g_25 195 = aI κ 100 X9 := by rw [hg_26, gu_ne (by decide)]; exact hc_21
      have hc_30 : g_25 196 = aI κ 42 q9 := by rw [hg_26, gu_ne (by decide)]; exact hc_22
      have hc_31 : g_25 198 = aI κ 43 be := by rw [hg_26, gu_ne (by decide)]; exact hc_23
      have hc_32 : g_25 199 = aI κ 86 sv := by rw [hg_26, gu_ne (by decide)]; exact hc_24
      have hc_33 : g_25 192 = .inr (8, [.ref (ad 193), .int (iz ly), .int (iz 0), .ref (ad 194), .int (iz mk), .ref (ad 195), .int (iz tx), .ref (ad 196), .int (iz rl), .int (iz a0), .int (iz wr), .int (iz s0), .int (iz s1), .ref (ad 197), .int (iz (remC rm)), .ref (ad 198), .ref (ad 199)]) := by rw [hg_26, gu_ne (by decide)]; exact hc_16
      have hc_34 : g_25 197 = aI κ 602 (rmF pa rm ly f) := by rw [hg_26, gu_ne (by decide)]; exact hc_17
      refine g_iload C dX8_change_65 hl 0 rfl ?_
      refine g_iret C G hr hlk (Nat.le_of_ble_eq_true rfl) (Nat.le_of_ble_eq_true rfl) dX8_change_67 ?_
      exact ⟨Or.inr (Or.inr (⟨⟨⟨by omega, b_13⟩, rfl⟩, ⟨_, _, _, _, _, _, _, hc_33, hc_27, hc_28, hc_29, hc_30, hc_34, hc_31, hc_32, by omega, hMr, hinq⟩⟩)), fun q hq => (((congrFun hg_26 q).trans (gu_ne (by omega))).trans ((hf_18 q (by omega) (by omega)).trans ((congrFun hg_2 q).trans (gu_ne (by omega)))))⟩
    · refine g_if_ne (tgt := 34) C (by decide) dX8_change_25 (by decide) (fun c9 => absurd c9 (by decide)) (fun _ => ?_)
      refine g_aload_n C dX8_change_28 rfl hl 0 rfl ?_
      refine g_iconst (a := 2) C dX8_change_29 rfl ?_
      refine g_ci C G (g_runV (As := [.int (iz 2)]) (rest := []) (pos := 192) C G (c_X8_refused l κ B n ad g_1 ly 0 mk tx rl a0 wr s0 s1 rm 2 hn8 hc_3) (cwV 1 C.1.2.2.2.2 gX8_change_X8_refused rfl rfl rfl (by decide +kernel) ⟨Nat.le_of_ble_eq_true rfl, Nat.le_of_ble_eq_true rfl⟩) (by omega) hc_3 (T := TX8) (N := 17) rfl rfl hl rfl (Nat.le_of_ble_eq_true rfl) dX8_change_30 ⟨Nat.le_of_ble_eq_true rfl, Nat.le_of_ble_eq_true rfl⟩) (fun z_35 g9 H locs hw G => ?_)
      obtain ⟨hw, h_36⟩ := hw
      subst hw
      obtain ⟨g_37, hg_38⟩ : ∃ g9, g9 = va_up g_1 192 (.inr (8, [.ref (ad 193), .int (iz ly), .int (iz 2), .ref (ad 194), .int (iz mk), .ref (ad 195), .int (iz tx), .ref (ad 196), .int (iz rl), .int (iz a0), .int (iz wr), .int (iz s0), .int (iz s1), .ref (ad 197), .int (iz rm), .ref (ad 198), .ref (ad 199)])) := ⟨_, rfl⟩
      rw [← hg_38] at G
      have hc_39 : g_37 192 = .inr (8, [.ref (ad 193), .int (iz ly), .int (iz 2), .ref (ad 194), .int (iz mk), .ref (ad 195), .int (iz tx), .ref (ad 196), .int (iz rl), .int (iz a0), .int (iz wr), .int (iz s0), .int (iz s1), .ref (ad 197), .int (iz rm), .ref (ad 198), .ref (ad 199)]) := by rw [hg_38]; exact gu_self _ _ _
      have hc_40 : g_37 193 = aI κ 42 f := by rw [hg_38, gu_ne (by decide)]; exact hc_4
      have hc_41 : g_37 194 = aI κ 28896 M9 := by rw [hg_38, gu_ne (by decide)]; exact hc_5
      have hc_42 : g_37 195 = aI κ 100 X9 := by rw [hg_38, gu_ne (by decide)]; exact hc_6
      have hc_43 : g_37 196 = aI κ 42 q9 := by rw [hg_38, gu_ne (by decide)]; exact hc_7
      have hc_44 : g_37 197 = aI κ 602 pa := by rw [hg_38, gu_ne (by decide)]; exact hc_8
      have hc_45 : g_37 198 = aI κ 43 be := by rw [hg_38, gu_ne (by decide)]; exact hc_9
      have hc_46 : g_37 199 = aI κ 86 sv := by rw [hg_38, gu_ne (by decide)]; exact hc_10
      refine g_iret C G hr hlk (Nat.le_of_ble_eq_true rfl) (Nat.le_of_ble_eq_true rfl) dX8_change_33 ?_
      exact ⟨Or.inr (Or.inl ⟨⟨by omega, b_13⟩, ⟨_, _, _, _, _, _, _, hc_39, hc_40, hc_41, hc_42, hc_43, hc_44, hc_45, hc_46, by omega, hMr, hinq⟩⟩), fun q hq => (((congrFun hg_38 q).trans (gu_ne (by omega))).trans ((congrFun hg_2 q).trans (gu_ne (by omega))))⟩
  · refine g_if_ne (tgt := 19) C (by decide) dX8_change_10 (by decide) (fun c9 => absurd c9 (by decide)) (fun _ => ?_)
    refine g_aload_n C dX8_change_13 rfl hl 0 rfl ?_
    refine g_iconst (a := 1) C dX8_change_14 rfl ?_
    refine g_ci C G (g_runV (As := [.int (iz 1)]) (rest := []) (pos := 192) C G (c_X8_refused l κ B n ad g_1 ly 0 mk tx rl a0 wr s0 s1 rm 1 hn8 hc_3) (cwV 1 C.1.2.2.2.2 gX8_change_X8_refused rfl rfl rfl (by decide +kernel) ⟨Nat.le_of_ble_eq_true rfl, Nat.le_of_ble_eq_true rfl⟩) (by omega) hc_3 (T := TX8) (N := 17) rfl rfl hl rfl (Nat.le_of_ble_eq_true rfl) dX8_change_15 ⟨Nat.le_of_ble_eq_true rfl, Nat.le_of_ble_eq_true rfl⟩) (fun z_47 g9 H locs hw G => ?_)
    obtain ⟨hw, h_48⟩ := hw
    subst hw
    obtain ⟨g_49, hg_50⟩ : ∃ g9, g9 = va_up g_1 192 (.inr (8, [.ref (ad 193), .int (iz ly), .int (iz 1), .ref (ad 194), .int (iz mk), .ref (ad 195), .int (iz tx), .ref (ad 196), .int (iz rl), .int (iz a0), .int (iz wr), .int (iz s0), .int (iz s1), .ref (ad 197), .int (iz rm), .ref (ad 198), .ref (ad 199)])) := ⟨_, rfl⟩
    rw [← hg_50] at G
    have hc_51 : g_49 192 = .inr (8, [.ref (ad 193), .int (iz ly), .int (iz 1), .ref (ad 194), .int (iz mk), .ref (ad 195), .int (iz tx), .ref (ad 196), .int (iz rl), .int (iz a0), .int (iz wr), .int (iz s0), .int (iz s1), .ref (ad 197), .int (iz rm), .ref (ad 198), .ref (ad 199)]) := by rw [hg_50]; exact gu_self _ _ _
    have hc_52 : g_49 193 = aI κ 42 f := by rw [hg_50, gu_ne (by decide)]; exact hc_4
    have hc_53 : g_49 194 = aI κ 28896 M9 := by rw [hg_50, gu_ne (by decide)]; exact hc_5
    have hc_54 : g_49 195 = aI κ 100 X9 := by rw [hg_50, gu_ne (by decide)]; exact hc_6
    have hc_55 : g_49 196 = aI κ 42 q9 := by rw [hg_50, gu_ne (by decide)]; exact hc_7
    have hc_56 : g_49 197 = aI κ 602 pa := by rw [hg_50, gu_ne (by decide)]; exact hc_8
    have hc_57 : g_49 198 = aI κ 43 be := by rw [hg_50, gu_ne (by decide)]; exact hc_9
    have hc_58 : g_49 199 = aI κ 86 sv := by rw [hg_50, gu_ne (by decide)]; exact hc_10
    refine g_iret C G hr hlk (Nat.le_of_ble_eq_true rfl) (Nat.le_of_ble_eq_true rfl) dX8_change_18 ?_
    exact ⟨Or.inl ⟨by omega, ⟨_, _, _, _, _, _, _, hc_51, hc_52, hc_53, hc_54, hc_55, hc_56, hc_57, hc_58, by omega, hMr, hinq⟩⟩, fun q hq => (((congrFun hg_50 q).trans (gu_ne (by omega))).trans ((congrFun hg_2 q).trans (gu_ne (by omega))))⟩
theorem fwX8_remove_31 : gFldW wsX8_remove RX8 31 8 2 .int false := ⟨RX8, TX8, 17, tyX8, rfl, by decide, by decide +kernel, by decide +kernel, tyX8_ok, nmX8, rfl, by decide +kernel, by decide +kernel⟩
set_option maxHeartbeats 4000000 in
set_option maxRecDepth 100000 in
theorem c_X8_remove (l : Launch) (κ : gKap) (B n : Nat) (ad : Nat → Nat) (g : Nat → va_E) (ly : Int) (th : Int) (mk : Int) (tx : Int) (rl : Int) (a0 : Int) (wr : Int) (s0 : Int) (s1 : Int) (rm : Int) (f : Int → Int) (M9 : Int → Int) (X9 : Int → Int) (q9 : Int → Int) (pa : Int → Int) (be : Int → Int) (sv : Int → Int) (li : Int) (hn8 : 200 ≤ n) (hM : g 192 = oM ad ly th mk tx rl a0 wr s0 s1 rm) (hN : g 193 = aI κ 42 f) (hK : g 194 = aI κ 28896 M9) (hT : g 195 = aI κ 100 X9) (hRd : g 196 = aI κ 42 q9) (hPa : g 197 = aI κ 602 pa) (hBe : g 198 = aI κ 43 be) (hSv : g 199 = aI κ 86 sv) (hok : okPl ly f) (hmk : 0 ≤ mk ∧ mk ≤ 800000000) (hMr : ∀ i, 0 ≤ i → i < 28896 → 0 ≤ M9 i ∧ M9 i ≤ mk) (hinq : inV q9) (hrm : 0 ≤ rm ∧ rm ≤ 14) (hli : inI li) : Met l yX8_remove wsX8_remove ({ frames := 2, cells := 0, slots := 0, locals := 46 }) (gPre κ B n ad g [.ref (ad 192), .int (iz li)]) (gQi κ B n ad (fun z g' => (((¬ (0 ≤ li ∧ li < ly)) ∧ jkM κ ad g' ly 1 tx s0 s1 rm (mk + 1000) f X9 pa sv) ∨ (((0 ≤ li ∧ li < ly) ∧ z = ly - 1) ∧ jkM κ ad g' (ly - 1) 0 tx s0 s1 (remC rm) (mk + 1000) (dpF f li) X9 (rmF pa rm ly f) sv)) ∧ frM g g')) 0 0 (gFree B) := by
  refine g_met RX8 (cc := cX8_remove) (maxL := 2) (ret := (some .int)) (by decide) rfl rfl (Nat.le_of_ble_eq_true rfl) ?_
  intro p e s m args below meth c C hr hlk hnm G ls hl
  have hl : lv_has ls 2 [(0, .ref (ad 192)), (1, .int (iz li))] := hl
  obtain ⟨hn6, hv0, hv25, hlay, hsee⟩ := id hok
  refine g_aload_n C dX8_remove_0 rfl hl 0 rfl ?_
  refine g_iconst (a := 0) C dX8_remove_1 rfl ?_
  refine g_put C G (pos := 192) (fs' := [.ref (ad 193), .int (iz ly), .int (iz 0), .ref (ad 194), .int (iz mk), .ref (ad 195), .int (iz tx), .ref (ad 196), .int (iz rl), .int (iz a0), .int (iz wr), .int (iz s0), .int (iz s1), .ref (ad 197), .int (iz rm), .ref (ad 198), .ref (ad 199)]) fwX8_remove_31 (by omega) hM (Nat.le_of_ble_eq_true rfl) rfl rfl rfl dX8_remove_2 (fun H locs G => ?_)
  obtain ⟨g_1, hg_2⟩ : ∃ g9, g9 = va_up g 192 (.inr (8, [.ref (ad 193), .int (iz ly), .int (iz 0), .ref (ad 194), .int (iz mk), .ref (ad 195), .int (iz tx), .ref (ad 196), .int (iz rl), .int (iz a0), .int (iz wr), .int (iz s0), .int (iz s1), .ref (ad 197), .int (iz rm), .ref (ad 198), .ref (ad 199)])) := ⟨_, rfl⟩
  rw [← hg_2] at G
  have hc_3 : g_1 192 = .inr (8, [.ref (ad 193), .int (iz ly), .int (iz 0), .ref (ad 194), .int (iz mk), .ref (ad 195), .int (iz tx), .ref (ad 196), .int (iz rl), .int (iz a0), .int (iz wr), .int (iz s0), .int (iz s1), .ref (ad 197), .int (iz rm), .ref (ad 198), .ref (ad 199)]) := by rw [hg_2]; exact gu_self _ _ _
  have hc_4 : g_1 193 = aI κ 42 f := by rw [hg_2, gu_ne (by decide)]; exact hN
  have hc_5 : g_1 194 = aI κ 28896 M9 := by rw [hg_2, gu_ne (by decide)]; exact hK
  have hc_6 : g_1 195 = aI κ 100 X9 := by rw [hg_2, gu_ne (by decide)]; exact hT
  have hc_7 : g_1 196 = aI κ 42 q9 := by rw [hg_2, gu_ne (by decide)]; exact hRd
  have hc_8 : g_1 197 = aI κ 602 pa := by rw [hg_2, gu_ne (by decide)]; exact hPa
  have hc_9 : g_1 198 = aI κ 43 be := by rw [hg_2, gu_ne (by decide)]; exact hBe
  have hc_10 : g_1 199 = aI κ 86 sv := by rw [hg_2, gu_ne (by decide)]; exact hSv
  refine g_aload_n C dX8_remove_5 rfl hl 0 rfl ?_
  refine g_iload_n C dX8_remove_6 rfl hl 1 rfl ?_
  refine g_ci C G (g_runV (As := [.int (iz li)]) (rest := []) (pos := 192) C G (c_X8_isLayer l κ B n ad g_1 ly 0 mk tx rl a0 wr s0 s1 rm li hn8 hc_3 hli (by omega)) (cwV 1 C.1.2.2.2.2 gX8_remove_X8_isLayer rfl rfl rfl (by decide +kernel) ⟨Nat.le_of_ble_eq_true rfl, Nat.le_of_ble_eq_true rfl⟩) (by omega) hc_3 (T := TX8) (N := 17) rfl rfl hl rfl (Nat.le_of_ble_eq_true rfl) dX8_remove_7 ⟨Nat.le_of_ble_eq_true rfl, Nat.le_of_ble_eq_true rfl⟩) (fun z_12 g9 H locs hw G => ?_)
  obtain ⟨hg9, hw⟩ := hw
  replace hg9 := hg9.symm
  subst hg9
  rcases hw with ⟨b_11, rfl⟩ | ⟨b_11, rfl⟩
  · refine g_if_ne (tgt := 19) C (by decide) dX8_remove_10 (by decide) (fun _ => ?_) (fun c9 => absurd c9 (by decide))
    refine g_aload_n C dX8_remove_19 rfl hl 0 rfl ?_
    refine g_cv C G (g_runV (As := []) (rest := []) (pos := 192) C G (c_X8_remember l κ B n ad g_1 ly 0 mk tx rl a0 wr s0 s1 rm f pa hn8 hc_3 hc_4 hc_8 (by omega)) (cwV 0 C.1.2.2.2.2 gX8_remove_X8_remember rfl rfl rfl (by decide +kernel) ⟨Nat.le_of_ble_eq_true rfl, Nat.le_of_ble_eq_true rfl⟩) (by omega) hc_3 (T := TX8) (N := 17) rfl rfl hl rfl (Nat.le_of_ble_eq_true rfl) dX8_remove_20 ⟨Nat.le_of_ble_eq_true rfl, Nat.le_of_ble_eq_true rfl⟩) (fun g_13 H locs hw9 G => ?_)
    obtain ⟨hc_14, hc_15, hf_16⟩ := hw9
    have hc_17 : g_13 193 = aI κ 42 f := (hf_16 193 (by decide) (by decide)).trans hc_4
    have hc_18 : g_13 194 = aI κ 28896 M9 := (hf_16 194 (by decide) (by decide)).trans hc_5
    have hc_19 : g_13 195 = aI κ 100 X9 := (hf_16 195 (by decide) (by decide)).trans hc_6
    have hc_20 : g_13 196 = aI κ 42 q9 := (hf_16 196 (by decide) (by decide)).trans hc_7
    have hc_21 : g_13 198 = aI κ 43 be := (hf_16 198 (by decide) (by decide)).trans hc_9
    have hc_22 : g_13 199 = aI κ 86 sv := (hf_16 199 (by decide) (by decide)).trans hc_10
    refine g_aload_n C dX8_remove_23 rfl hl 0 rfl ?_
    refine g_iload_n C dX8_remove_24 rfl hl 1 rfl ?_
    refine g_ci C G (g_runV (As := [.int (iz li)]) (rest := []) (pos := 192) C G (c_X8_drop l κ B n ad g_13 ly 0 mk tx rl a0 wr s0 s1 (remC rm) f li hn8 hc_14 hc_17 (by omega) (by omega)) (cwV 1 C.1.2.2.2.2 gX8_remove_X8_drop rfl rfl rfl (by decide +kernel) ⟨Nat.le_of_ble_eq_true rfl, Nat.le_of_ble_eq_true rfl⟩) (by omega) hc_14 (T := TX8) (N := 17) rfl rfl hl rfl (Nat.le_of_ble_eq_true rfl) dX8_remove_25 ⟨Nat.le_of_ble_eq_true rfl, Nat.le_of_ble_eq_true rfl⟩) (fun z_27 g_23 H locs hw9 G => ?_)
    obtain ⟨hz_28, hc_24, hc_25, hf_26⟩ := hw9
    have hc_29 : g_23 194 = aI κ 28896 M9 := (hf_26 194 (by decide) (by decide)).trans hc_18
    have hc_30 : g_23 195 = aI κ 100 X9 := (hf_26 195 (by decide) (by decide)).trans hc_19
    have hc_31 : g_23 196 = aI κ 42 q9 := (hf_26 196 (by decide) (by decide)).trans hc_20
    have hc_32 : g_23 198 = aI κ 43 be := (hf_26 198 (by decide) (by decide)).trans hc_21
    have hc_33 : g_23 199 = aI κ 86 sv := (hf_26 199 (by decide) (by decide)).trans hc_22
    have hc_34 : g_23 197 = aI κ 602 (rmF pa rm ly f) := (hf_26 197 (by decide) (by decide)).trans hc_15
    refine g_iret C G hr hlk (Nat.le_of_ble_eq_true rfl) (Nat.le_of_ble_eq_true rfl) dX8_remove_28 ?_
    exact ⟨Or.inr (⟨⟨by omega, hz_28⟩, ⟨_, _, _, _, _, _, _, hc_24, hc_25, hc_29, hc_30, hc_31, hc_34, hc_32, hc_33, by omega, hMr, hinq⟩⟩), fun q hq => ((hf_26 q (by omega) (by omega)).trans ((hf_16 q (by omega) (by omega)).trans ((congrFun hg_2 q).trans (gu_ne (by omega)))))⟩
  · refine g_if_ne (tgt := 19) C (by decide) dX8_remove_10 (by decide) (fun c9 => absurd c9 (by decide)) (fun _ => ?_)
    refine g_aload_n C dX8_remove_13 rfl hl 0 rfl ?_
    refine g_iconst (a := 1) C dX8_remove_14 rfl ?_
    refine g_ci C G (g_runV (As := [.int (iz 1)]) (rest := []) (pos := 192) C G (c_X8_refused l κ B n ad g_1 ly 0 mk tx rl a0 wr s0 s1 rm 1 hn8 hc_3) (cwV 1 C.1.2.2.2.2 gX8_remove_X8_refused rfl rfl rfl (by decide +kernel) ⟨Nat.le_of_ble_eq_true rfl, Nat.le_of_ble_eq_true rfl⟩) (by omega) hc_3 (T := TX8) (N := 17) rfl rfl hl rfl (Nat.le_of_ble_eq_true rfl) dX8_remove_15 ⟨Nat.le_of_ble_eq_true rfl, Nat.le_of_ble_eq_true rfl⟩) (fun z_35 g9 H locs hw G => ?_)
    obtain ⟨hw, h_36⟩ := hw
    subst hw
    obtain ⟨g_37, hg_38⟩ : ∃ g9, g9 = va_up g_1 192 (.inr (8, [.ref (ad 193), .int (iz ly), .int (iz 1), .ref (ad 194), .int (iz mk), .ref (ad 195), .int (iz tx), .ref (ad 196), .int (iz rl), .int (iz a0), .int (iz wr), .int (iz s0), .int (iz s1), .ref (ad 197), .int (iz rm), .ref (ad 198), .ref (ad 199)])) := ⟨_, rfl⟩
    rw [← hg_38] at G
    have hc_39 : g_37 192 = .inr (8, [.ref (ad 193), .int (iz ly), .int (iz 1), .ref (ad 194), .int (iz mk), .ref (ad 195), .int (iz tx), .ref (ad 196), .int (iz rl), .int (iz a0), .int (iz wr), .int (iz s0), .int (iz s1), .ref (ad 197), .int (iz rm), .ref (ad 198), .ref (ad 199)]) := by rw [hg_38]; exact gu_self _ _ _
    have hc_40 : g_37 193 = aI κ 42 f := by rw [hg_38, gu_ne (by decide)]; exact hc_4
    have hc_41 : g_37 194 = aI κ 28896 M9 := by rw [hg_38, gu_ne (by decide)]; exact hc_5
    have hc_42 : g_37 195 = aI κ 100 X9 := by rw [hg_38, gu_ne (by decide)]; exact hc_6
    have hc_43 : g_37 196 = aI κ 42 q9 := by rw [hg_38, gu_ne (by decide)]; exact hc_7
    have hc_44 : g_37 197 = aI κ 602 pa := by rw [hg_38, gu_ne (by decide)]; exact hc_8
    have hc_45 : g_37 198 = aI κ 43 be := by rw [hg_38, gu_ne (by decide)]; exact hc_9
    have hc_46 : g_37 199 = aI κ 86 sv := by rw [hg_38, gu_ne (by decide)]; exact hc_10
    refine g_iret C G hr hlk (Nat.le_of_ble_eq_true rfl) (Nat.le_of_ble_eq_true rfl) dX8_remove_18 ?_
    exact ⟨Or.inl ⟨by omega, ⟨_, _, _, _, _, _, _, hc_39, hc_40, hc_41, hc_42, hc_43, hc_44, hc_45, hc_46, by omega, hMr, hinq⟩⟩, fun q hq => (((congrFun hg_38 q).trans (gu_ne (by omega))).trans ((congrFun hg_2 q).trans (gu_ne (by omega))))⟩
theorem fwX8_forget_31 : gFldW wsX8_forget RX8 31 8 2 .int false := ⟨RX8, TX8, 17, tyX8, rfl, by decide, by decide +kernel, by decide +kernel, tyX8_ok, nmX8, rfl, by decide +kernel, by decide +kernel⟩
theorem fX8_forget_7 : gFld wsX8_forget RX8 7 8 0 := ⟨RX8, TX8, 17, rfl, by decide, by decide +kernel, by decide +kernel⟩
set_option maxHeartbeats 4000000 in
set_option maxRecDepth 100000 in
theorem c_X8_forget (l : Launch) (κ : gKap) (B n : Nat) (ad : Nat → Nat) (g : Nat → va_E) (ly : Int) (th : Int) (mk : Int) (tx : Int) (rl : Int) (a0 : Int) (wr : Int) (s0 : Int) (s1 : Int) (rm : Int) (f : Int → Int) (M9 : Int → Int) (X9 : Int → Int) (q9 : Int → Int) (pa : Int → Int) (be : Int → Int) (sv : Int → Int) (hn8 : 200 ≤ n) (hM : g 192 = oM ad ly th mk tx rl a0 wr s0 s1 rm) (hN : g 193 = aI κ 42 f) (hK : g 194 = aI κ 28896 M9) (hT : g 195 = aI κ 100 X9) (hRd : g 196 = aI κ 42 q9) (hPa : g 197 = aI κ 602 pa) (hBe : g 198 = aI κ 43 be) (hSv : g 199 = aI κ 86 sv) (hok : okPl ly f) (hmk : 0 ≤ mk ∧ mk ≤ 800000000) (hMr : ∀ i, 0 ≤ i → i < 28896 → 0 ≤ M9 i ∧ M9 i ≤ mk) (hinq : inV q9) (hrm : 0 ≤ rm ∧ rm ≤ 14) : Met l yX8_forget wsX8_forget ({ frames := 2, cells := 0, slots := 0, locals := 44 }) (gPre κ B n ad g [.ref (ad 192)]) (gQi κ B n ad (fun z g' => (((z = f 25) ∧ jkM κ ad g' ly 0 tx s0 s1 (remC rm) (mk + 1000) (vu f 25 0) X9 (rmF pa rm ly f) sv)) ∧ frM g g')) 0 0 (gFree B) := by
  refine g_met RX8 (cc := cX8_forget) (maxL := 2) (ret := (some .int)) (by decide) rfl rfl (Nat.le_of_ble_eq_true rfl) ?_
  intro p e s m args below meth c C hr hlk hnm G ls hl
  have hl : lv_has ls 2 [(0, .ref (ad 192))] := hl
  obtain ⟨hn6, hv0, hv25, hlay, hsee⟩ := id hok
  refine g_aload_n C dX8_forget_0 rfl hl 0 rfl ?_
  refine g_iconst (a := 0) C dX8_forget_1 rfl ?_
  refine g_put C G (pos := 192) (fs' := [.ref (ad 193), .int (iz ly), .int (iz 0), .ref (ad 194), .int (iz mk), .ref (ad 195), .int (iz tx), .ref (ad 196), .int (iz rl), .int (iz a0), .int (iz wr), .int (iz s0), .int (iz s1), .ref (ad 197), .int (iz rm), .ref (ad 198), .ref (ad 199)]) fwX8_forget_31 (by omega) hM (Nat.le_of_ble_eq_true rfl) rfl rfl rfl dX8_forget_2 (fun H locs G => ?_)
  obtain ⟨g_1, hg_2⟩ : ∃ g9, g9 = va_up g 192 (.inr (8, [.ref (ad 193), .int (iz ly), .int (iz 0), .ref (ad 194), .int (iz mk), .ref (ad 195), .int (iz tx), .ref (ad 196), .int (iz rl), .int (iz a0), .int (iz wr), .int (iz s0), .int (iz s1), .ref (ad 197), .int (iz rm), .ref (ad 198), .ref (ad 199)])) := ⟨_, rfl⟩
  rw [← hg_2] at G
  have hc_3 : g_1 192 = .inr (8, [.ref (ad 193), .int (iz ly), .int (iz 0), .ref (ad 194), .int (iz mk), .ref (ad 195), .int (iz tx), .ref (ad 196), .int (iz rl), .int (iz a0), .int (iz wr), .int (iz s0), .int (iz s1), .ref (ad 197), .int (iz rm), .ref (ad 198), .ref (ad 199)]) := by rw [hg_2]; exact gu_self _ _ _
  have hc_4 : g_1 193 = aI κ 42 f := by rw [hg_2, gu_ne (by decide)]; exact hN
  have hc_5 : g_1 194 = aI κ 28896 M9 := by rw [hg_2, gu_ne (by decide)]; exact hK
  have hc_6 : g_1 195 = aI κ 100 X9 := by rw [hg_2, gu_ne (by decide)]; exact hT
  have hc_7 : g_1 196 = aI κ 42 q9 := by rw [hg_2, gu_ne (by decide)]; exact hRd
  have hc_8 : g_1 197 = aI κ 602 pa := by rw [hg_2, gu_ne (by decide)]; exact hPa
  have hc_9 : g_1 198 = aI κ 43 be := by rw [hg_2, gu_ne (by decide)]; exact hBe
  have hc_10 : g_1 199 = aI κ 86 sv := by rw [hg_2, gu_ne (by decide)]; exact hSv
  refine g_aload_n C dX8_forget_5 rfl hl 0 rfl ?_
  refine g_cv C G (g_runV (As := []) (rest := []) (pos := 192) C G (c_X8_remember l κ B n ad g_1 ly 0 mk tx rl a0 wr s0 s1 rm f pa hn8 hc_3 hc_4 hc_8 (by omega)) (cwV 0 C.1.2.2.2.2 gX8_forget_X8_remember rfl rfl rfl (by decide +kernel) ⟨Nat.le_of_ble_eq_true rfl, Nat.le_of_ble_eq_true rfl⟩) (by omega) hc_3 (T := TX8) (N := 17) rfl rfl hl rfl (Nat.le_of_ble_eq_true rfl) dX8_forget_6 ⟨Nat.le_of_ble_eq_true rfl, Nat.le_of_ble_eq_true rfl⟩) (fun g_11 H locs hw9 G => ?_)
  obtain ⟨hc_12, hc_13, hf_14⟩ := hw9
  have hc_15 : g_11 193 = aI κ 42 f := (hf_14 193 (by decide) (by decide)).trans hc_4
  have hc_16 : g_11 194 = aI κ 28896 M9 := (hf_14 194 (by decide) (by decide)).trans hc_5
  have hc_17 : g_11 195 = aI κ 100 X9 := (hf_14 195 (by decide) (by decide)).trans hc_6
  have hc_18 : g_11 196 = aI κ 42 q9 := (hf_14 196 (by decide) (by decide)).trans hc_7
  have hc_19 : g_11 198 = aI κ 43 be := (hf_14 198 (by decide) (by decide)).trans hc_9
  have hc_20 : g_11 199 = aI κ 86 sv := (hf_14 199 (by decide) (by decide)).trans hc_10
  refine g_aload_n C dX8_forget_9 rfl hl 0 rfl ?_
  refine g_get C G (pos := 192) fX8_forget_7 (by omega) hc_12 rfl dX8_forget_10 ?_
  refine g_bipush (a := 25) C dX8_forget_13 (by decide) ?_
  refine g_iaload C G (pos := 193) (by omega) hc_15 (by omega) (by omega) (by omega) dX8_forget_15 ?_
  refine lv_istore_n (lv' := [(1, .int (iz (f 25))), (0, .ref (ad 192))]) C.1.1 C.1.2.1 dX8_forget_16 rfl hl (by decide) rfl (fun ls hl => ?_)
  refine g_aload_n C dX8_forget_17 rfl hl 1 rfl ?_
  refine g_get C G (pos := 192) fX8_forget_7 (by omega) hc_12 rfl dX8_forget_18 ?_
  refine g_bipush (a := 25) C dX8_forget_21 (by decide) ?_
  refine g_iconst (a := 0) C dX8_forget_23 rfl ?_
  refine g_iastore C G (pos := 193) (by omega) hc_15 (by omega) (by omega) (by omega) dX8_forget_24 (fun H locs G => ?_)
  obtain ⟨g_21, hg_22⟩ : ∃ g9, g9 = va_up g_11 193 (aI κ 42 (vu f 25 0)) := ⟨_, rfl⟩
  rw [← hg_22] at G
  have hc_23 : g_21 193 = aI κ 42 (vu f 25 0) := by rw [hg_22]; exact gu_self _ _ _
  have hc_24 : g_21 194 = aI κ 28896 M9 := by rw [hg_22, gu_ne (by decide)]; exact hc_16
  have hc_25 : g_21 195 = aI κ 100 X9 := by rw [hg_22, gu_ne (by decide)]; exact hc_17
  have hc_26 : g_21 196 = aI κ 42 q9 := by rw [hg_22, gu_ne (by decide)]; exact hc_18
  have hc_27 : g_21 198 = aI κ 43 be := by rw [hg_22, gu_ne (by decide)]; exact hc_19
  have hc_28 : g_21 199 = aI κ 86 sv := by rw [hg_22, gu_ne (by decide)]; exact hc_20
  have hc_29 : g_21 192 = .inr (8, [.ref (ad 193), .int (iz ly), .int (iz 0), .ref (ad 194), .int (iz mk), .ref (ad 195), .int (iz tx), .ref (ad 196), .int (iz rl), .int (iz a0), .int (iz wr), .int (iz s0), .int (iz s1), .ref (ad 197), .int (iz (remC rm)), .ref (ad 198), .ref (ad 199)]) := by rw [hg_22, gu_ne (by decide)]; exact hc_12
  have hc_30 : g_21 197 = aI κ 602 (rmF pa rm ly f) := by rw [hg_22, gu_ne (by decide)]; exact hc_13
  refine g_iload_n C dX8_forget_25 rfl hl 0 rfl ?_
  refine g_iret C G hr hlk (Nat.le_of_ble_eq_true rfl) (Nat.le_of_ble_eq_true rfl) dX8_forget_26 ?_
  exact ⟨⟨rfl, ⟨_, _, _, _, _, _, _, hc_29, hc_23, hc_24, hc_25, hc_26, hc_30, hc_27, hc_28, by omega, hMr, hinq⟩⟩, fun q hq => (((congrFun hg_22 q).trans (gu_ne (by omega))).trans ((hf_14 q (by omega) (by omega)).trans ((congrFun hg_2 q).trans (gu_ne (by omega)))))⟩
theorem fwX8_see_31 : gFldW wsX8_see RX8 31 8 2 .int false := ⟨RX8, TX8, 17, tyX8, rfl, by decide, by decide +kernel, by decide +kernel, tyX8_ok, nmX8, rfl, by decide +kernel, by decide +kernel⟩
theorem fX8_see_7 : gFld wsX8_see RX8 7 8 0 := ⟨RX8, TX8, 17, rfl, by decide, by decide +kernel, by decide +kernel⟩
set_option maxHeartbeats 4000000 in
set_option maxRecDepth 100000 in
theorem c_X8_see (l : Launch) (κ : gKap) (B n : Nat) (ad : Nat → Nat) (g : Nat → va_E) (ly : Int) (th : Int) (mk : Int) (tx : Int) (rl : Int) (a0 : Int) (wr : Int) (s0 : Int) (s1 : Int) (rm : Int) (f : Int → Int) (M9 : Int → Int) (X9 : Int → Int) (q9 : Int → Int) (pa : Int → Int) (be : Int → Int) (sv : Int → Int) (an : Int) (ra : Int) (hn8 : 200 ≤ n) (hM : g 192 = oM ad ly th mk tx rl a0 wr s0 s1 rm) (hN : g 193 = aI κ 42 f) (hK : g 194 = aI κ 28896 M9) (hT : g 195 = aI κ 100 X9) (hRd : g 196 = aI κ 42 q9) (hPa : g 197 = aI κ 602 pa) (hBe : g 198 = aI κ 43 be) (hSv : g 199 = aI κ 86 sv) (hok : okPl ly f) (hmk : 0 ≤ mk ∧ mk ≤ 800000000) (hMr : ∀ i, 0 ≤ i → i < 28896 → 0 ≤ M9 i ∧ M9 i ≤ mk) (hinq : inV q9) (hrm : 0 ≤ rm ∧ rm ≤ 14) (han : inI an) (hra : inI ra) : Met l yX8_see wsX8_see ({ frames := 6, cells := 0, slots := 0, locals := 142 }) (gPre κ B n ad g [.ref (ad 192), .int (iz an), .int (iz ra)]) (gQi κ B n ad (fun z g' => (((¬ ((0 ≤ an ∧ an < f 0) ∧ 0 ≤ ra ∧ ra ≤ 300)) ∧ jkM κ ad g' ly 1 tx s0 s1 rm (mk + 1000) f X9 pa sv) ∨ ((((0 ≤ an ∧ an < f 0) ∧ 0 ≤ ra ∧ ra ≤ 300) ∧ z = fitN ly (ntv f an ra)) ∧ jkM κ ad g' ly 0 tx s0 s1 (remC rm) (mk + 1000) (ntv f an ra) X9 (rmF pa rm ly f) sv)) ∧ frM g g')) 0 0 (gFree B) := by
  refine g_met RX8 (cc := cX8_see) (maxL := 4) (ret := (some .int)) (by decide) rfl rfl (Nat.le_of_ble_eq_true rfl) ?_
  intro p e s m args below meth c C hr hlk hnm G ls hl
  have hl : lv_has ls 4 [(0, .ref (ad 192)), (1, .int (iz an)), (2, .int (iz ra))] := hl
  obtain ⟨hn6, hv0, hv25, hlay, hsee⟩ := id hok
  refine g_aload_n C dX8_see_0 rfl hl 0 rfl ?_
  refine g_iconst (a := 0) C dX8_see_1 rfl ?_
  refine g_put C G (pos := 192) (fs' := [.ref (ad 193), .int (iz ly), .int (iz 0), .ref (ad 194), .int (iz mk), .ref (ad 195), .int (iz tx), .ref (ad 196), .int (iz rl), .int (iz a0), .int (iz wr), .int (iz s0), .int (iz s1), .ref (ad 197), .int (iz rm), .ref (ad 198), .ref (ad 199)]) fwX8_see_31 (by omega) hM (Nat.le_of_ble_eq_true rfl) rfl rfl rfl dX8_see_2 (fun H locs G => ?_)
  obtain ⟨g_1, hg_2⟩ : ∃ g9, g9 = va_up g 192 (.inr (8, [.ref (ad 193), .int (iz ly), .int (iz 0), .ref (ad 194), .int (iz mk), .ref (ad 195), .int (iz tx), .ref (ad 196), .int (iz rl), .int (iz a0), .int (iz wr), .int (iz s0), .int (iz s1), .ref (ad 197), .int (iz rm), .ref (ad 198), .ref (ad 199)])) := ⟨_, rfl⟩
  rw [← hg_2] at G
  have hc_3 : g_1 192 = .inr (8, [.ref (ad 193), .int (iz ly), .int (iz 0), .ref (ad 194), .int (iz mk), .ref (ad 195), .int (iz tx), .ref (ad 196), .int (iz rl), .int (iz a0), .int (iz wr), .int (iz s0), .int (iz s1), .ref (ad 197), .int (iz rm), .ref (ad 198), .ref (ad 199)]) := by rw [hg_2]; exact gu_self _ _ _
  have hc_4 : g_1 193 = aI κ 42 f := by rw [hg_2, gu_ne (by decide)]; exact hN
  have hc_5 : g_1 194 = aI κ 28896 M9 := by rw [hg_2, gu_ne (by decide)]; exact hK
  have hc_6 : g_1 195 = aI κ 100 X9 := by rw [hg_2, gu_ne (by decide)]; exact hT
  have hc_7 : g_1 196 = aI κ 42 q9 := by rw [hg_2, gu_ne (by decide)]; exact hRd
  have hc_8 : g_1 197 = aI κ 602 pa := by rw [hg_2, gu_ne (by decide)]; exact hPa
  have hc_9 : g_1 198 = aI κ 43 be := by rw [hg_2, gu_ne (by decide)]; exact hBe
  have hc_10 : g_1 199 = aI κ 86 sv := by rw [hg_2, gu_ne (by decide)]; exact hSv
  refine g_aload_n C dX8_see_5 rfl hl 0 rfl ?_
  refine g_iload_n C dX8_see_6 rfl hl 1 rfl ?_
  refine g_ci C G (g_runV (As := [.int (iz an)]) (rest := []) (pos := 192) C G (c_X8_isAngle l κ B n ad g_1 ly 0 mk tx rl a0 wr s0 s1 rm f an hn8 hc_3 hc_4 hok han) (cwV 1 C.1.2.2.2.2 gX8_see_X8_isAngle rfl rfl rfl (by decide +kernel) ⟨Nat.le_of_ble_eq_true rfl, Nat.le_of_ble_eq_true rfl⟩) (by omega) hc_3 (T := TX8) (N := 17) rfl rfl hl rfl (Nat.le_of_ble_eq_true rfl) dX8_see_7 ⟨Nat.le_of_ble_eq_true rfl, Nat.le_of_ble_eq_true rfl⟩) (fun z_12 g9 H locs hw G => ?_)
  obtain ⟨hg9, hw⟩ := hw
  replace hg9 := hg9.symm
  subst hg9
  rcases hw with ⟨b_11, rfl⟩ | ⟨b_11, rfl⟩
  · refine g_if_eq (tgt := 25) C (by decide) dX8_see_10 (by decide) (fun c9 => absurd c9 (by decide)) (fun _ => ?_)
    refine g_iload_n C dX8_see_13 rfl hl 2 rfl ?_
    refine g_i2l C (by omega) dX8_see_14 ?_
    refine g_lconst (a := 0) C dX8_see_15 (by decide) ?_
    refine g_ldc2 (a := 300) C (by decide +kernel) dX8_see_16 ?_
    refine g_ci C G (g_runS (As := [.long (jz ra), .long (jz 0), .long (jz 300)]) (rest := []) C G (c_X8_in l κ B n ad g_1 ra 0 300 (by omega) (by omega) (by omega)) (va_cwS 3 C.1.2.2.2.2 gX8_see_X8_in rfl rfl rfl (by decide +kernel) ⟨Nat.le_of_ble_eq_true rfl, Nat.le_of_ble_eq_true rfl⟩) rfl hl rfl (Nat.le_of_ble_eq_true rfl) dX8_see_19 ⟨Nat.le_of_ble_eq_true rfl, Nat.le_of_ble_eq_true rfl⟩) (fun z_14 g9 H locs hw G => ?_)
    obtain ⟨hg9, hw⟩ := hw
    replace hg9 := hg9.symm
    subst hg9
    rcases hw with ⟨b_13, rfl⟩ | ⟨b_13, rfl⟩
    · refine g_if_ne (tgt := 31) C (by decide) dX8_see_22 (by decide) (fun _ => ?_) (fun c9 => absurd c9 (by decide))
      refine g_aload_n C dX8_see_31 rfl hl 0 rfl ?_
      refine g_cv C G (g_runV (As := []) (rest := []) (pos := 192) C G (c_X8_remember l κ B n ad g_1 ly 0 mk tx rl a0 wr s0 s1 rm f pa hn8 hc_3 hc_4 hc_8 (by omega)) (cwV 0 C.1.2.2.2.2 gX8_see_X8_remember rfl rfl rfl (by decide +kernel) ⟨Nat.le_of_ble_eq_true rfl, Nat.le_of_ble_eq_true rfl⟩) (by omega) hc_3 (T := TX8) (N := 17) rfl rfl hl rfl (Nat.le_of_ble_eq_true rfl) dX8_see_32 ⟨Nat.le_of_ble_eq_true rfl, Nat.le_of_ble_eq_true rfl⟩) (fun g_15 H locs hw9 G => ?_)
      obtain ⟨hc_16, hc_17, hf_18⟩ := hw9
      have hc_19 : g_15 193 = aI κ 42 f := (hf_18 193 (by decide) (by decide)).trans hc_4
      have hc_20 : g_15 194 = aI κ 28896 M9 := (hf_18 194 (by decide) (by decide)).trans hc_5
      have hc_21 : g_15 195 = aI κ 100 X9 := (hf_18 195 (by decide) (by decide)).trans hc_6
      have hc_22 : g_15 196 = aI κ 42 q9 := (hf_18 196 (by decide) (by decide)).trans hc_7
      have hc_23 : g_15 198 = aI κ 43 be := (hf_18 198 (by decide) (by decide)).trans hc_9
      have hc_24 : g_15 199 = aI κ 86 sv := (hf_18 199 (by decide) (by decide)).trans hc_10
      refine g_aload_n C dX8_see_35 rfl hl 0 rfl ?_
      refine g_get C G (pos := 192) fX8_see_7 (by omega) hc_16 rfl dX8_see_36 ?_
      refine g_bipush (a := 25) C dX8_see_39 (by decide) ?_
      refine g_iaload C G (pos := 193) (by omega) hc_19 (by omega) (by omega) (by omega) dX8_see_41 ?_
      refine g_bipush (a := 8) C dX8_see_42 (by decide) ?_
      refine g_icmp_ne (tgt := 87) C (by omega) (by decide) dX8_see_44 (by decide) (fun c_25 => ?_) (fun c_25 => ?_)
      · refine g_aload_n C dX8_see_87 rfl hl 0 rfl ?_
        refine g_get C G (pos := 192) fX8_see_7 (by omega) hc_16 rfl dX8_see_88 ?_
        refine g_bipush (a := 26) C dX8_see_91 (by decide) ?_
        refine g_iconst (a := 2) C dX8_see_93 rfl ?_
        refine g_aload_n C dX8_see_94 rfl hl 0 rfl ?_
        refine g_get C G (pos := 192) fX8_see_7 (by omega) hc_16 rfl dX8_see_95 ?_
        refine g_bipush (a := 25) C dX8_see_98 (by decide) ?_
        refine g_iaload C G (pos := 193) (by omega) hc_19 (by omega) (by omega) (by omega) dX8_see_100 ?_
        refine g_imul C dX8_see_101 ?_
        refine g_iadd C dX8_see_102 ?_
        refine g_iload_n C dX8_see_103 rfl hl 1 rfl ?_
        refine g_iastore C G (pos := 193) (by omega) hc_19 (by omega) (by omega) (by omega) dX8_see_104 (fun H locs G => ?_)
        obtain ⟨g_26, hg_27⟩ : ∃ g9, g9 = va_up g_15 193 (aI κ 42 (vu f (26 + (2 * (f 25))) an)) := ⟨_, rfl⟩
        rw [← hg_27] at G
        have hc_28 : g_26 193 = aI κ 42 (vu f (26 + (2 * (f 25))) an) := by rw [hg_27]; exact gu_self _ _ _
        have hc_29 : g_26 194 = aI κ 28896 M9 := by rw [hg_27, gu_ne (by decide)]; exact hc_20
        have hc_30 : g_26 195 = aI κ 100 X9 := by rw [hg_27, gu_ne (by decide)]; exact hc_21
        have hc_31 : g_26 196 = aI κ 42 q9 := by rw [hg_27, gu_ne (by decide)]; exact hc_22
        have hc_32 : g_26 198 = aI κ 43 be := by rw [hg_27, gu_ne (by decide)]; exact hc_23
        have hc_33 : g_26 199 = aI κ 86 sv := by rw [hg_27, gu_ne (by decide)]; exact hc_24
        have hc_34 : g_26 192 = .inr (8, [.ref (ad 193), .int (iz ly), .int (iz 0), .ref (ad 194), .int (iz mk), .ref (ad 195), .int (iz tx), .ref (ad 196), .int (iz rl), .int (iz a0), .int (iz wr), .int (iz s0), .int (iz s1), .ref (ad 197), .int (iz (remC rm)), .ref (ad 198), .ref (ad 199)]) := by rw [hg_27, gu_ne (by decide)]; exact hc_16
        have hc_35 : g_26 197 = aI κ 602 (rmF pa rm ly f) := by rw [hg_27, gu_ne (by decide)]; exact hc_17
        refine g_aload_n C dX8_see_105 rfl hl 0 rfl ?_
        refine g_get C G (pos := 192) fX8_see_7 (by omega) hc_34 rfl dX8_see_106 ?_
        refine g_bipush (a := 27) C dX8_see_109 (by decide) ?_
        refine g_iconst (a := 2) C dX8_see_111 rfl ?_
        refine g_aload_n C dX8_see_112 rfl hl 0 rfl ?_
        refine g_get C G (pos := 192) fX8_see_7 (by omega) hc_34 rfl dX8_see_113 ?_
        refine g_bipush (a := 25) C dX8_see_116 (by decide) ?_
        refine g_iaload C G (pos := 193) (by omega) hc_28 (by omega) (by omega) (by omega) dX8_see_118 ?_
        rw [show ((vu f (26 + (2 * (f 25))) an) 25 : Int) = f 25 from (by first | (rw [vu_ne (by omega)]; done) | (rw [vu_ne (by omega), vu_ne (by omega)]; done))]
        refine g_imul C dX8_see_119 ?_
        refine g_iadd C dX8_see_120 ?_
        refine g_iload_n C dX8_see_121 rfl hl 2 rfl ?_
        refine g_iastore C G (pos := 193) (by omega) hc_28 (by omega) (by omega) (by omega) dX8_see_122 (fun H locs G => ?_)
        obtain ⟨g_36, hg_37⟩ : ∃ g9, g9 = va_up g_26 193 (aI κ 42 (vu (vu f (26 + (2 * (f 25))) an) (27 + (2 * (f 25))) ra)) := ⟨_, rfl⟩
        rw [← hg_37] at G
        have hc_38 : g_36 193 = aI κ 42 (vu (vu f (26 + (2 * (f 25))) an) (27 + (2 * (f 25))) ra) := by rw [hg_37]; exact gu_self _ _ _
        have hc_39 : g_36 194 = aI κ 28896 M9 := by rw [hg_37, gu_ne (by decide)]; exact hc_29
        have hc_40 : g_36 195 = aI κ 100 X9 := by rw [hg_37, gu_ne (by decide)]; exact hc_30
        have hc_41 : g_36 196 = aI κ 42 q9 := by rw [hg_37, gu_ne (by decide)]; exact hc_31
        have hc_42 : g_36 198 = aI κ 43 be := by rw [hg_37, gu_ne (by decide)]; exact hc_32
        have hc_43 : g_36 199 = aI κ 86 sv := by rw [hg_37, gu_ne (by decide)]; exact hc_33
        have hc_44 : g_36 192 = .inr (8, [.ref (ad 193), .int (iz ly), .int (iz 0), .ref (ad 194), .int (iz mk), .ref (ad 195), .int (iz tx), .ref (ad 196), .int (iz rl), .int (iz a0), .int (iz wr), .int (iz s0), .int (iz s1), .ref (ad 197), .int (iz (remC rm)), .ref (ad 198), .ref (ad 199)]) := by rw [hg_37, gu_ne (by decide)]; exact hc_34
        have hc_45 : g_36 197 = aI κ 602 (rmF pa rm ly f) := by rw [hg_37, gu_ne (by decide)]; exact hc_35
        refine g_aload_n C dX8_see_123 rfl hl 0 rfl ?_
        refine g_get C G (pos := 192) fX8_see_7 (by omega) hc_44 rfl dX8_see_124 ?_
        refine g_bipush (a := 25) C dX8_see_127 (by decide) ?_
        refine lv_dup2_11 C.1.1 C.1.2.1 dX8_see_129 rfl rfl ?_
        refine g_iaload C G (pos := 193) (by omega) hc_38 (by omega) (by omega) (by omega) dX8_see_130 ?_
        rw [show ((vu (vu f (26 + (2 * (f 25))) an) (27 + (2 * (f 25))) ra) 25 : Int) = f 25 from (by first | (rw [vu_ne (by omega)]; done) | (rw [vu_ne (by omega), vu_ne (by omega)]; done))]
        refine g_iconst (a := 1) C dX8_see_131 rfl ?_
        refine g_iadd C dX8_see_132 ?_
        refine g_iastore C G (pos := 193) (by omega) hc_38 (by omega) (by omega) (by omega) dX8_see_133 (fun H locs G => ?_)
        obtain ⟨g_46, hg_47⟩ : ∃ g9, g9 = va_up g_36 193 (aI κ 42 (vu (vu (vu f (26 + (2 * (f 25))) an) (27 + (2 * (f 25))) ra) 25 ((f 25) + 1))) := ⟨_, rfl⟩
        rw [← hg_47] at G
        have hc_48 : g_46 193 = aI κ 42 (vu (vu (vu f (26 + (2 * (f 25))) an) (27 + (2 * (f 25))) ra) 25 ((f 25) + 1)) := by rw [hg_47]; exact gu_self _ _ _
        have hc_49 : g_46 194 = aI κ 28896 M9 := by rw [hg_47, gu_ne (by decide)]; exact hc_39
        have hc_50 : g_46 195 = aI κ 100 X9 := by rw [hg_47, gu_ne (by decide)]; exact hc_40
        have hc_51 : g_46 196 = aI κ 42 q9 := by rw [hg_47, gu_ne (by decide)]; exact hc_41
        have hc_52 : g_46 198 = aI κ 43 be := by rw [hg_47, gu_ne (by decide)]; exact hc_42
        have hc_53 : g_46 199 = aI κ 86 sv := by rw [hg_47, gu_ne (by decide)]; exact hc_43
        have hc_54 : g_46 192 = .inr (8, [.ref (ad 193), .int (iz ly), .int (iz 0), .ref (ad 194), .int (iz mk), .ref (ad 195), .int (iz tx), .ref (ad 196), .int (iz rl), .int (iz a0), .int (iz wr), .int (iz s0), .int (iz s1), .ref (ad 197), .int (iz (remC rm)), .ref (ad 198), .ref (ad 199)]) := by rw [hg_47, gu_ne (by decide)]; exact hc_44
        have hc_55 : g_46 197 = aI κ 602 (rmF pa rm ly f) := by rw [hg_47, gu_ne (by decide)]; exact hc_45
        have hc_56 : g_46 193 = aI κ 42 (ntv f an ra) := hc_48.trans (congrArg (fun q => aI κ 42 q) (ntv_lt rfl (by omega)).symm)
        have hok3 := (okPl.note9 (a := an) (r := ra) hok (by omega) (by omega)).1
        refine g_aload_n C dX8_see_134 rfl hl 0 rfl ?_
        refine g_ci C G (g_runV (As := []) (rest := []) (pos := 192) C G (c_X8_fitting l κ B n ad g_46 ly 0 mk tx rl a0 wr s0 s1 (remC rm) (ntv f an ra) hn8 hc_54 hc_56 hok3) (cwV 0 C.1.2.2.2.2 gX8_see_X8_fitting rfl rfl rfl (by decide +kernel) ⟨Nat.le_of_ble_eq_true rfl, Nat.le_of_ble_eq_true rfl⟩) (by omega) hc_54 (T := TX8) (N := 17) rfl rfl hl rfl (Nat.le_of_ble_eq_true rfl) dX8_see_135 ⟨Nat.le_of_ble_eq_true rfl, Nat.le_of_ble_eq_true rfl⟩) (fun z_57 g9 H locs hw G => ?_)
        obtain ⟨hg9, h_58⟩ := hw
        replace hg9 := hg9.symm
        subst hg9
        refine g_iret C G hr hlk (Nat.le_of_ble_eq_true rfl) (Nat.le_of_ble_eq_true rfl) dX8_see_138 ?_
        exact ⟨Or.inr (⟨⟨by omega, h_58.1⟩, ⟨_, _, _, _, _, _, _, hc_54, hc_56, hc_49, hc_50, hc_51, hc_55, hc_52, hc_53, by omega, hMr, hinq⟩⟩), fun q hq => (((congrFun hg_47 q).trans (gu_ne (by omega))).trans (((congrFun hg_37 q).trans (gu_ne (by omega))).trans (((congrFun hg_27 q).trans (gu_ne (by omega))).trans ((hf_18 q (by omega) (by omega)).trans ((congrFun hg_2 q).trans (gu_ne (by omega)))))))⟩
      · refine g_bipush (a := 28) C dX8_see_47 (by decide) ?_
        refine lv_istore_n (lv' := [(3, .int (iz 28)), (0, .ref (ad 192)), (1, .int (iz an)), (2, .int (iz ra))]) C.1.1 C.1.2.1 dX8_see_49 rfl hl (by decide) rfl (fun ls hl => ?_)
        have hfL : frM g g_15 := fun q hq => ((hf_18 q (by omega) (by omega)).trans ((congrFun hg_2 q).trans (gu_ne (by omega))))
        have lp_50_n_60 : ∀ (k_59 : Nat) (k : Int) (V : Int → Int) (gv : Nat → va_E), (42 - k).toNat < k_59 → (28 ≤ k ∧ k ≤ 42) → (gv = va_up g_15 193 (aI κ 42 V)) → (∀ i, V i = if 26 ≤ i ∧ i < k - 2 then f (i + 2) else f i) → ∀ (H : Heap) (locs : List Loc), gG κ B n ad s gv H locs → ∀ (ls : Array Slot), lv_has ls 4 [(0, .ref (ad 192)), (1, .int (iz an)), (2, .int (iz ra)), (3, .int (iz k))] → W p l e ({ frames := 6, cells := 0, slots := 0, locals := 142 }) s m args below meth c H locs 0 0 (MQ below (gQi κ B n ad (fun z g' => (((¬ ((0 ≤ an ∧ an < f 0) ∧ 0 ≤ ra ∧ ra ≤ 300)) ∧ jkM κ ad g' ly 1 tx s0 s1 rm (mk + 1000) f X9 pa sv) ∨ ((((0 ≤ an ∧ an < f 0) ∧ 0 ≤ ra ∧ ra ≤ 300) ∧ z = fitN ly (ntv f an ra)) ∧ jkM κ ad g' ly 0 tx s0 s1 (remC rm) (mk + 1000) (ntv f an ra) X9 (rmF pa rm ly f) sv)) ∧ frM g g')) args s 0 0 (gFree B)) (F0 m 50 ls []) := by
          intro k_59
          induction k_59 with
          | zero => intro k V gv hm; exact absurd hm (Nat.not_lt_zero _)
          | succ k_59 ih_lp_50_n_60 =>
            intro k V gv hm hk hgv hV H locs G ls hl
            have hn9 : gv 193 = aI κ 42 V := by rw [hgv]; exact gu_self _ _ _
            have hc_61 : gv 194 = aI κ 28896 M9 := by rw [hgv, gu_ne (by decide)]; exact hc_20
            have hc_62 : gv 195 = aI κ 100 X9 := by rw [hgv, gu_ne (by decide)]; exact hc_21
            have hc_63 : gv 196 = aI κ 42 q9 := by rw [hgv, gu_ne (by decide)]; exact hc_22
            have hc_64 : gv 198 = aI κ 43 be := by rw [hgv, gu_ne (by decide)]; exact hc_23
            have hc_65 : gv 199 = aI κ 86 sv := by rw [hgv, gu_ne (by decide)]; exact hc_24
            have hc_66 : gv 192 = .inr (8, [.ref (ad 193), .int (iz ly), .int (iz 0), .ref (ad 194), .int (iz mk), .ref (ad 195), .int (iz tx), .ref (ad 196), .int (iz rl), .int (iz a0), .int (iz wr), .int (iz s0), .int (iz s1), .ref (ad 197), .int (iz (remC rm)), .ref (ad 198), .ref (ad 199)]) := by rw [hgv, gu_ne (by decide)]; exact hc_16
            have hc_67 : gv 197 = aI κ 602 (rmF pa rm ly f) := by rw [hgv, gu_ne (by decide)]; exact hc_17
            refine g_iload_n C dX8_see_50 rfl hl 3 rfl ?_
            refine g_bipush (a := 42) C dX8_see_51 (by decide) ?_
            refine g_icmp_ge (tgt := 76) C (by omega) (by decide) dX8_see_53 (by decide) (fun c_68 => ?_) (fun c_68 => ?_)
            · have hc_69 : gv 193 = aI κ 42 (shv f) := hn9.trans (congrArg (fun q => aI κ 42 q) (see_end (by omega) hV))
              refine g_aload_n C dX8_see_76 rfl hl 0 rfl ?_
              refine g_get C G (pos := 192) fX8_see_7 (by omega) hc_66 rfl dX8_see_77 ?_
              refine g_bipush (a := 25) C dX8_see_80 (by decide) ?_
              refine lv_dup2_11 C.1.1 C.1.2.1 dX8_see_82 rfl rfl ?_
              refine g_iaload C G (pos := 193) (by omega) hc_69 (by omega) (by omega) (by omega) dX8_see_83 ?_
              rw [show ((shv f) 25 : Int) = f 25 from (if_neg (by omega))]
              refine g_iconst (a := 1) C dX8_see_84 rfl ?_
              refine g_isub C dX8_see_85 ?_
              refine g_iastore C G (pos := 193) (by omega) hc_69 (by omega) (by omega) (by omega) dX8_see_86 (fun H locs G => ?_)
              obtain ⟨g_70, hg_71⟩ : ∃ g9, g9 = va_up gv 193 (aI κ 42 (vu (shv f) 25 ((f 25) - 1))) := ⟨_, rfl⟩
              rw [← hg_71] at G
              have hc_72 : g_70 194 = aI κ 28896 M9 := by rw [hg_71, gu_ne (by decide)]; exact hc_61
              have hc_73 : g_70 195 = aI κ 100 X9 := by rw [hg_71, gu_ne (by decide)]; exact hc_62
              have hc_74 : g_70 196 = aI κ 42 q9 := by rw [hg_71, gu_ne (by decide)]; exact hc_63
              have hc_75 : g_70 198 = aI κ 43 be := by rw [hg_71, gu_ne (by decide)]; exact hc_64
              have hc_76 : g_70 199 = aI κ 86 sv := by rw [hg_71, gu_ne (by decide)]; exact hc_65
              have hc_77 : g_70 192 = .inr (8, [.ref (ad 193), .int (iz ly), .int (iz 0), .ref (ad 194), .int (iz mk), .ref (ad 195), .int (iz tx), .ref (ad 196), .int (iz rl), .int (iz a0), .int (iz wr), .int (iz s0), .int (iz s1), .ref (ad 197), .int (iz (remC rm)), .ref (ad 198), .ref (ad 199)]) := by rw [hg_71, gu_ne (by decide)]; exact hc_66
              have hc_78 : g_70 197 = aI κ 602 (rmF pa rm ly f) := by rw [hg_71, gu_ne (by decide)]; exact hc_67
              have hc_79 : g_70 193 = aI κ 42 (vu (shv f) 25 ((f 25) - 1)) := by rw [hg_71]; exact gu_self _ _ _
              refine g_aload_n C dX8_see_87 rfl hl 0 rfl ?_
              refine g_get C G (pos := 192) fX8_see_7 (by omega) hc_77 rfl dX8_see_88 ?_
              refine g_bipush (a := 26) C dX8_see_91 (by decide) ?_
              refine g_iconst (a := 2) C dX8_see_93 rfl ?_
              refine g_aload_n C dX8_see_94 rfl hl 0 rfl ?_
              refine g_get C G (pos := 192) fX8_see_7 (by omega) hc_77 rfl dX8_see_95 ?_
              refine g_bipush (a := 25) C dX8_see_98 (by decide) ?_
              refine g_iaload C G (pos := 193) (by omega) hc_79 (by omega) (by omega) (by omega) dX8_see_100 ?_
              rw [show ((vu (shv f) 25 ((f 25) - 1)) 25 : Int) = f 25 - 1 from (by first | exact vu_self _ _ _ | (rw [vu_ne (by omega), vu_self]; done) | (rw [vu_ne (by omega), vu_ne (by omega), vu_self]; done))]
              refine g_imul C dX8_see_101 ?_
              refine g_iadd C dX8_see_102 ?_
              refine g_iload_n C dX8_see_103 rfl hl 1 rfl ?_
              refine g_iastore C G (pos := 193) (by omega) hc_79 (by omega) (by omega) (by omega) dX8_see_104 (fun H locs G => ?_)
              obtain ⟨g_80, hg_81⟩ : ∃ g9, g9 = va_up g_70 193 (aI κ 42 (vu (vu (shv f) 25 ((f 25) - 1)) (26 + (2 * (f 25 - 1))) an)) := ⟨_, rfl⟩
              rw [← hg_81] at G
              have hc_82 : g_80 194 = aI κ 28896 M9 := by rw [hg_81, gu_ne (by decide)]; exact hc_72
              have hc_83 : g_80 195 = aI κ 100 X9 := by rw [hg_81, gu_ne (by decide)]; exact hc_73
              have hc_84 : g_80 196 = aI κ 42 q9 := by rw [hg_81, gu_ne (by decide)]; exact hc_74
              have hc_85 : g_80 198 = aI κ 43 be := by rw [hg_81, gu_ne (by decide)]; exact hc_75
              have hc_86 : g_80 199 = aI κ 86 sv := by rw [hg_81, gu_ne (by decide)]; exact hc_76
              have hc_87 : g_80 192 = .inr (8, [.ref (ad 193), .int (iz ly), .int (iz 0), .ref (ad 194), .int (iz mk), .ref (ad 195), .int (iz tx), .ref (ad 196), .int (iz rl), .int (iz a0), .int (iz wr), .int (iz s0), .int (iz s1), .ref (ad 197), .int (iz (remC rm)), .ref (ad 198), .ref (ad 199)]) := by rw [hg_81, gu_ne (by decide)]; exact hc_77
              have hc_88 : g_80 197 = aI κ 602 (rmF pa rm ly f) := by rw [hg_81, gu_ne (by decide)]; exact hc_78
              have hc_89 : g_80 193 = aI κ 42 (vu (vu (shv f) 25 ((f 25) - 1)) (26 + (2 * (f 25 - 1))) an) := by rw [hg_81]; exact gu_self _ _ _
              refine g_aload_n C dX8_see_105 rfl hl 0 rfl ?_
              refine g_get C G (pos := 192) fX8_see_7 (by omega) hc_87 rfl dX8_see_106 ?_
              refine g_bipush (a := 27) C dX8_see_109 (by decide) ?_
              refine g_iconst (a := 2) C dX8_see_111 rfl ?_
              refine g_aload_n C dX8_see_112 rfl hl 0 rfl ?_
              refine g_get C G (pos := 192) fX8_see_7 (by omega) hc_87 rfl dX8_see_113 ?_
              refine g_bipush (a := 25) C dX8_see_116 (by decide) ?_
              refine g_iaload C G (pos := 193) (by omega) hc_89 (by omega) (by omega) (by omega) dX8_see_118 ?_
              rw [show ((vu (vu (shv f) 25 ((f 25) - 1)) (26 + (2 * (f 25 - 1))) an) 25 : Int) = f 25 - 1 from (by first | exact vu_self _ _ _ | (rw [vu_ne (by omega), vu_self]; done) | (rw [vu_ne (by omega), vu_ne (by omega), vu_self]; done))]
              refine g_imul C dX8_see_119 ?_
              refine g_iadd C dX8_see_120 ?_
              refine g_iload_n C dX8_see_121 rfl hl 2 rfl ?_
              refine g_iastore C G (pos := 193) (by omega) hc_89 (by omega) (by omega) (by omega) dX8_see_122 (fun H locs G => ?_)
              obtain ⟨g_90, hg_91⟩ : ∃ g9, g9 = va_up g_80 193 (aI κ 42 (vu (vu (vu (shv f) 25 ((f 25) - 1)) (26 + (2 * (f 25 - 1))) an) (27 + (2 * (f 25 - 1))) ra)) := ⟨_, rfl⟩
              rw [← hg_91] at G
              have hc_92 : g_90 194 = aI κ 28896 M9 := by rw [hg_91, gu_ne (by decide)]; exact hc_82
              have hc_93 : g_90 195 = aI κ 100 X9 := by rw [hg_91, gu_ne (by decide)]; exact hc_83
              have hc_94 : g_90 196 = aI κ 42 q9 := by rw [hg_91, gu_ne (by decide)]; exact hc_84
              have hc_95 : g_90 198 = aI κ 43 be := by rw [hg_91, gu_ne (by decide)]; exact hc_85
              have hc_96 : g_90 199 = aI κ 86 sv := by rw [hg_91, gu_ne (by decide)]; exact hc_86
              have hc_97 : g_90 192 = .inr (8, [.ref (ad 193), .int (iz ly), .int (iz 0), .ref (ad 194), .int (iz mk), .ref (ad 195), .int (iz tx), .ref (ad 196), .int (iz rl), .int (iz a0), .int (iz wr), .int (iz s0), .int (iz s1), .ref (ad 197), .int (iz (remC rm)), .ref (ad 198), .ref (ad 199)]) := by rw [hg_91, gu_ne (by decide)]; exact hc_87
              have hc_98 : g_90 197 = aI κ 602 (rmF pa rm ly f) := by rw [hg_91, gu_ne (by decide)]; exact hc_88
              have hc_99 : g_90 193 = aI κ 42 (vu (vu (vu (shv f) 25 ((f 25) - 1)) (26 + (2 * (f 25 - 1))) an) (27 + (2 * (f 25 - 1))) ra) := by rw [hg_91]; exact gu_self _ _ _
              refine g_aload_n C dX8_see_123 rfl hl 0 rfl ?_
              refine g_get C G (pos := 192) fX8_see_7 (by omega) hc_97 rfl dX8_see_124 ?_
              refine g_bipush (a := 25) C dX8_see_127 (by decide) ?_
              refine lv_dup2_11 C.1.1 C.1.2.1 dX8_see_129 rfl rfl ?_
              refine g_iaload C G (pos := 193) (by omega) hc_99 (by omega) (by omega) (by omega) dX8_see_130 ?_
              rw [show ((vu (vu (vu (shv f) 25 ((f 25) - 1)) (26 + (2 * (f 25 - 1))) an) (27 + (2 * (f 25 - 1))) ra) 25 : Int) = f 25 - 1 from (by first | exact vu_self _ _ _ | (rw [vu_ne (by omega), vu_self]; done) | (rw [vu_ne (by omega), vu_ne (by omega), vu_self]; done))]
              refine g_iconst (a := 1) C dX8_see_131 rfl ?_
              refine g_iadd C dX8_see_132 ?_
              refine g_iastore C G (pos := 193) (by omega) hc_99 (by omega) (by omega) (by omega) dX8_see_133 (fun H locs G => ?_)
              obtain ⟨g_100, hg_101⟩ : ∃ g9, g9 = va_up g_90 193 (aI κ 42 (vu (vu (vu (vu (shv f) 25 ((f 25) - 1)) (26 + (2 * (f 25 - 1))) an) (27 + (2 * (f 25 - 1))) ra) 25 ((f 25 - 1) + 1))) := ⟨_, rfl⟩
              rw [← hg_101] at G
              have hc_102 : g_100 194 = aI κ 28896 M9 := by rw [hg_101, gu_ne (by decide)]; exact hc_92
              have hc_103 : g_100 195 = aI κ 100 X9 := by rw [hg_101, gu_ne (by decide)]; exact hc_93
              have hc_104 : g_100 196 = aI κ 42 q9 := by rw [hg_101, gu_ne (by decide)]; exact hc_94
              have hc_105 : g_100 198 = aI κ 43 be := by rw [hg_101, gu_ne (by decide)]; exact hc_95
              have hc_106 : g_100 199 = aI κ 86 sv := by rw [hg_101, gu_ne (by decide)]; exact hc_96
              have hc_107 : g_100 192 = .inr (8, [.ref (ad 193), .int (iz ly), .int (iz 0), .ref (ad 194), .int (iz mk), .ref (ad 195), .int (iz tx), .ref (ad 196), .int (iz rl), .int (iz a0), .int (iz wr), .int (iz s0), .int (iz s1), .ref (ad 197), .int (iz (remC rm)), .ref (ad 198), .ref (ad 199)]) := by rw [hg_101, gu_ne (by decide)]; exact hc_97
              have hc_108 : g_100 197 = aI κ 602 (rmF pa rm ly f) := by rw [hg_101, gu_ne (by decide)]; exact hc_98
              have hc_109 : g_100 193 = aI κ 42 (vu (vu (vu (vu (shv f) 25 ((f 25) - 1)) (26 + (2 * (f 25 - 1))) an) (27 + (2 * (f 25 - 1))) ra) 25 ((f 25 - 1) + 1)) := by rw [hg_101]; exact gu_self _ _ _
              have hc_110 : g_100 193 = aI κ 42 (ntv f an ra) := hc_109.trans (congrArg (fun q => aI κ 42 q) (ntv_ge (by omega)).symm)
              have hok3 := (okPl.note9 (a := an) (r := ra) hok (by omega) (by omega)).1
              refine g_aload_n C dX8_see_134 rfl hl 0 rfl ?_
              refine g_ci C G (g_runV (As := []) (rest := []) (pos := 192) C G (c_X8_fitting l κ B n ad g_100 ly 0 mk tx rl a0 wr s0 s1 (remC rm) (ntv f an ra) hn8 hc_107 hc_110 hok3) (cwV 0 C.1.2.2.2.2 gX8_see_X8_fitting rfl rfl rfl (by decide +kernel) ⟨Nat.le_of_ble_eq_true rfl, Nat.le_of_ble_eq_true rfl⟩) (by omega) hc_107 (T := TX8) (N := 17) rfl rfl hl rfl (Nat.le_of_ble_eq_true rfl) dX8_see_135 ⟨Nat.le_of_ble_eq_true rfl, Nat.le_of_ble_eq_true rfl⟩) (fun z_111 g9 H locs hw G => ?_)
              obtain ⟨hg9, h_112⟩ := hw
              replace hg9 := hg9.symm
              subst hg9
              refine g_iret C G hr hlk (Nat.le_of_ble_eq_true rfl) (Nat.le_of_ble_eq_true rfl) dX8_see_138 ?_
              exact ⟨Or.inr (⟨⟨by omega, h_112.1⟩, ⟨_, _, _, _, _, _, _, hc_107, hc_110, hc_102, hc_103, hc_104, hc_108, hc_105, hc_106, by omega, hMr, hinq⟩⟩), fun q hq => (((congrFun hg_101 q).trans (gu_ne (by omega))).trans (((congrFun hg_91 q).trans (gu_ne (by omega))).trans (((congrFun hg_81 q).trans (gu_ne (by omega))).trans (((congrFun hg_71 q).trans (gu_ne (by omega))).trans (((congrFun hgv q).trans (gu_ne (by omega))).trans (hfL q (by omega)))))))⟩
            · refine g_aload_n C dX8_see_56 rfl hl 0 rfl ?_
              refine g_get C G (pos := 192) fX8_see_7 (by omega) hc_66 rfl dX8_see_57 ?_
              refine g_iload_n C dX8_see_60 rfl hl 3 rfl ?_
              refine g_iconst (a := 2) C dX8_see_61 rfl ?_
              refine g_isub C dX8_see_62 ?_
              refine g_aload_n C dX8_see_63 rfl hl 0 rfl ?_
              refine g_get C G (pos := 192) fX8_see_7 (by omega) hc_66 rfl dX8_see_64 ?_
              refine g_iload_n C dX8_see_67 rfl hl 3 rfl ?_
              refine g_iaload C G (pos := 193) (by omega) hn9 (by omega) (by omega) (by omega) dX8_see_68 ?_
              refine g_iastore C G (pos := 193) (by omega) hn9 (by omega) (by omega) (by omega) dX8_see_69 (fun H locs G => ?_)
              obtain ⟨g_113, hg_114⟩ : ∃ g9, g9 = va_up gv 193 (aI κ 42 (vu V (k - 2) (V k))) := ⟨_, rfl⟩
              rw [← hg_114] at G
              have hc_115 : g_113 194 = aI κ 28896 M9 := by rw [hg_114, gu_ne (by decide)]; exact hc_61
              have hc_116 : g_113 195 = aI κ 100 X9 := by rw [hg_114, gu_ne (by decide)]; exact hc_62
              have hc_117 : g_113 196 = aI κ 42 q9 := by rw [hg_114, gu_ne (by decide)]; exact hc_63
              have hc_118 : g_113 198 = aI κ 43 be := by rw [hg_114, gu_ne (by decide)]; exact hc_64
              have hc_119 : g_113 199 = aI κ 86 sv := by rw [hg_114, gu_ne (by decide)]; exact hc_65
              have hc_120 : g_113 192 = .inr (8, [.ref (ad 193), .int (iz ly), .int (iz 0), .ref (ad 194), .int (iz mk), .ref (ad 195), .int (iz tx), .ref (ad 196), .int (iz rl), .int (iz a0), .int (iz wr), .int (iz s0), .int (iz s1), .ref (ad 197), .int (iz (remC rm)), .ref (ad 198), .ref (ad 199)]) := by rw [hg_114, gu_ne (by decide)]; exact hc_66
              have hc_121 : g_113 197 = aI κ 602 (rmF pa rm ly f) := by rw [hg_114, gu_ne (by decide)]; exact hc_67
              have hc_122 : g_113 193 = aI κ 42 (vu V (k - 2) (V k)) := by rw [hg_114]; exact gu_self _ _ _
              refine lv_iinc (v := iz (k + 1)) (lv' := [(3, .int (iz (k + 1))), (0, .ref (ad 192)), (1, .int (iz an)), (2, .int (iz ra))]) C.1.1 C.1.2.1 dX8_see_70 hl (k := 3) rfl (g_inc (by omega)) (by decide) rfl (fun ls hl => ?_)
              refine g_goto (tgt := 50) C dX8_see_73 (by decide) ?_
              exact ih_lp_50_n_60 (k + 1) (vu V (k - 2) (V k)) g_113 (by omega) (by omega) (by rw [hg_114, hgv, gu_up]) (see_step hk.1 hV) _ _ G _ (lv_sub hl [1, 2, 3, 0] rfl)
        exact lp_50_n_60 _ 28 f g_15 (Nat.lt_succ_self _) (by omega) (by funext q; by_cases hq : q = 193 <;> simp [va_up, hq, hc_19]) (fun i => by rw [if_neg (by omega)]) _ _ G _ (lv_sub hl [1, 2, 3, 0] rfl)
    · refine g_if_ne (tgt := 31) C (by decide) dX8_see_22 (by decide) (fun c9 => absurd c9 (by decide)) (fun _ => ?_)
      refine g_aload_n C dX8_see_25 rfl hl 0 rfl ?_
      refine g_iconst (a := 1) C dX8_see_26 rfl ?_
      refine g_ci C G (g_runV (As := [.int (iz 1)]) (rest := []) (pos := 192) C G (c_X8_refused l κ B n ad g_1 ly 0 mk tx rl a0 wr s0 s1 rm 1 hn8 hc_3) (cwV 1 C.1.2.2.2.2 gX8_see_X8_refused rfl rfl rfl (by decide +kernel) ⟨Nat.le_of_ble_eq_true rfl, Nat.le_of_ble_eq_true rfl⟩) (by omega) hc_3 (T := TX8) (N := 17) rfl rfl hl rfl (Nat.le_of_ble_eq_true rfl) dX8_see_27 ⟨Nat.le_of_ble_eq_true rfl, Nat.le_of_ble_eq_true rfl⟩) (fun z_123 g9 H locs hw G => ?_)
      obtain ⟨hw, h_124⟩ := hw
      subst hw
      obtain ⟨g_125, hg_126⟩ : ∃ g9, g9 = va_up g_1 192 (.inr (8, [.ref (ad 193), .int (iz ly), .int (iz 1), .ref (ad 194), .int (iz mk), .ref (ad 195), .int (iz tx), .ref (ad 196), .int (iz rl), .int (iz a0), .int (iz wr), .int (iz s0), .int (iz s1), .ref (ad 197), .int (iz rm), .ref (ad 198), .ref (ad 199)])) := ⟨_, rfl⟩
      rw [← hg_126] at G
      have hc_127 : g_125 192 = .inr (8, [.ref (ad 193), .int (iz ly), .int (iz 1), .ref (ad 194), .int (iz mk), .ref (ad 195), .int (iz tx), .ref (ad 196), .int (iz rl), .int (iz a0), .int (iz wr), .int (iz s0), .int (iz s1), .ref (ad 197), .int (iz rm), .ref (ad 198), .ref (ad 199)]) := by rw [hg_126]; exact gu_self _ _ _
      have hc_128 : g_125 193 = aI κ 42 f := by rw [hg_126, gu_ne (by decide)]; exact hc_4
      have hc_129 : g_125 194 = aI κ 28896 M9 := by rw [hg_126, gu_ne (by decide)]; exact hc_5
      have hc_130 : g_125 195 = aI κ 100 X9 := by rw [hg_126, gu_ne (by decide)]; exact hc_6
      have hc_131 : g_125 196 = aI κ 42 q9 := by rw [hg_126, gu_ne (by decide)]; exact hc_7
      have hc_132 : g_125 197 = aI κ 602 pa := by rw [hg_126, gu_ne (by decide)]; exact hc_8
      have hc_133 : g_125 198 = aI κ 43 be := by rw [hg_126, gu_ne (by decide)]; exact hc_9
      have hc_134 : g_125 199 = aI κ 86 sv := by rw [hg_126, gu_ne (by decide)]; exact hc_10
      refine g_iret C G hr hlk (Nat.le_of_ble_eq_true rfl) (Nat.le_of_ble_eq_true rfl) dX8_see_30 ?_
      exact ⟨Or.inl ⟨by omega, ⟨_, _, _, _, _, _, _, hc_127, hc_128, hc_129, hc_130, hc_131, hc_132, hc_133, hc_134, by omega, hMr, hinq⟩⟩, fun q hq => (((congrFun hg_126 q).trans (gu_ne (by omega))).trans ((congrFun hg_2 q).trans (gu_ne (by omega))))⟩
  · refine g_if_eq (tgt := 25) C (by decide) dX8_see_10 (by decide) (fun _ => ?_) (fun c9 => absurd c9 (by decide))
    refine g_aload_n C dX8_see_25 rfl hl 0 rfl ?_
    refine g_iconst (a := 1) C dX8_see_26 rfl ?_
    refine g_ci C G (g_runV (As := [.int (iz 1)]) (rest := []) (pos := 192) C G (c_X8_refused l κ B n ad g_1 ly 0 mk tx rl a0 wr s0 s1 rm 1 hn8 hc_3) (cwV 1 C.1.2.2.2.2 gX8_see_X8_refused rfl rfl rfl (by decide +kernel) ⟨Nat.le_of_ble_eq_true rfl, Nat.le_of_ble_eq_true rfl⟩) (by omega) hc_3 (T := TX8) (N := 17) rfl rfl hl rfl (Nat.le_of_ble_eq_true rfl) dX8_see_27 ⟨Nat.le_of_ble_eq_true rfl, Nat.le_of_ble_eq_true rfl⟩) (fun z_135 g9 H locs hw G => ?_)
    obtain ⟨hw, h_136⟩ := hw
    subst hw
    obtain ⟨g_137, hg_138⟩ : ∃ g9, g9 = va_up g_1 192 (.inr (8, [.ref (ad 193), .int (iz ly), .int (iz 1), .ref (ad 194), .int (iz mk), .ref (ad 195), .int (iz tx), .ref (ad 196), .int (iz rl), .int (iz a0), .int (iz wr), .int (iz s0), .int (iz s1), .ref (ad 197), .int (iz rm), .ref (ad 198), .ref (ad 199)])) := ⟨_, rfl⟩
    rw [← hg_138] at G
    have hc_139 : g_137 192 = .inr (8, [.ref (ad 193), .int (iz ly), .int (iz 1), .ref (ad 194), .int (iz mk), .ref (ad 195), .int (iz tx), .ref (ad 196), .int (iz rl), .int (iz a0), .int (iz wr), .int (iz s0), .int (iz s1), .ref (ad 197), .int (iz rm), .ref (ad 198), .ref (ad 199)]) := by rw [hg_138]; exact gu_self _ _ _
    have hc_140 : g_137 193 = aI κ 42 f := by rw [hg_138, gu_ne (by decide)]; exact hc_4
    have hc_141 : g_137 194 = aI κ 28896 M9 := by rw [hg_138, gu_ne (by decide)]; exact hc_5
    have hc_142 : g_137 195 = aI κ 100 X9 := by rw [hg_138, gu_ne (by decide)]; exact hc_6
    have hc_143 : g_137 196 = aI κ 42 q9 := by rw [hg_138, gu_ne (by decide)]; exact hc_7
    have hc_144 : g_137 197 = aI κ 602 pa := by rw [hg_138, gu_ne (by decide)]; exact hc_8
    have hc_145 : g_137 198 = aI κ 43 be := by rw [hg_138, gu_ne (by decide)]; exact hc_9
    have hc_146 : g_137 199 = aI κ 86 sv := by rw [hg_138, gu_ne (by decide)]; exact hc_10
    refine g_iret C G hr hlk (Nat.le_of_ble_eq_true rfl) (Nat.le_of_ble_eq_true rfl) dX8_see_30 ?_
    exact ⟨Or.inl ⟨by omega, ⟨_, _, _, _, _, _, _, hc_139, hc_140, hc_141, hc_142, hc_143, hc_144, hc_145, hc_146, by omega, hMr, hinq⟩⟩, fun q hq => (((congrFun hg_138 q).trans (gu_ne (by omega))).trans ((congrFun hg_2 q).trans (gu_ne (by omega))))⟩
theorem fwX8_undo_31 : gFldW wsX8_undo RX8 31 8 2 .int false := ⟨RX8, TX8, 17, tyX8, rfl, by decide, by decide +kernel, by decide +kernel, tyX8_ok, nmX8, rfl, by decide +kernel, by decide +kernel⟩
theorem fX8_undo_111 : gFld wsX8_undo RX8 111 8 14 := ⟨RX8, TX8, 17, rfl, by decide, by decide +kernel, by decide +kernel⟩
theorem fwX8_undo_111 : gFldW wsX8_undo RX8 111 8 14 .int false := ⟨RX8, TX8, 17, tyX8, rfl, by decide, by decide +kernel, by decide +kernel, tyX8_ok, nmX8, rfl, by decide +kernel, by decide +kernel⟩
theorem fX8_undo_22 : gFld wsX8_undo RX8 22 8 13 := ⟨RX8, TX8, 17, rfl, by decide, by decide +kernel, by decide +kernel⟩
set_option maxHeartbeats 4000000 in
set_option maxRecDepth 100000 in
theorem c_X8_undo (l : Launch) (κ : gKap) (B n : Nat) (ad : Nat → Nat) (g : Nat → va_E) (ly : Int) (th : Int) (mk : Int) (tx : Int) (rl : Int) (a0 : Int) (wr : Int) (s0 : Int) (s1 : Int) (rm : Int) (f : Int → Int) (M9 : Int → Int) (X9 : Int → Int) (q9 : Int → Int) (pa : Int → Int) (be : Int → Int) (sv : Int → Int) (hn8 : 200 ≤ n) (hM : g 192 = oM ad ly th mk tx rl a0 wr s0 s1 rm) (hN : g 193 = aI κ 42 f) (hK : g 194 = aI κ 28896 M9) (hT : g 195 = aI κ 100 X9) (hRd : g 196 = aI κ 42 q9) (hPa : g 197 = aI κ 602 pa) (hBe : g 198 = aI κ 43 be) (hSv : g 199 = aI κ 86 sv) (hok : okPl ly f) (hmk : 0 ≤ mk ∧ mk ≤ 800000000) (hMr : ∀ i, 0 ≤ i → i < 28896 → 0 ≤ M9 i ∧ M9 i ≤ mk) (hinq : inV q9) (hrm : 0 ≤ rm ∧ rm ≤ 14) : Met l yX8_undo wsX8_undo ({ frames := 1, cells := 0, slots := 0, locals := 23 }) (gPre κ B n ad g [.ref (ad 192)]) (gQi κ B n ad (fun z g' => (((rm = 0) ∧ jkM κ ad g' ly 1 tx s0 s1 rm (mk + 1000) f X9 pa sv) ∨ ((1 ≤ rm ∧ z = rm - 1) ∧ jkM κ ad g' (pa (43 * (rm - 1))) 0 tx s0 s1 (rm - 1) (mk + 1000) (brF pa (43 * (rm - 1)) f) X9 pa sv)) ∧ frM g g')) 0 0 (gFree B) := by
  refine g_met RX8 (cc := cX8_undo) (maxL := 1) (ret := (some .int)) (by decide) rfl rfl (Nat.le_of_ble_eq_true rfl) ?_
  intro p e s m args below meth c C hr hlk hnm G ls hl
  have hl : lv_has ls 1 [(0, .ref (ad 192))] := hl
  obtain ⟨hn6, hv0, hv25, hlay, hsee⟩ := id hok
  refine g_aload_n C dX8_undo_0 rfl hl 0 rfl ?_
  refine g_iconst (a := 0) C dX8_undo_1 rfl ?_
  refine g_put C G (pos := 192) (fs' := [.ref (ad 193), .int (iz ly), .int (iz 0), .ref (ad 194), .int (iz mk), .ref (ad 195), .int (iz tx), .ref (ad 196), .int (iz rl), .int (iz a0), .int (iz wr), .int (iz s0), .int (iz s1), .ref (ad 197), .int (iz rm), .ref (ad 198), .ref (ad 199)]) fwX8_undo_31 (by omega) hM (Nat.le_of_ble_eq_true rfl) rfl rfl rfl dX8_undo_2 (fun H locs G => ?_)
  obtain ⟨g_1, hg_2⟩ : ∃ g9, g9 = va_up g 192 (.inr (8, [.ref (ad 193), .int (iz ly), .int (iz 0), .ref (ad 194), .int (iz mk), .ref (ad 195), .int (iz tx), .ref (ad 196), .int (iz rl), .int (iz a0), .int (iz wr), .int (iz s0), .int (iz s1), .ref (ad 197), .int (iz rm), .ref (ad 198), .ref (ad 199)])) := ⟨_, rfl⟩
  rw [← hg_2] at G
  have hc_3 : g_1 192 = .inr (8, [.ref (ad 193), .int (iz ly), .int (iz 0), .ref (ad 194), .int (iz mk), .ref (ad 195), .int (iz tx), .ref (ad 196), .int (iz rl), .int (iz a0), .int (iz wr), .int (iz s0), .int (iz s1), .ref (ad 197), .int (iz rm), .ref (ad 198), .ref (ad 199)]) := by rw [hg_2]; exact gu_self _ _ _
  have hc_4 : g_1 193 = aI κ 42 f := by rw [hg_2, gu_ne (by decide)]; exact hN
  have hc_5 : g_1 194 = aI κ 28896 M9 := by rw [hg_2, gu_ne (by decide)]; exact hK
  have hc_6 : g_1 195 = aI κ 100 X9 := by rw [hg_2, gu_ne (by decide)]; exact hT
  have hc_7 : g_1 196 = aI κ 42 q9 := by rw [hg_2, gu_ne (by decide)]; exact hRd
  have hc_8 : g_1 197 = aI κ 602 pa := by rw [hg_2, gu_ne (by decide)]; exact hPa
  have hc_9 : g_1 198 = aI κ 43 be := by rw [hg_2, gu_ne (by decide)]; exact hBe
  have hc_10 : g_1 199 = aI κ 86 sv := by rw [hg_2, gu_ne (by decide)]; exact hSv
  refine g_aload_n C dX8_undo_5 rfl hl 0 rfl ?_
  refine g_get C G (pos := 192) fX8_undo_111 (by omega) hc_3 rfl dX8_undo_6 ?_
  refine g_if_ne (tgt := 18) C (by omega) dX8_undo_9 (by decide) (fun c_11 => ?_) (fun c_11 => ?_)
  · refine g_aload_n C dX8_undo_18 rfl hl 0 rfl ?_
    refine lv_dup C.1.1 C.1.2.1 dX8_undo_19 rfl ?_
    refine g_get C G (pos := 192) fX8_undo_111 (by omega) hc_3 rfl dX8_undo_20 ?_
    refine g_iconst (a := 1) C dX8_undo_23 rfl ?_
    refine g_isub C dX8_undo_24 ?_
    refine g_put C G (pos := 192) (fs' := [.ref (ad 193), .int (iz ly), .int (iz 0), .ref (ad 194), .int (iz mk), .ref (ad 195), .int (iz tx), .ref (ad 196), .int (iz rl), .int (iz a0), .int (iz wr), .int (iz s0), .int (iz s1), .ref (ad 197), .int (iz (rm - 1)), .ref (ad 198), .ref (ad 199)]) fwX8_undo_111 (by omega) hc_3 (Nat.le_of_ble_eq_true rfl) rfl rfl rfl dX8_undo_25 (fun H locs G => ?_)
    obtain ⟨g_12, hg_13⟩ : ∃ g9, g9 = va_up g_1 192 (.inr (8, [.ref (ad 193), .int (iz ly), .int (iz 0), .ref (ad 194), .int (iz mk), .ref (ad 195), .int (iz tx), .ref (ad 196), .int (iz rl), .int (iz a0), .int (iz wr), .int (iz s0), .int (iz s1), .ref (ad 197), .int (iz (rm - 1)), .ref (ad 198), .ref (ad 199)])) := ⟨_, rfl⟩
    rw [← hg_13] at G
    have hc_14 : g_12 192 = .inr (8, [.ref (ad 193), .int (iz ly), .int (iz 0), .ref (ad 194), .int (iz mk), .ref (ad 195), .int (iz tx), .ref (ad 196), .int (iz rl), .int (iz a0), .int (iz wr), .int (iz s0), .int (iz s1), .ref (ad 197), .int (iz (rm - 1)), .ref (ad 198), .ref (ad 199)]) := by rw [hg_13]; exact gu_self _ _ _
    have hc_15 : g_12 193 = aI κ 42 f := by rw [hg_13, gu_ne (by decide)]; exact hc_4
    have hc_16 : g_12 194 = aI κ 28896 M9 := by rw [hg_13, gu_ne (by decide)]; exact hc_5
    have hc_17 : g_12 195 = aI κ 100 X9 := by rw [hg_13, gu_ne (by decide)]; exact hc_6
    have hc_18 : g_12 196 = aI κ 42 q9 := by rw [hg_13, gu_ne (by decide)]; exact hc_7
    have hc_19 : g_12 197 = aI κ 602 pa := by rw [hg_13, gu_ne (by decide)]; exact hc_8
    have hc_20 : g_12 198 = aI κ 43 be := by rw [hg_13, gu_ne (by decide)]; exact hc_9
    have hc_21 : g_12 199 = aI κ 86 sv := by rw [hg_13, gu_ne (by decide)]; exact hc_10
    refine g_aload_n C dX8_undo_28 rfl hl 0 rfl ?_
    refine g_aload_n C dX8_undo_29 rfl hl 0 rfl ?_
    refine g_get C G (pos := 192) fX8_undo_22 (by omega) hc_14 rfl dX8_undo_30 ?_
    refine g_bipush (a := 43) C dX8_undo_33 (by decide) ?_
    refine g_aload_n C dX8_undo_35 rfl hl 0 rfl ?_
    refine g_get C G (pos := 192) fX8_undo_111 (by omega) hc_14 rfl dX8_undo_36 ?_
    refine g_imul C dX8_undo_39 ?_
    refine g_cv C G (g_runV (As := [.ref (ad 197), .int (iz (43 * (rm - 1)))]) (rest := []) (pos := 192) C G (c_X8_bring l κ B n ad g_12 ly 0 mk tx rl a0 wr s0 s1 (rm - 1) f 197 602 pa (43 * (rm - 1)) hn8 hc_14 hc_15 (by omega) hc_19 (by omega)) (cwV 2 C.1.2.2.2.2 gX8_undo_X8_bring rfl rfl rfl (by decide +kernel) ⟨Nat.le_of_ble_eq_true rfl, Nat.le_of_ble_eq_true rfl⟩) (by omega) hc_14 (T := TX8) (N := 17) rfl rfl hl rfl (Nat.le_of_ble_eq_true rfl) dX8_undo_40 ⟨Nat.le_of_ble_eq_true rfl, Nat.le_of_ble_eq_true rfl⟩) (fun g_22 H locs hgs_23 G => ?_)
    have hc_24 : g_22 192 = .inr (8, [.ref (ad 193), .int (iz (pa (43 * (rm - 1)))), .int (iz 0), .ref (ad 194), .int (iz mk), .ref (ad 195), .int (iz tx), .ref (ad 196), .int (iz rl), .int (iz a0), .int (iz wr), .int (iz s0), .int (iz s1), .ref (ad 197), .int (iz (rm - 1)), .ref (ad 198), .ref (ad 199)]) := by rw [hgs_23, gu_ne (by decide)]; exact gu_self _ _ _
    have hc_25 : g_22 193 = aI κ 42 (brF pa (43 * (rm - 1)) f) := by rw [hgs_23]; exact gu_self _ _ _
    have hc_26 : g_22 194 = aI κ 28896 M9 := by rw [hgs_23, gu_ne (by decide), gu_ne (by decide)]; exact hc_16
    have hc_27 : g_22 195 = aI κ 100 X9 := by rw [hgs_23, gu_ne (by decide), gu_ne (by decide)]; exact hc_17
    have hc_28 : g_22 196 = aI κ 42 q9 := by rw [hgs_23, gu_ne (by decide), gu_ne (by decide)]; exact hc_18
    have hc_29 : g_22 197 = aI κ 602 pa := by rw [hgs_23, gu_ne (by decide), gu_ne (by decide)]; exact hc_19
    have hc_30 : g_22 198 = aI κ 43 be := by rw [hgs_23, gu_ne (by decide), gu_ne (by decide)]; exact hc_20
    have hc_31 : g_22 199 = aI κ 86 sv := by rw [hgs_23, gu_ne (by decide), gu_ne (by decide)]; exact hc_21
    refine g_aload_n C dX8_undo_43 rfl hl 0 rfl ?_
    refine g_get C G (pos := 192) fX8_undo_111 (by omega) hc_24 rfl dX8_undo_44 ?_
    refine g_iret C G hr hlk (Nat.le_of_ble_eq_true rfl) (Nat.le_of_ble_eq_true rfl) dX8_undo_47 ?_
    exact ⟨Or.inr (⟨⟨by omega, rfl⟩, ⟨_, _, _, _, _, _, _, hc_24, hc_25, hc_26, hc_27, hc_28, hc_29, hc_30, hc_31, by omega, hMr, hinq⟩⟩), fun q hq => (((congrFun hgs_23 q).trans ((gu_ne (by omega)).trans (gu_ne (by omega)))).trans (((congrFun hg_13 q).trans (gu_ne (by omega))).trans ((congrFun hg_2 q).trans (gu_ne (by omega)))))⟩
  · refine g_aload_n C dX8_undo_12 rfl hl 0 rfl ?_
    refine g_iconst (a := 1) C dX8_undo_13 rfl ?_
    refine g_ci C G (g_runV (As := [.int (iz 1)]) (rest := []) (pos := 192) C G (c_X8_refused l κ B n ad g_1 ly 0 mk tx rl a0 wr s0 s1 rm 1 hn8 hc_3) (cwV 1 C.1.2.2.2.2 gX8_undo_X8_refused rfl rfl rfl (by decide +kernel) ⟨Nat.le_of_ble_eq_true rfl, Nat.le_of_ble_eq_true rfl⟩) (by omega) hc_3 (T := TX8) (N := 17) rfl rfl hl rfl (Nat.le_of_ble_eq_true rfl) dX8_undo_14 ⟨Nat.le_of_ble_eq_true rfl, Nat.le_of_ble_eq_true rfl⟩) (fun z_32 g9 H locs hw G => ?_)
    obtain ⟨hw, h_33⟩ := hw
    subst hw
    obtain ⟨g_34, hg_35⟩ : ∃ g9, g9 = va_up g_1 192 (.inr (8, [.ref (ad 193), .int (iz ly), .int (iz 1), .ref (ad 194), .int (iz mk), .ref (ad 195), .int (iz tx), .ref (ad 196), .int (iz rl), .int (iz a0), .int (iz wr), .int (iz s0), .int (iz s1), .ref (ad 197), .int (iz rm), .ref (ad 198), .ref (ad 199)])) := ⟨_, rfl⟩
    rw [← hg_35] at G
    have hc_36 : g_34 192 = .inr (8, [.ref (ad 193), .int (iz ly), .int (iz 1), .ref (ad 194), .int (iz mk), .ref (ad 195), .int (iz tx), .ref (ad 196), .int (iz rl), .int (iz a0), .int (iz wr), .int (iz s0), .int (iz s1), .ref (ad 197), .int (iz rm), .ref (ad 198), .ref (ad 199)]) := by rw [hg_35]; exact gu_self _ _ _
    have hc_37 : g_34 193 = aI κ 42 f := by rw [hg_35, gu_ne (by decide)]; exact hc_4
    have hc_38 : g_34 194 = aI κ 28896 M9 := by rw [hg_35, gu_ne (by decide)]; exact hc_5
    have hc_39 : g_34 195 = aI κ 100 X9 := by rw [hg_35, gu_ne (by decide)]; exact hc_6
    have hc_40 : g_34 196 = aI κ 42 q9 := by rw [hg_35, gu_ne (by decide)]; exact hc_7
    have hc_41 : g_34 197 = aI κ 602 pa := by rw [hg_35, gu_ne (by decide)]; exact hc_8
    have hc_42 : g_34 198 = aI κ 43 be := by rw [hg_35, gu_ne (by decide)]; exact hc_9
    have hc_43 : g_34 199 = aI κ 86 sv := by rw [hg_35, gu_ne (by decide)]; exact hc_10
    refine g_iret C G hr hlk (Nat.le_of_ble_eq_true rfl) (Nat.le_of_ble_eq_true rfl) dX8_undo_17 ?_
    exact ⟨Or.inl ⟨by omega, ⟨_, _, _, _, _, _, _, hc_36, hc_37, hc_38, hc_39, hc_40, hc_41, hc_42, hc_43, by omega, hMr, hinq⟩⟩, fun q hq => (((congrFun hg_35 q).trans (gu_ne (by omega))).trans ((congrFun hg_2 q).trans (gu_ne (by omega))))⟩
theorem fwX8_save_31 : gFldW wsX8_save RX8 31 8 2 .int false := ⟨RX8, TX8, 17, tyX8, rfl, by decide, by decide +kernel, by decide +kernel, tyX8_ok, nmX8, rfl, by decide +kernel, by decide +kernel⟩
theorem fX8_save_28 : gFld wsX8_save RX8 28 8 16 := ⟨RX8, TX8, 17, rfl, by decide, by decide +kernel, by decide +kernel⟩
theorem fX8_save_114 : gFld wsX8_save RX8 114 8 11 := ⟨RX8, TX8, 17, rfl, by decide, by decide +kernel, by decide +kernel⟩
theorem fwX8_save_114 : gFldW wsX8_save RX8 114 8 11 .boolean false := ⟨RX8, TX8, 17, tyX8, rfl, by decide, by decide +kernel, by decide +kernel, tyX8_ok, nmX8, rfl, by decide +kernel, by decide +kernel⟩
theorem fX8_save_117 : gFld wsX8_save RX8 117 8 12 := ⟨RX8, TX8, 17, rfl, by decide, by decide +kernel, by decide +kernel⟩
theorem fwX8_save_117 : gFldW wsX8_save RX8 117 8 12 .boolean false := ⟨RX8, TX8, 17, tyX8, rfl, by decide, by decide +kernel, by decide +kernel, tyX8_ok, nmX8, rfl, by decide +kernel, by decide +kernel⟩
theorem fX8_save_35 : gFld wsX8_save RX8 35 8 1 := ⟨RX8, TX8, 17, rfl, by decide, by decide +kernel, by decide +kernel⟩
set_option maxHeartbeats 4000000 in
set_option maxRecDepth 100000 in
theorem c_X8_save (l : Launch) (κ : gKap) (B n : Nat) (ad : Nat → Nat) (g : Nat → va_E) (ly : Int) (th : Int) (mk : Int) (tx : Int) (rl : Int) (a0 : Int) (wr : Int) (s0 : Int) (s1 : Int) (rm : Int) (f : Int → Int) (M9 : Int → Int) (X9 : Int → Int) (q9 : Int → Int) (pa : Int → Int) (be : Int → Int) (sv : Int → Int) (sl : Int) (hn8 : 200 ≤ n) (hM : g 192 = oM ad ly th mk tx rl a0 wr s0 s1 rm) (hN : g 193 = aI κ 42 f) (hK : g 194 = aI κ 28896 M9) (hT : g 195 = aI κ 100 X9) (hRd : g 196 = aI κ 42 q9) (hPa : g 197 = aI κ 602 pa) (hBe : g 198 = aI κ 43 be) (hSv : g 199 = aI κ 86 sv) (hok : okPl ly f) (hmk : 0 ≤ mk ∧ mk ≤ 800000000) (hMr : ∀ i, 0 ≤ i → i < 28896 → 0 ≤ M9 i ∧ M9 i ≤ mk) (hinq : inV q9) (hs01 : (s0 = 0 ∨ s0 = 1) ∧ (s1 = 0 ∨ s1 = 1)) (hsl : inI sl) : Met l yX8_save wsX8_save ({ frames := 1, cells := 0, slots := 0, locals := 25 }) (gPre κ B n ad g [.ref (ad 192), .int (iz sl)]) (gQi κ B n ad (fun z g' => (((¬ (0 ≤ sl ∧ sl < 2)) ∧ jkM κ ad g' ly 1 tx s0 s1 rm (mk + 1000) f X9 pa sv) ∨ ((sl = 0 ∧ z = ly) ∧ jkM κ ad g' ly 0 tx 1 s1 rm (mk + 1000) f X9 pa (stF sv (43 * sl) ly f)) ∨ ((sl = 1 ∧ z = ly) ∧ jkM κ ad g' ly 0 tx s0 1 rm (mk + 1000) f X9 pa (stF sv (43 * sl) ly f))) ∧ frM g g')) 0 0 (gFree B) := by
  refine g_met RX8 (cc := cX8_save) (maxL := 2) (ret := (some .int)) (by decide) rfl rfl (Nat.le_of_ble_eq_true rfl) ?_
  intro p e s m args below meth c C hr hlk hnm G ls hl
  have hl : lv_has ls 2 [(0, .ref (ad 192)), (1, .int (iz sl))] := hl
  obtain ⟨hn6, hv0, hv25, hlay, hsee⟩ := id hok
  refine g_aload_n C dX8_save_0 rfl hl 0 rfl ?_
  refine g_iconst (a := 0) C dX8_save_1 rfl ?_
  refine g_put C G (pos := 192) (fs' := [.ref (ad 193), .int (iz ly), .int (iz 0), .ref (ad 194), .int (iz mk), .ref (ad 195), .int (iz tx), .ref (ad 196), .int (iz rl), .int (iz a0), .int (iz wr), .int (iz s0), .int (iz s1), .ref (ad 197), .int (iz rm), .ref (ad 198), .ref (ad 199)]) fwX8_save_31 (by omega) hM (Nat.le_of_ble_eq_true rfl) rfl rfl rfl dX8_save_2 (fun H locs G => ?_)
  obtain ⟨g_1, hg_2⟩ : ∃ g9, g9 = va_up g 192 (.inr (8, [.ref (ad 193), .int (iz ly), .int (iz 0), .ref (ad 194), .int (iz mk), .ref (ad 195), .int (iz tx), .ref (ad 196), .int (iz rl), .int (iz a0), .int (iz wr), .int (iz s0), .int (iz s1), .ref (ad 197), .int (iz rm), .ref (ad 198), .ref (ad 199)])) := ⟨_, rfl⟩
  rw [← hg_2] at G
  have hc_3 : g_1 192 = .inr (8, [.ref (ad 193), .int (iz ly), .int (iz 0), .ref (ad 194), .int (iz mk), .ref (ad 195), .int (iz tx), .ref (ad 196), .int (iz rl), .int (iz a0), .int (iz wr), .int (iz s0), .int (iz s1), .ref (ad 197), .int (iz rm), .ref (ad 198), .ref (ad 199)]) := by rw [hg_2]; exact gu_self _ _ _
  have hc_4 : g_1 193 = aI κ 42 f := by rw [hg_2, gu_ne (by decide)]; exact hN
  have hc_5 : g_1 194 = aI κ 28896 M9 := by rw [hg_2, gu_ne (by decide)]; exact hK
  have hc_6 : g_1 195 = aI κ 100 X9 := by rw [hg_2, gu_ne (by decide)]; exact hT
  have hc_7 : g_1 196 = aI κ 42 q9 := by rw [hg_2, gu_ne (by decide)]; exact hRd
  have hc_8 : g_1 197 = aI κ 602 pa := by rw [hg_2, gu_ne (by decide)]; exact hPa
  have hc_9 : g_1 198 = aI κ 43 be := by rw [hg_2, gu_ne (by decide)]; exact hBe
  have hc_10 : g_1 199 = aI κ 86 sv := by rw [hg_2, gu_ne (by decide)]; exact hSv
  refine g_iload_n C dX8_save_5 rfl hl 1 rfl ?_
  refine g_i2l C (by omega) dX8_save_6 ?_
  refine g_lconst (a := 0) C dX8_save_7 (by decide) ?_
  refine g_lconst (a := 1) C dX8_save_8 (by decide) ?_
  refine g_ci C G (g_runS (As := [.long (jz sl), .long (jz 0), .long (jz 1)]) (rest := []) C G (c_X8_in l κ B n ad g_1 sl 0 1 (by omega) (by omega) (by omega)) (va_cwS 3 C.1.2.2.2.2 gX8_save_X8_in rfl rfl rfl (by decide +kernel) ⟨Nat.le_of_ble_eq_true rfl, Nat.le_of_ble_eq_true rfl⟩) rfl hl rfl (Nat.le_of_ble_eq_true rfl) dX8_save_9 ⟨Nat.le_of_ble_eq_true rfl, Nat.le_of_ble_eq_true rfl⟩) (fun z_12 g9 H locs hw G => ?_)
  obtain ⟨hg9, hw⟩ := hw
  replace hg9 := hg9.symm
  subst hg9
  rcases hw with ⟨b_11, rfl⟩ | ⟨b_11, rfl⟩
  · refine g_if_ne (tgt := 21) C (by decide) dX8_save_12 (by decide) (fun _ => ?_) (fun c9 => absurd c9 (by decide))
    refine g_aload_n C dX8_save_21 rfl hl 0 rfl ?_
    refine g_aload_n C dX8_save_22 rfl hl 0 rfl ?_
    refine g_get C G (pos := 192) fX8_save_28 (by omega) hc_3 rfl dX8_save_23 ?_
    refine g_bipush (a := 43) C dX8_save_26 (by decide) ?_
    refine g_iload_n C dX8_save_28 rfl hl 1 rfl ?_
    refine g_imul C dX8_save_29 ?_
    refine g_cv C G (g_runV (As := [.ref (ad 199), .int (iz (43 * sl))]) (rest := []) (pos := 192) C G (c_X8_store l κ B n ad g_1 ly 0 mk tx rl a0 wr s0 s1 rm f 199 86 sv (43 * sl) hn8 hc_3 hc_4 (by omega) hc_10 (by omega)) (cwV 2 C.1.2.2.2.2 gX8_save_X8_store rfl rfl rfl (by decide +kernel) ⟨Nat.le_of_ble_eq_true rfl, Nat.le_of_ble_eq_true rfl⟩) (by omega) hc_3 (T := TX8) (N := 17) rfl rfl hl rfl (Nat.le_of_ble_eq_true rfl) dX8_save_30 ⟨Nat.le_of_ble_eq_true rfl, Nat.le_of_ble_eq_true rfl⟩) (fun g9 H locs hw G => ?_)
    subst hw
    obtain ⟨g_13, hg_14⟩ : ∃ g9, g9 = va_up g_1 199 (aI κ 86 (stF sv (43 * sl) ly f)) := ⟨_, rfl⟩
    rw [← hg_14] at G
    have hc_15 : g_13 192 = .inr (8, [.ref (ad 193), .int (iz ly), .int (iz 0), .ref (ad 194), .int (iz mk), .ref (ad 195), .int (iz tx), .ref (ad 196), .int (iz rl), .int (iz a0), .int (iz wr), .int (iz s0), .int (iz s1), .ref (ad 197), .int (iz rm), .ref (ad 198), .ref (ad 199)]) := by rw [hg_14, gu_ne (by decide)]; exact hc_3
    have hc_16 : g_13 193 = aI κ 42 f := by rw [hg_14, gu_ne (by decide)]; exact hc_4
    have hc_17 : g_13 194 = aI κ 28896 M9 := by rw [hg_14, gu_ne (by decide)]; exact hc_5
    have hc_18 : g_13 195 = aI κ 100 X9 := by rw [hg_14, gu_ne (by decide)]; exact hc_6
    have hc_19 : g_13 196 = aI κ 42 q9 := by rw [hg_14, gu_ne (by decide)]; exact hc_7
    have hc_20 : g_13 197 = aI κ 602 pa := by rw [hg_14, gu_ne (by decide)]; exact hc_8
    have hc_21 : g_13 198 = aI κ 43 be := by rw [hg_14, gu_ne (by decide)]; exact hc_9
    have hc_22 : g_13 199 = aI κ 86 (stF sv (43 * sl) ly f) := by rw [hg_14]; exact gu_self _ _ _
    refine g_aload_n C dX8_save_33 rfl hl 0 rfl ?_
    refine g_aload_n C dX8_save_34 rfl hl 0 rfl ?_
    refine g_get C G (pos := 192) fX8_save_114 (by omega) hc_15 rfl dX8_save_35 ?_
    refine g_if_ne (tgt := 45) C (by omega) dX8_save_38 (by decide) (fun c_23 => ?_) (fun c_23 => ?_)
    · refine g_iconst (a := 1) C dX8_save_45 rfl ?_
      refine g_goto (tgt := 50) C dX8_save_46 (by decide) ?_
      refine g_put C G (pos := 192) (fs' := [.ref (ad 193), .int (iz ly), .int (iz 0), .ref (ad 194), .int (iz mk), .ref (ad 195), .int (iz tx), .ref (ad 196), .int (iz rl), .int (iz a0), .int (iz wr), .int (iz 1), .int (iz s1), .ref (ad 197), .int (iz rm), .ref (ad 198), .ref (ad 199)]) fwX8_save_114 (by omega) hc_15 (Nat.le_of_ble_eq_true rfl) rfl (gnar_z (by decide)) rfl dX8_save_50 (fun H locs G => ?_)
      obtain ⟨g_24, hg_25⟩ : ∃ g9, g9 = va_up g_13 192 (.inr (8, [.ref (ad 193), .int (iz ly), .int (iz 0), .ref (ad 194), .int (iz mk), .ref (ad 195), .int (iz tx), .ref (ad 196), .int (iz rl), .int (iz a0), .int (iz wr), .int (iz 1), .int (iz s1), .ref (ad 197), .int (iz rm), .ref (ad 198), .ref (ad 199)])) := ⟨_, rfl⟩
      rw [← hg_25] at G
      have hc_26 : g_24 192 = .inr (8, [.ref (ad 193), .int (iz ly), .int (iz 0), .ref (ad 194), .int (iz mk), .ref (ad 195), .int (iz tx), .ref (ad 196), .int (iz rl), .int (iz a0), .int (iz wr), .int (iz 1), .int (iz s1), .ref (ad 197), .int (iz rm), .ref (ad 198), .ref (ad 199)]) := by rw [hg_25]; exact gu_self _ _ _
      have hc_27 : g_24 193 = aI κ 42 f := by rw [hg_25, gu_ne (by decide)]; exact hc_16
      have hc_28 : g_24 194 = aI κ 28896 M9 := by rw [hg_25, gu_ne (by decide)]; exact hc_17
      have hc_29 : g_24 195 = aI κ 100 X9 := by rw [hg_25, gu_ne (by decide)]; exact hc_18
      have hc_30 : g_24 196 = aI κ 42 q9 := by rw [hg_25, gu_ne (by decide)]; exact hc_19
      have hc_31 : g_24 197 = aI κ 602 pa := by rw [hg_25, gu_ne (by decide)]; exact hc_20
      have hc_32 : g_24 198 = aI κ 43 be := by rw [hg_25, gu_ne (by decide)]; exact hc_21
      have hc_33 : g_24 199 = aI κ 86 (stF sv (43 * sl) ly f) := by rw [hg_25, gu_ne (by decide)]; exact hc_22
      refine g_aload_n C dX8_save_53 rfl hl 0 rfl ?_
      refine g_aload_n C dX8_save_54 rfl hl 0 rfl ?_
      refine g_get C G (pos := 192) fX8_save_117 (by omega) hc_26 rfl dX8_save_55 ?_
      refine g_if_ne (tgt := 66) C (by omega) dX8_save_58 (by decide) (fun c_34 => ?_) (fun c_34 => ?_)
      · refine g_iconst (a := 1) C dX8_save_66 rfl ?_
        refine g_goto (tgt := 71) C dX8_save_67 (by decide) ?_
        refine g_put C G (pos := 192) (fs' := [.ref (ad 193), .int (iz ly), .int (iz 0), .ref (ad 194), .int (iz mk), .ref (ad 195), .int (iz tx), .ref (ad 196), .int (iz rl), .int (iz a0), .int (iz wr), .int (iz 1), .int (iz 1), .ref (ad 197), .int (iz rm), .ref (ad 198), .ref (ad 199)]) fwX8_save_117 (by omega) hc_26 (Nat.le_of_ble_eq_true rfl) rfl (gnar_z (by decide)) rfl dX8_save_71 (fun H locs G => ?_)
        obtain ⟨g_35, hg_36⟩ : ∃ g9, g9 = va_up g_24 192 (.inr (8, [.ref (ad 193), .int (iz ly), .int (iz 0), .ref (ad 194), .int (iz mk), .ref (ad 195), .int (iz tx), .ref (ad 196), .int (iz rl), .int (iz a0), .int (iz wr), .int (iz 1), .int (iz 1), .ref (ad 197), .int (iz rm), .ref (ad 198), .ref (ad 199)])) := ⟨_, rfl⟩
        rw [← hg_36] at G
        have hc_37 : g_35 192 = .inr (8, [.ref (ad 193), .int (iz ly), .int (iz 0), .ref (ad 194), .int (iz mk), .ref (ad 195), .int (iz tx), .ref (ad 196), .int (iz rl), .int (iz a0), .int (iz wr), .int (iz 1), .int (iz 1), .ref (ad 197), .int (iz rm), .ref (ad 198), .ref (ad 199)]) := by rw [hg_36]; exact gu_self _ _ _
        have hc_38 : g_35 193 = aI κ 42 f := by rw [hg_36, gu_ne (by decide)]; exact hc_27
        have hc_39 : g_35 194 = aI κ 28896 M9 := by rw [hg_36, gu_ne (by decide)]; exact hc_28
        have hc_40 : g_35 195 = aI κ 100 X9 := by rw [hg_36, gu_ne (by decide)]; exact hc_29
        have hc_41 : g_35 196 = aI κ 42 q9 := by rw [hg_36, gu_ne (by decide)]; exact hc_30
        have hc_42 : g_35 197 = aI κ 602 pa := by rw [hg_36, gu_ne (by decide)]; exact hc_31
        have hc_43 : g_35 198 = aI κ 43 be := by rw [hg_36, gu_ne (by decide)]; exact hc_32
        have hc_44 : g_35 199 = aI κ 86 (stF sv (43 * sl) ly f) := by rw [hg_36, gu_ne (by decide)]; exact hc_33
        refine g_aload_n C dX8_save_74 rfl hl 0 rfl ?_
        refine g_get C G (pos := 192) fX8_save_35 (by omega) hc_37 rfl dX8_save_75 ?_
        refine g_iret C G hr hlk (Nat.le_of_ble_eq_true rfl) (Nat.le_of_ble_eq_true rfl) dX8_save_78 ?_
        have hsl9 : sl = 0 ∨ sl = 1 := by omega
        rcases hsl9 with hsl0 | hsl1
        · first | (exfalso; omega; done) | (have hc_45 : g_35 192 = .inr (8, [.ref (ad 193), .int (iz ly), .int (iz 0), .ref (ad 194), .int (iz mk), .ref (ad 195), .int (iz tx), .ref (ad 196), .int (iz rl), .int (iz a0), .int (iz wr), .int (iz 1), .int (iz s1), .ref (ad 197), .int (iz rm), .ref (ad 198), .ref (ad 199)]) := (by rw [show (1 : Int) = 1 by omega, show (s1 : Int) = 1 by omega]; exact hc_37); exact ⟨Or.inr (Or.inl ⟨⟨hsl0, rfl⟩, ⟨_, _, _, _, _, _, _, hc_45, hc_38, hc_39, hc_40, hc_41, hc_42, hc_43, hc_44, by omega, hMr, hinq⟩⟩), fun q hq => (((congrFun hg_36 q).trans (gu_ne (by omega))).trans (((congrFun hg_25 q).trans (gu_ne (by omega))).trans (((congrFun hg_14 q).trans (gu_ne (by omega))).trans ((congrFun hg_2 q).trans (gu_ne (by omega))))))⟩)
        · first | (exfalso; omega; done) | (have hc_46 : g_35 192 = .inr (8, [.ref (ad 193), .int (iz ly), .int (iz 0), .ref (ad 194), .int (iz mk), .ref (ad 195), .int (iz tx), .ref (ad 196), .int (iz rl), .int (iz a0), .int (iz wr), .int (iz s0), .int (iz 1), .ref (ad 197), .int (iz rm), .ref (ad 198), .ref (ad 199)]) := (by rw [show (s0 : Int) = 1 by omega, show (1 : Int) = 1 by omega]; exact hc_37); exact ⟨Or.inr (Or.inr (⟨⟨hsl1, rfl⟩, ⟨_, _, _, _, _, _, _, hc_46, hc_38, hc_39, hc_40, hc_41, hc_42, hc_43, hc_44, by omega, hMr, hinq⟩⟩)), fun q hq => (((congrFun hg_36 q).trans (gu_ne (by omega))).trans (((congrFun hg_25 q).trans (gu_ne (by omega))).trans (((congrFun hg_14 q).trans (gu_ne (by omega))).trans ((congrFun hg_2 q).trans (gu_ne (by omega))))))⟩)
      · refine g_iload_n C dX8_save_61 rfl hl 1 rfl ?_
        refine g_iconst (a := 1) C dX8_save_62 rfl ?_
        refine g_icmp_ne (tgt := 70) C (by omega) (by decide) dX8_save_63 (by decide) (fun c_47 => ?_) (fun c_47 => ?_)
        · refine g_iconst (a := 0) C dX8_save_70 rfl ?_
          refine g_put C G (pos := 192) (fs' := [.ref (ad 193), .int (iz ly), .int (iz 0), .ref (ad 194), .int (iz mk), .ref (ad 195), .int (iz tx), .ref (ad 196), .int (iz rl), .int (iz a0), .int (iz wr), .int (iz 1), .int (iz 0), .ref (ad 197), .int (iz rm), .ref (ad 198), .ref (ad 199)]) fwX8_save_117 (by omega) hc_26 (Nat.le_of_ble_eq_true rfl) rfl (gnar_z (by decide)) rfl dX8_save_71 (fun H locs G => ?_)
          obtain ⟨g_48, hg_49⟩ : ∃ g9, g9 = va_up g_24 192 (.inr (8, [.ref (ad 193), .int (iz ly), .int (iz 0), .ref (ad 194), .int (iz mk), .ref (ad 195), .int (iz tx), .ref (ad 196), .int (iz rl), .int (iz a0), .int (iz wr), .int (iz 1), .int (iz 0), .ref (ad 197), .int (iz rm), .ref (ad 198), .ref (ad 199)])) := ⟨_, rfl⟩
          rw [← hg_49] at G
          have hc_50 : g_48 192 = .inr (8, [.ref (ad 193), .int (iz ly), .int (iz 0), .ref (ad 194), .int (iz mk), .ref (ad 195), .int (iz tx), .ref (ad 196), .int (iz rl), .int (iz a0), .int (iz wr), .int (iz 1), .int (iz 0), .ref (ad 197), .int (iz rm), .ref (ad 198), .ref (ad 199)]) := by rw [hg_49]; exact gu_self _ _ _
          have hc_51 : g_48 193 = aI κ 42 f := by rw [hg_49, gu_ne (by decide)]; exact hc_27
          have hc_52 : g_48 194 = aI κ 28896 M9 := by rw [hg_49, gu_ne (by decide)]; exact hc_28
          have hc_53 : g_48 195 = aI κ 100 X9 := by rw [hg_49, gu_ne (by decide)]; exact hc_29
          have hc_54 : g_48 196 = aI κ 42 q9 := by rw [hg_49, gu_ne (by decide)]; exact hc_30
          have hc_55 : g_48 197 = aI κ 602 pa := by rw [hg_49, gu_ne (by decide)]; exact hc_31
          have hc_56 : g_48 198 = aI κ 43 be := by rw [hg_49, gu_ne (by decide)]; exact hc_32
          have hc_57 : g_48 199 = aI κ 86 (stF sv (43 * sl) ly f) := by rw [hg_49, gu_ne (by decide)]; exact hc_33
          refine g_aload_n C dX8_save_74 rfl hl 0 rfl ?_
          refine g_get C G (pos := 192) fX8_save_35 (by omega) hc_50 rfl dX8_save_75 ?_
          refine g_iret C G hr hlk (Nat.le_of_ble_eq_true rfl) (Nat.le_of_ble_eq_true rfl) dX8_save_78 ?_
          have hsl9 : sl = 0 ∨ sl = 1 := by omega
          rcases hsl9 with hsl0 | hsl1
          · first | (exfalso; omega; done) | (have hc_58 : g_48 192 = .inr (8, [.ref (ad 193), .int (iz ly), .int (iz 0), .ref (ad 194), .int (iz mk), .ref (ad 195), .int (iz tx), .ref (ad 196), .int (iz rl), .int (iz a0), .int (iz wr), .int (iz 1), .int (iz s1), .ref (ad 197), .int (iz rm), .ref (ad 198), .ref (ad 199)]) := (by rw [show (1 : Int) = 1 by omega, show (s1 : Int) = 0 by omega]; exact hc_50); exact ⟨Or.inr (Or.inl ⟨⟨hsl0, rfl⟩, ⟨_, _, _, _, _, _, _, hc_58, hc_51, hc_52, hc_53, hc_54, hc_55, hc_56, hc_57, by omega, hMr, hinq⟩⟩), fun q hq => (((congrFun hg_49 q).trans (gu_ne (by omega))).trans (((congrFun hg_25 q).trans (gu_ne (by omega))).trans (((congrFun hg_14 q).trans (gu_ne (by omega))).trans ((congrFun hg_2 q).trans (gu_ne (by omega))))))⟩)
          · first | (exfalso; omega; done) | (have hc_59 : g_48 192 = .inr (8, [.ref (ad 193), .int (iz ly), .int (iz 0), .ref (ad 194), .int (iz mk), .ref (ad 195), .int (iz tx), .ref (ad 196), .int (iz rl), .int (iz a0), .int (iz wr), .int (iz s0), .int (iz 1), .ref (ad 197), .int (iz rm), .ref (ad 198), .ref (ad 199)]) := (by rw [show (s0 : Int) = 1 by omega, show (1 : Int) = 0 by omega]; exact hc_50); exact ⟨Or.inr (Or.inr (⟨⟨hsl1, rfl⟩, ⟨_, _, _, _, _, _, _, hc_59, hc_51, hc_52, hc_53, hc_54, hc_55, hc_56, hc_57, by omega, hMr, hinq⟩⟩)), fun q hq => (((congrFun hg_49 q).trans (gu_ne (by omega))).trans (((congrFun hg_25 q).trans (gu_ne (by omega))).trans (((congrFun hg_14 q).trans (gu_ne (by omega))).trans ((congrFun hg_2 q).trans (gu_ne (by omega))))))⟩)
        · refine g_iconst (a := 1) C dX8_save_66 rfl ?_
          refine g_goto (tgt := 71) C dX8_save_67 (by decide) ?_
          refine g_put C G (pos := 192) (fs' := [.ref (ad 193), .int (iz ly), .int (iz 0), .ref (ad 194), .int (iz mk), .ref (ad 195), .int (iz tx), .ref (ad 196), .int (iz rl), .int (iz a0), .int (iz wr), .int (iz 1), .int (iz 1), .ref (ad 197), .int (iz rm), .ref (ad 198), .ref (ad 199)]) fwX8_save_117 (by omega) hc_26 (Nat.le_of_ble_eq_true rfl) rfl (gnar_z (by decide)) rfl dX8_save_71 (fun H locs G => ?_)
          obtain ⟨g_60, hg_61⟩ : ∃ g9, g9 = va_up g_24 192 (.inr (8, [.ref (ad 193), .int (iz ly), .int (iz 0), .ref (ad 194), .int (iz mk), .ref (ad 195), .int (iz tx), .ref (ad 196), .int (iz rl), .int (iz a0), .int (iz wr), .int (iz 1), .int (iz 1), .ref (ad 197), .int (iz rm), .ref (ad 198), .ref (ad 199)])) := ⟨_, rfl⟩
          rw [← hg_61] at G
          have hc_62 : g_60 192 = .inr (8, [.ref (ad 193), .int (iz ly), .int (iz 0), .ref (ad 194), .int (iz mk), .ref (ad 195), .int (iz tx), .ref (ad 196), .int (iz rl), .int (iz a0), .int (iz wr), .int (iz 1), .int (iz 1), .ref (ad 197), .int (iz rm), .ref (ad 198), .ref (ad 199)]) := by rw [hg_61]; exact gu_self _ _ _
          have hc_63 : g_60 193 = aI κ 42 f := by rw [hg_61, gu_ne (by decide)]; exact hc_27
          have hc_64 : g_60 194 = aI κ 28896 M9 := by rw [hg_61, gu_ne (by decide)]; exact hc_28
          have hc_65 : g_60 195 = aI κ 100 X9 := by rw [hg_61, gu_ne (by decide)]; exact hc_29
          have hc_66 : g_60 196 = aI κ 42 q9 := by rw [hg_61, gu_ne (by decide)]; exact hc_30
          have hc_67 : g_60 197 = aI κ 602 pa := by rw [hg_61, gu_ne (by decide)]; exact hc_31
          have hc_68 : g_60 198 = aI κ 43 be := by rw [hg_61, gu_ne (by decide)]; exact hc_32
          have hc_69 : g_60 199 = aI κ 86 (stF sv (43 * sl) ly f) := by rw [hg_61, gu_ne (by decide)]; exact hc_33
          refine g_aload_n C dX8_save_74 rfl hl 0 rfl ?_
          refine g_get C G (pos := 192) fX8_save_35 (by omega) hc_62 rfl dX8_save_75 ?_
          refine g_iret C G hr hlk (Nat.le_of_ble_eq_true rfl) (Nat.le_of_ble_eq_true rfl) dX8_save_78 ?_
          have hsl9 : sl = 0 ∨ sl = 1 := by omega
          rcases hsl9 with hsl0 | hsl1
          · first | (exfalso; omega; done) | (have hc_70 : g_60 192 = .inr (8, [.ref (ad 193), .int (iz ly), .int (iz 0), .ref (ad 194), .int (iz mk), .ref (ad 195), .int (iz tx), .ref (ad 196), .int (iz rl), .int (iz a0), .int (iz wr), .int (iz 1), .int (iz s1), .ref (ad 197), .int (iz rm), .ref (ad 198), .ref (ad 199)]) := (by rw [show (1 : Int) = 1 by omega, show (s1 : Int) = 1 by omega]; exact hc_62); exact ⟨Or.inr (Or.inl ⟨⟨hsl0, rfl⟩, ⟨_, _, _, _, _, _, _, hc_70, hc_63, hc_64, hc_65, hc_66, hc_67, hc_68, hc_69, by omega, hMr, hinq⟩⟩), fun q hq => (((congrFun hg_61 q).trans (gu_ne (by omega))).trans (((congrFun hg_25 q).trans (gu_ne (by omega))).trans (((congrFun hg_14 q).trans (gu_ne (by omega))).trans ((congrFun hg_2 q).trans (gu_ne (by omega))))))⟩)
          · first | (exfalso; omega; done) | (have hc_71 : g_60 192 = .inr (8, [.ref (ad 193), .int (iz ly), .int (iz 0), .ref (ad 194), .int (iz mk), .ref (ad 195), .int (iz tx), .ref (ad 196), .int (iz rl), .int (iz a0), .int (iz wr), .int (iz s0), .int (iz 1), .ref (ad 197), .int (iz rm), .ref (ad 198), .ref (ad 199)]) := (by rw [show (s0 : Int) = 1 by omega, show (1 : Int) = 1 by omega]; exact hc_62); exact ⟨Or.inr (Or.inr (⟨⟨hsl1, rfl⟩, ⟨_, _, _, _, _, _, _, hc_71, hc_63, hc_64, hc_65, hc_66, hc_67, hc_68, hc_69, by omega, hMr, hinq⟩⟩)), fun q hq => (((congrFun hg_61 q).trans (gu_ne (by omega))).trans (((congrFun hg_25 q).trans (gu_ne (by omega))).trans (((congrFun hg_14 q).trans (gu_ne (by omega))).trans ((congrFun hg_2 q).trans (gu_ne (by omega))))))⟩)
    · refine g_iload_n C dX8_save_41 rfl hl 1 rfl ?_
      refine g_if_ne (tgt := 49) C (by omega) dX8_save_42 (by decide) (fun c_72 => ?_) (fun c_72 => ?_)
      · refine g_iconst (a := 0) C dX8_save_49 rfl ?_
        refine g_put C G (pos := 192) (fs' := [.ref (ad 193), .int (iz ly), .int (iz 0), .ref (ad 194), .int (iz mk), .ref (ad 195), .int (iz tx), .ref (ad 196), .int (iz rl), .int (iz a0), .int (iz wr), .int (iz 0), .int (iz s1), .ref (ad 197), .int (iz rm), .ref (ad 198), .ref (ad 199)]) fwX8_save_114 (by omega) hc_15 (Nat.le_of_ble_eq_true rfl) rfl (gnar_z (by decide)) rfl dX8_save_50 (fun H locs G => ?_)
        obtain ⟨g_73, hg_74⟩ : ∃ g9, g9 = va_up g_13 192 (.inr (8, [.ref (ad 193), .int (iz ly), .int (iz 0), .ref (ad 194), .int (iz mk), .ref (ad 195), .int (iz tx), .ref (ad 196), .int (iz rl), .int (iz a0), .int (iz wr), .int (iz 0), .int (iz s1), .ref (ad 197), .int (iz rm), .ref (ad 198), .ref (ad 199)])) := ⟨_, rfl⟩
        rw [← hg_74] at G
        have hc_75 : g_73 192 = .inr (8, [.ref (ad 193), .int (iz ly), .int (iz 0), .ref (ad 194), .int (iz mk), .ref (ad 195), .int (iz tx), .ref (ad 196), .int (iz rl), .int (iz a0), .int (iz wr), .int (iz 0), .int (iz s1), .ref (ad 197), .int (iz rm), .ref (ad 198), .ref (ad 199)]) := by rw [hg_74]; exact gu_self _ _ _
        have hc_76 : g_73 193 = aI κ 42 f := by rw [hg_74, gu_ne (by decide)]; exact hc_16
        have hc_77 : g_73 194 = aI κ 28896 M9 := by rw [hg_74, gu_ne (by decide)]; exact hc_17
        have hc_78 : g_73 195 = aI κ 100 X9 := by rw [hg_74, gu_ne (by decide)]; exact hc_18
        have hc_79 : g_73 196 = aI κ 42 q9 := by rw [hg_74, gu_ne (by decide)]; exact hc_19
        have hc_80 : g_73 197 = aI κ 602 pa := by rw [hg_74, gu_ne (by decide)]; exact hc_20
        have hc_81 : g_73 198 = aI κ 43 be := by rw [hg_74, gu_ne (by decide)]; exact hc_21
        have hc_82 : g_73 199 = aI κ 86 (stF sv (43 * sl) ly f) := by rw [hg_74, gu_ne (by decide)]; exact hc_22
        refine g_aload_n C dX8_save_53 rfl hl 0 rfl ?_
        refine g_aload_n C dX8_save_54 rfl hl 0 rfl ?_
        refine g_get C G (pos := 192) fX8_save_117 (by omega) hc_75 rfl dX8_save_55 ?_
        refine g_if_ne (tgt := 66) C (by omega) dX8_save_58 (by decide) (fun c_83 => ?_) (fun c_83 => ?_)
        · refine g_iconst (a := 1) C dX8_save_66 rfl ?_
          refine g_goto (tgt := 71) C dX8_save_67 (by decide) ?_
          refine g_put C G (pos := 192) (fs' := [.ref (ad 193), .int (iz ly), .int (iz 0), .ref (ad 194), .int (iz mk), .ref (ad 195), .int (iz tx), .ref (ad 196), .int (iz rl), .int (iz a0), .int (iz wr), .int (iz 0), .int (iz 1), .ref (ad 197), .int (iz rm), .ref (ad 198), .ref (ad 199)]) fwX8_save_117 (by omega) hc_75 (Nat.le_of_ble_eq_true rfl) rfl (gnar_z (by decide)) rfl dX8_save_71 (fun H locs G => ?_)
          obtain ⟨g_84, hg_85⟩ : ∃ g9, g9 = va_up g_73 192 (.inr (8, [.ref (ad 193), .int (iz ly), .int (iz 0), .ref (ad 194), .int (iz mk), .ref (ad 195), .int (iz tx), .ref (ad 196), .int (iz rl), .int (iz a0), .int (iz wr), .int (iz 0), .int (iz 1), .ref (ad 197), .int (iz rm), .ref (ad 198), .ref (ad 199)])) := ⟨_, rfl⟩
          rw [← hg_85] at G
          have hc_86 : g_84 192 = .inr (8, [.ref (ad 193), .int (iz ly), .int (iz 0), .ref (ad 194), .int (iz mk), .ref (ad 195), .int (iz tx), .ref (ad 196), .int (iz rl), .int (iz a0), .int (iz wr), .int (iz 0), .int (iz 1), .ref (ad 197), .int (iz rm), .ref (ad 198), .ref (ad 199)]) := by rw [hg_85]; exact gu_self _ _ _
          have hc_87 : g_84 193 = aI κ 42 f := by rw [hg_85, gu_ne (by decide)]; exact hc_76
          have hc_88 : g_84 194 = aI κ 28896 M9 := by rw [hg_85, gu_ne (by decide)]; exact hc_77
          have hc_89 : g_84 195 = aI κ 100 X9 := by rw [hg_85, gu_ne (by decide)]; exact hc_78
          have hc_90 : g_84 196 = aI κ 42 q9 := by rw [hg_85, gu_ne (by decide)]; exact hc_79
          have hc_91 : g_84 197 = aI κ 602 pa := by rw [hg_85, gu_ne (by decide)]; exact hc_80
          have hc_92 : g_84 198 = aI κ 43 be := by rw [hg_85, gu_ne (by decide)]; exact hc_81
          have hc_93 : g_84 199 = aI κ 86 (stF sv (43 * sl) ly f) := by rw [hg_85, gu_ne (by decide)]; exact hc_82
          refine g_aload_n C dX8_save_74 rfl hl 0 rfl ?_
          refine g_get C G (pos := 192) fX8_save_35 (by omega) hc_86 rfl dX8_save_75 ?_
          refine g_iret C G hr hlk (Nat.le_of_ble_eq_true rfl) (Nat.le_of_ble_eq_true rfl) dX8_save_78 ?_
          have hsl9 : sl = 0 ∨ sl = 1 := by omega
          rcases hsl9 with hsl0 | hsl1
          · first | (exfalso; omega; done) | (have hc_94 : g_84 192 = .inr (8, [.ref (ad 193), .int (iz ly), .int (iz 0), .ref (ad 194), .int (iz mk), .ref (ad 195), .int (iz tx), .ref (ad 196), .int (iz rl), .int (iz a0), .int (iz wr), .int (iz 1), .int (iz s1), .ref (ad 197), .int (iz rm), .ref (ad 198), .ref (ad 199)]) := (by rw [show (1 : Int) = 0 by omega, show (s1 : Int) = 1 by omega]; exact hc_86); exact ⟨Or.inr (Or.inl ⟨⟨hsl0, rfl⟩, ⟨_, _, _, _, _, _, _, hc_94, hc_87, hc_88, hc_89, hc_90, hc_91, hc_92, hc_93, by omega, hMr, hinq⟩⟩), fun q hq => (((congrFun hg_85 q).trans (gu_ne (by omega))).trans (((congrFun hg_74 q).trans (gu_ne (by omega))).trans (((congrFun hg_14 q).trans (gu_ne (by omega))).trans ((congrFun hg_2 q).trans (gu_ne (by omega))))))⟩)
          · first | (exfalso; omega; done) | (have hc_95 : g_84 192 = .inr (8, [.ref (ad 193), .int (iz ly), .int (iz 0), .ref (ad 194), .int (iz mk), .ref (ad 195), .int (iz tx), .ref (ad 196), .int (iz rl), .int (iz a0), .int (iz wr), .int (iz s0), .int (iz 1), .ref (ad 197), .int (iz rm), .ref (ad 198), .ref (ad 199)]) := (by rw [show (s0 : Int) = 0 by omega, show (1 : Int) = 1 by omega]; exact hc_86); exact ⟨Or.inr (Or.inr (⟨⟨hsl1, rfl⟩, ⟨_, _, _, _, _, _, _, hc_95, hc_87, hc_88, hc_89, hc_90, hc_91, hc_92, hc_93, by omega, hMr, hinq⟩⟩)), fun q hq => (((congrFun hg_85 q).trans (gu_ne (by omega))).trans (((congrFun hg_74 q).trans (gu_ne (by omega))).trans (((congrFun hg_14 q).trans (gu_ne (by omega))).trans ((congrFun hg_2 q).trans (gu_ne (by omega))))))⟩)
        · refine g_iload_n C dX8_save_61 rfl hl 1 rfl ?_
          refine g_iconst (a := 1) C dX8_save_62 rfl ?_
          refine g_icmp_ne (tgt := 70) C (by omega) (by decide) dX8_save_63 (by decide) (fun c_96 => ?_) (fun c_96 => ?_)
          · refine g_iconst (a := 0) C dX8_save_70 rfl ?_
            refine g_put C G (pos := 192) (fs' := [.ref (ad 193), .int (iz ly), .int (iz 0), .ref (ad 194), .int (iz mk), .ref (ad 195), .int (iz tx), .ref (ad 196), .int (iz rl), .int (iz a0), .int (iz wr), .int (iz 0), .int (iz 0), .ref (ad 197), .int (iz rm), .ref (ad 198), .ref (ad 199)]) fwX8_save_117 (by omega) hc_75 (Nat.le_of_ble_eq_true rfl) rfl (gnar_z (by decide)) rfl dX8_save_71 (fun H locs G => ?_)
            obtain ⟨g_97, hg_98⟩ : ∃ g9, g9 = va_up g_73 192 (.inr (8, [.ref (ad 193), .int (iz ly), .int (iz 0), .ref (ad 194), .int (iz mk), .ref (ad 195), .int (iz tx), .ref (ad 196), .int (iz rl), .int (iz a0), .int (iz wr), .int (iz 0), .int (iz 0), .ref (ad 197), .int (iz rm), .ref (ad 198), .ref (ad 199)])) := ⟨_, rfl⟩
            rw [← hg_98] at G
            have hc_99 : g_97 192 = .inr (8, [.ref (ad 193), .int (iz ly), .int (iz 0), .ref (ad 194), .int (iz mk), .ref (ad 195), .int (iz tx), .ref (ad 196), .int (iz rl), .int (iz a0), .int (iz wr), .int (iz 0), .int (iz 0), .ref (ad 197), .int (iz rm), .ref (ad 198), .ref (ad 199)]) := by rw [hg_98]; exact gu_self _ _ _
            have hc_100 : g_97 193 = aI κ 42 f := by rw [hg_98, gu_ne (by decide)]; exact hc_76
            have hc_101 : g_97 194 = aI κ 28896 M9 := by rw [hg_98, gu_ne (by decide)]; exact hc_77
            have hc_102 : g_97 195 = aI κ 100 X9 := by rw [hg_98, gu_ne (by decide)]; exact hc_78
            have hc_103 : g_97 196 = aI κ 42 q9 := by rw [hg_98, gu_ne (by decide)]; exact hc_79
            have hc_104 : g_97 197 = aI κ 602 pa := by rw [hg_98, gu_ne (by decide)]; exact hc_80
            have hc_105 : g_97 198 = aI κ 43 be := by rw [hg_98, gu_ne (by decide)]; exact hc_81
            have hc_106 : g_97 199 = aI κ 86 (stF sv (43 * sl) ly f) := by rw [hg_98, gu_ne (by decide)]; exact hc_82
            refine g_aload_n C dX8_save_74 rfl hl 0 rfl ?_
            refine g_get C G (pos := 192) fX8_save_35 (by omega) hc_99 rfl dX8_save_75 ?_
            refine g_iret C G hr hlk (Nat.le_of_ble_eq_true rfl) (Nat.le_of_ble_eq_true rfl) dX8_save_78 ?_
            have hsl9 : sl = 0 ∨ sl = 1 := by omega
            rcases hsl9 with hsl0 | hsl1
            · first | (exfalso; omega; done) | (have hc_107 : g_97 192 = .inr (8, [.ref (ad 193), .int (iz ly), .int (iz 0), .ref (ad 194), .int (iz mk), .ref (ad 195), .int (iz tx), .ref (ad 196), .int (iz rl), .int (iz a0), .int (iz wr), .int (iz 1), .int (iz s1), .ref (ad 197), .int (iz rm), .ref (ad 198), .ref (ad 199)]) := (by rw [show (1 : Int) = 0 by omega, show (s1 : Int) = 0 by omega]; exact hc_99); exact ⟨Or.inr (Or.inl ⟨⟨hsl0, rfl⟩, ⟨_, _, _, _, _, _, _, hc_107, hc_100, hc_101, hc_102, hc_103, hc_104, hc_105, hc_106, by omega, hMr, hinq⟩⟩), fun q hq => (((congrFun hg_98 q).trans (gu_ne (by omega))).trans (((congrFun hg_74 q).trans (gu_ne (by omega))).trans (((congrFun hg_14 q).trans (gu_ne (by omega))).trans ((congrFun hg_2 q).trans (gu_ne (by omega))))))⟩)
            · first | (exfalso; omega; done) | (have hc_108 : g_97 192 = .inr (8, [.ref (ad 193), .int (iz ly), .int (iz 0), .ref (ad 194), .int (iz mk), .ref (ad 195), .int (iz tx), .ref (ad 196), .int (iz rl), .int (iz a0), .int (iz wr), .int (iz s0), .int (iz 1), .ref (ad 197), .int (iz rm), .ref (ad 198), .ref (ad 199)]) := (by rw [show (s0 : Int) = 0 by omega, show (1 : Int) = 0 by omega]; exact hc_99); exact ⟨Or.inr (Or.inr (⟨⟨hsl1, rfl⟩, ⟨_, _, _, _, _, _, _, hc_108, hc_100, hc_101, hc_102, hc_103, hc_104, hc_105, hc_106, by omega, hMr, hinq⟩⟩)), fun q hq => (((congrFun hg_98 q).trans (gu_ne (by omega))).trans (((congrFun hg_74 q).trans (gu_ne (by omega))).trans (((congrFun hg_14 q).trans (gu_ne (by omega))).trans ((congrFun hg_2 q).trans (gu_ne (by omega))))))⟩)
          · refine g_iconst (a := 1) C dX8_save_66 rfl ?_
            refine g_goto (tgt := 71) C dX8_save_67 (by decide) ?_
            refine g_put C G (pos := 192) (fs' := [.ref (ad 193), .int (iz ly), .int (iz 0), .ref (ad 194), .int (iz mk), .ref (ad 195), .int (iz tx), .ref (ad 196), .int (iz rl), .int (iz a0), .int (iz wr), .int (iz 0), .int (iz 1), .ref (ad 197), .int (iz rm), .ref (ad 198), .ref (ad 199)]) fwX8_save_117 (by omega) hc_75 (Nat.le_of_ble_eq_true rfl) rfl (gnar_z (by decide)) rfl dX8_save_71 (fun H locs G => ?_)
            obtain ⟨g_109, hg_110⟩ : ∃ g9, g9 = va_up g_73 192 (.inr (8, [.ref (ad 193), .int (iz ly), .int (iz 0), .ref (ad 194), .int (iz mk), .ref (ad 195), .int (iz tx), .ref (ad 196), .int (iz rl), .int (iz a0), .int (iz wr), .int (iz 0), .int (iz 1), .ref (ad 197), .int (iz rm), .ref (ad 198), .ref (ad 199)])) := ⟨_, rfl⟩
            rw [← hg_110] at G
            have hc_111 : g_109 192 = .inr (8, [.ref (ad 193), .int (iz ly), .int (iz 0), .ref (ad 194), .int (iz mk), .ref (ad 195), .int (iz tx), .ref (ad 196), .int (iz rl), .int (iz a0), .int (iz wr), .int (iz 0), .int (iz 1), .ref (ad 197), .int (iz rm), .ref (ad 198), .ref (ad 199)]) := by rw [hg_110]; exact gu_self _ _ _
            have hc_112 : g_109 193 = aI κ 42 f := by rw [hg_110, gu_ne (by decide)]; exact hc_76
            have hc_113 : g_109 194 = aI κ 28896 M9 := by rw [hg_110, gu_ne (by decide)]; exact hc_77
            have hc_114 : g_109 195 = aI κ 100 X9 := by rw [hg_110, gu_ne (by decide)]; exact hc_78
            have hc_115 : g_109 196 = aI κ 42 q9 := by rw [hg_110, gu_ne (by decide)]; exact hc_79
            have hc_116 : g_109 197 = aI κ 602 pa := by rw [hg_110, gu_ne (by decide)]; exact hc_80
            have hc_117 : g_109 198 = aI κ 43 be := by rw [hg_110, gu_ne (by decide)]; exact hc_81
            have hc_118 : g_109 199 = aI κ 86 (stF sv (43 * sl) ly f) := by rw [hg_110, gu_ne (by decide)]; exact hc_82
            refine g_aload_n C dX8_save_74 rfl hl 0 rfl ?_
            refine g_get C G (pos := 192) fX8_save_35 (by omega) hc_111 rfl dX8_save_75 ?_
            refine g_iret C G hr hlk (Nat.le_of_ble_eq_true rfl) (Nat.le_of_ble_eq_true rfl) dX8_save_78 ?_
            have hsl9 : sl = 0 ∨ sl = 1 := by omega
            rcases hsl9 with hsl0 | hsl1
            · first | (exfalso; omega; done) | (have hc_119 : g_109 192 = .inr (8, [.ref (ad 193), .int (iz ly), .int (iz 0), .ref (ad 194), .int (iz mk), .ref (ad 195), .int (iz tx), .ref (ad 196), .int (iz rl), .int (iz a0), .int (iz wr), .int (iz 1), .int (iz s1), .ref (ad 197), .int (iz rm), .ref (ad 198), .ref (ad 199)]) := (by rw [show (1 : Int) = 0 by omega, show (s1 : Int) = 1 by omega]; exact hc_111); exact ⟨Or.inr (Or.inl ⟨⟨hsl0, rfl⟩, ⟨_, _, _, _, _, _, _, hc_119, hc_112, hc_113, hc_114, hc_115, hc_116, hc_117, hc_118, by omega, hMr, hinq⟩⟩), fun q hq => (((congrFun hg_110 q).trans (gu_ne (by omega))).trans (((congrFun hg_74 q).trans (gu_ne (by omega))).trans (((congrFun hg_14 q).trans (gu_ne (by omega))).trans ((congrFun hg_2 q).trans (gu_ne (by omega))))))⟩)
            · first | (exfalso; omega; done) | (have hc_120 : g_109 192 = .inr (8, [.ref (ad 193), .int (iz ly), .int (iz 0), .ref (ad 194), .int (iz mk), .ref (ad 195), .int (iz tx), .ref (ad 196), .int (iz rl), .int (iz a0), .int (iz wr), .int (iz s0), .int (iz 1), .ref (ad 197), .int (iz rm), .ref (ad 198), .ref (ad 199)]) := (by rw [show (s0 : Int) = 0 by omega, show (1 : Int) = 1 by omega]; exact hc_111); exact ⟨Or.inr (Or.inr (⟨⟨hsl1, rfl⟩, ⟨_, _, _, _, _, _, _, hc_120, hc_112, hc_113, hc_114, hc_115, hc_116, hc_117, hc_118, by omega, hMr, hinq⟩⟩)), fun q hq => (((congrFun hg_110 q).trans (gu_ne (by omega))).trans (((congrFun hg_74 q).trans (gu_ne (by omega))).trans (((congrFun hg_14 q).trans (gu_ne (by omega))).trans ((congrFun hg_2 q).trans (gu_ne (by omega))))))⟩)
      · refine g_iconst (a := 1) C dX8_save_45 rfl ?_
        refine g_goto (tgt := 50) C dX8_save_46 (by decide) ?_
        refine g_put C G (pos := 192) (fs' := [.ref (ad 193), .int (iz ly), .int (iz 0), .ref (ad 194), .int (iz mk), .ref (ad 195), .int (iz tx), .ref (ad 196), .int (iz rl), .int (iz a0), .int (iz wr), .int (iz 1), .int (iz s1), .ref (ad 197), .int (iz rm), .ref (ad 198), .ref (ad 199)]) fwX8_save_114 (by omega) hc_15 (Nat.le_of_ble_eq_true rfl) rfl (gnar_z (by decide)) rfl dX8_save_50 (fun H locs G => ?_)
        obtain ⟨g_121, hg_122⟩ : ∃ g9, g9 = va_up g_13 192 (.inr (8, [.ref (ad 193), .int (iz ly), .int (iz 0), .ref (ad 194), .int (iz mk), .ref (ad 195), .int (iz tx), .ref (ad 196), .int (iz rl), .int (iz a0), .int (iz wr), .int (iz 1), .int (iz s1), .ref (ad 197), .int (iz rm), .ref (ad 198), .ref (ad 199)])) := ⟨_, rfl⟩
        rw [← hg_122] at G
        have hc_123 : g_121 192 = .inr (8, [.ref (ad 193), .int (iz ly), .int (iz 0), .ref (ad 194), .int (iz mk), .ref (ad 195), .int (iz tx), .ref (ad 196), .int (iz rl), .int (iz a0), .int (iz wr), .int (iz 1), .int (iz s1), .ref (ad 197), .int (iz rm), .ref (ad 198), .ref (ad 199)]) := by rw [hg_122]; exact gu_self _ _ _
        have hc_124 : g_121 193 = aI κ 42 f := by rw [hg_122, gu_ne (by decide)]; exact hc_16
        have hc_125 : g_121 194 = aI κ 28896 M9 := by rw [hg_122, gu_ne (by decide)]; exact hc_17
        have hc_126 : g_121 195 = aI κ 100 X9 := by rw [hg_122, gu_ne (by decide)]; exact hc_18
        have hc_127 : g_121 196 = aI κ 42 q9 := by rw [hg_122, gu_ne (by decide)]; exact hc_19
        have hc_128 : g_121 197 = aI κ 602 pa := by rw [hg_122, gu_ne (by decide)]; exact hc_20
        have hc_129 : g_121 198 = aI κ 43 be := by rw [hg_122, gu_ne (by decide)]; exact hc_21
        have hc_130 : g_121 199 = aI κ 86 (stF sv (43 * sl) ly f) := by rw [hg_122, gu_ne (by decide)]; exact hc_22
        refine g_aload_n C dX8_save_53 rfl hl 0 rfl ?_
        refine g_aload_n C dX8_save_54 rfl hl 0 rfl ?_
        refine g_get C G (pos := 192) fX8_save_117 (by omega) hc_123 rfl dX8_save_55 ?_
        refine g_if_ne (tgt := 66) C (by omega) dX8_save_58 (by decide) (fun c_131 => ?_) (fun c_131 => ?_)
        · refine g_iconst (a := 1) C dX8_save_66 rfl ?_
          refine g_goto (tgt := 71) C dX8_save_67 (by decide) ?_
          refine g_put C G (pos := 192) (fs' := [.ref (ad 193), .int (iz ly), .int (iz 0), .ref (ad 194), .int (iz mk), .ref (ad 195), .int (iz tx), .ref (ad 196), .int (iz rl), .int (iz a0), .int (iz wr), .int (iz 1), .int (iz 1), .ref (ad 197), .int (iz rm), .ref (ad 198), .ref (ad 199)]) fwX8_save_117 (by omega) hc_123 (Nat.le_of_ble_eq_true rfl) rfl (gnar_z (by decide)) rfl dX8_save_71 (fun H locs G => ?_)
          obtain ⟨g_132, hg_133⟩ : ∃ g9, g9 = va_up g_121 192 (.inr (8, [.ref (ad 193), .int (iz ly), .int (iz 0), .ref (ad 194), .int (iz mk), .ref (ad 195), .int (iz tx), .ref (ad 196), .int (iz rl), .int (iz a0), .int (iz wr), .int (iz 1), .int (iz 1), .ref (ad 197), .int (iz rm), .ref (ad 198), .ref (ad 199)])) := ⟨_, rfl⟩
          rw [← hg_133] at G
          have hc_134 : g_132 192 = .inr (8, [.ref (ad 193), .int (iz ly), .int (iz 0), .ref (ad 194), .int (iz mk), .ref (ad 195), .int (iz tx), .ref (ad 196), .int (iz rl), .int (iz a0), .int (iz wr), .int (iz 1), .int (iz 1), .ref (ad 197), .int (iz rm), .ref (ad 198), .ref (ad 199)]) := by rw [hg_133]; exact gu_self _ _ _
          have hc_135 : g_132 193 = aI κ 42 f := by rw [hg_133, gu_ne (by decide)]; exact hc_124
          have hc_136 : g_132 194 = aI κ 28896 M9 := by rw [hg_133, gu_ne (by decide)]; exact hc_125
          have hc_137 : g_132 195 = aI κ 100 X9 := by rw [hg_133, gu_ne (by decide)]; exact hc_126
          have hc_138 : g_132 196 = aI κ 42 q9 := by rw [hg_133, gu_ne (by decide)]; exact hc_127
          have hc_139 : g_132 197 = aI κ 602 pa := by rw [hg_133, gu_ne (by decide)]; exact hc_128
          have hc_140 : g_132 198 = aI κ 43 be := by rw [hg_133, gu_ne (by decide)]; exact hc_129
          have hc_141 : g_132 199 = aI κ 86 (stF sv (43 * sl) ly f) := by rw [hg_133, gu_ne (by decide)]; exact hc_130
          refine g_aload_n C dX8_save_74 rfl hl 0 rfl ?_
          refine g_get C G (pos := 192) fX8_save_35 (by omega) hc_134 rfl dX8_save_75 ?_
          refine g_iret C G hr hlk (Nat.le_of_ble_eq_true rfl) (Nat.le_of_ble_eq_true rfl) dX8_save_78 ?_
          have hsl9 : sl = 0 ∨ sl = 1 := by omega
          rcases hsl9 with hsl0 | hsl1
          · first | (exfalso; omega; done) | (have hc_142 : g_132 192 = .inr (8, [.ref (ad 193), .int (iz ly), .int (iz 0), .ref (ad 194), .int (iz mk), .ref (ad 195), .int (iz tx), .ref (ad 196), .int (iz rl), .int (iz a0), .int (iz wr), .int (iz 1), .int (iz s1), .ref (ad 197), .int (iz rm), .ref (ad 198), .ref (ad 199)]) := (by rw [show (1 : Int) = 1 by omega, show (s1 : Int) = 1 by omega]; exact hc_134); exact ⟨Or.inr (Or.inl ⟨⟨hsl0, rfl⟩, ⟨_, _, _, _, _, _, _, hc_142, hc_135, hc_136, hc_137, hc_138, hc_139, hc_140, hc_141, by omega, hMr, hinq⟩⟩), fun q hq => (((congrFun hg_133 q).trans (gu_ne (by omega))).trans (((congrFun hg_122 q).trans (gu_ne (by omega))).trans (((congrFun hg_14 q).trans (gu_ne (by omega))).trans ((congrFun hg_2 q).trans (gu_ne (by omega))))))⟩)
          · first | (exfalso; omega; done) | (have hc_143 : g_132 192 = .inr (8, [.ref (ad 193), .int (iz ly), .int (iz 0), .ref (ad 194), .int (iz mk), .ref (ad 195), .int (iz tx), .ref (ad 196), .int (iz rl), .int (iz a0), .int (iz wr), .int (iz s0), .int (iz 1), .ref (ad 197), .int (iz rm), .ref (ad 198), .ref (ad 199)]) := (by rw [show (s0 : Int) = 1 by omega, show (1 : Int) = 1 by omega]; exact hc_134); exact ⟨Or.inr (Or.inr (⟨⟨hsl1, rfl⟩, ⟨_, _, _, _, _, _, _, hc_143, hc_135, hc_136, hc_137, hc_138, hc_139, hc_140, hc_141, by omega, hMr, hinq⟩⟩)), fun q hq => (((congrFun hg_133 q).trans (gu_ne (by omega))).trans (((congrFun hg_122 q).trans (gu_ne (by omega))).trans (((congrFun hg_14 q).trans (gu_ne (by omega))).trans ((congrFun hg_2 q).trans (gu_ne (by omega))))))⟩)
        · refine g_iload_n C dX8_save_61 rfl hl 1 rfl ?_
          refine g_iconst (a := 1) C dX8_save_62 rfl ?_
          refine g_icmp_ne (tgt := 70) C (by omega) (by decide) dX8_save_63 (by decide) (fun c_144 => ?_) (fun c_144 => ?_)
          · refine g_iconst (a := 0) C dX8_save_70 rfl ?_
            refine g_put C G (pos := 192) (fs' := [.ref (ad 193), .int (iz ly), .int (iz 0), .ref (ad 194), .int (iz mk), .ref (ad 195), .int (iz tx), .ref (ad 196), .int (iz rl), .int (iz a0), .int (iz wr), .int (iz 1), .int (iz 0), .ref (ad 197), .int (iz rm), .ref (ad 198), .ref (ad 199)]) fwX8_save_117 (by omega) hc_123 (Nat.le_of_ble_eq_true rfl) rfl (gnar_z (by decide)) rfl dX8_save_71 (fun H locs G => ?_)
            obtain ⟨g_145, hg_146⟩ : ∃ g9, g9 = va_up g_121 192 (.inr (8, [.ref (ad 193), .int (iz ly), .int (iz 0), .ref (ad 194), .int (iz mk), .ref (ad 195), .int (iz tx), .ref (ad 196), .int (iz rl), .int (iz a0), .int (iz wr), .int (iz 1), .int (iz 0), .ref (ad 197), .int (iz rm), .ref (ad 198), .ref (ad 199)])) := ⟨_, rfl⟩
            rw [← hg_146] at G
            have hc_147 : g_145 192 = .inr (8, [.ref (ad 193), .int (iz ly), .int (iz 0), .ref (ad 194), .int (iz mk), .ref (ad 195), .int (iz tx), .ref (ad 196), .int (iz rl), .int (iz a0), .int (iz wr), .int (iz 1), .int (iz 0), .ref (ad 197), .int (iz rm), .ref (ad 198), .ref (ad 199)]) := by rw [hg_146]; exact gu_self _ _ _
            have hc_148 : g_145 193 = aI κ 42 f := by rw [hg_146, gu_ne (by decide)]; exact hc_124
            have hc_149 : g_145 194 = aI κ 28896 M9 := by rw [hg_146, gu_ne (by decide)]; exact hc_125
            have hc_150 : g_145 195 = aI κ 100 X9 := by rw [hg_146, gu_ne (by decide)]; exact hc_126
            have hc_151 : g_145 196 = aI κ 42 q9 := by rw [hg_146, gu_ne (by decide)]; exact hc_127
            have hc_152 : g_145 197 = aI κ 602 pa := by rw [hg_146, gu_ne (by decide)]; exact hc_128
            have hc_153 : g_145 198 = aI κ 43 be := by rw [hg_146, gu_ne (by decide)]; exact hc_129
            have hc_154 : g_145 199 = aI κ 86 (stF sv (43 * sl) ly f) := by rw [hg_146, gu_ne (by decide)]; exact hc_130
            refine g_aload_n C dX8_save_74 rfl hl 0 rfl ?_
            refine g_get C G (pos := 192) fX8_save_35 (by omega) hc_147 rfl dX8_save_75 ?_
            refine g_iret C G hr hlk (Nat.le_of_ble_eq_true rfl) (Nat.le_of_ble_eq_true rfl) dX8_save_78 ?_
            have hsl9 : sl = 0 ∨ sl = 1 := by omega
            rcases hsl9 with hsl0 | hsl1
            · first | (exfalso; omega; done) | (have hc_155 : g_145 192 = .inr (8, [.ref (ad 193), .int (iz ly), .int (iz 0), .ref (ad 194), .int (iz mk), .ref (ad 195), .int (iz tx), .ref (ad 196), .int (iz rl), .int (iz a0), .int (iz wr), .int (iz 1), .int (iz s1), .ref (ad 197), .int (iz rm), .ref (ad 198), .ref (ad 199)]) := (by rw [show (1 : Int) = 1 by omega, show (s1 : Int) = 0 by omega]; exact hc_147); exact ⟨Or.inr (Or.inl ⟨⟨hsl0, rfl⟩, ⟨_, _, _, _, _, _, _, hc_155, hc_148, hc_149, hc_150, hc_151, hc_152, hc_153, hc_154, by omega, hMr, hinq⟩⟩), fun q hq => (((congrFun hg_146 q).trans (gu_ne (by omega))).trans (((congrFun hg_122 q).trans (gu_ne (by omega))).trans (((congrFun hg_14 q).trans (gu_ne (by omega))).trans ((congrFun hg_2 q).trans (gu_ne (by omega))))))⟩)
            · first | (exfalso; omega; done) | (have hc_156 : g_145 192 = .inr (8, [.ref (ad 193), .int (iz ly), .int (iz 0), .ref (ad 194), .int (iz mk), .ref (ad 195), .int (iz tx), .ref (ad 196), .int (iz rl), .int (iz a0), .int (iz wr), .int (iz s0), .int (iz 1), .ref (ad 197), .int (iz rm), .ref (ad 198), .ref (ad 199)]) := (by rw [show (s0 : Int) = 1 by omega, show (1 : Int) = 0 by omega]; exact hc_147); exact ⟨Or.inr (Or.inr (⟨⟨hsl1, rfl⟩, ⟨_, _, _, _, _, _, _, hc_156, hc_148, hc_149, hc_150, hc_151, hc_152, hc_153, hc_154, by omega, hMr, hinq⟩⟩)), fun q hq => (((congrFun hg_146 q).trans (gu_ne (by omega))).trans (((congrFun hg_122 q).trans (gu_ne (by omega))).trans (((congrFun hg_14 q).trans (gu_ne (by omega))).trans ((congrFun hg_2 q).trans (gu_ne (by omega))))))⟩)
          · refine g_iconst (a := 1) C dX8_save_66 rfl ?_
            refine g_goto (tgt := 71) C dX8_save_67 (by decide) ?_
            refine g_put C G (pos := 192) (fs' := [.ref (ad 193), .int (iz ly), .int (iz 0), .ref (ad 194), .int (iz mk), .ref (ad 195), .int (iz tx), .ref (ad 196), .int (iz rl), .int (iz a0), .int (iz wr), .int (iz 1), .int (iz 1), .ref (ad 197), .int (iz rm), .ref (ad 198), .ref (ad 199)]) fwX8_save_117 (by omega) hc_123 (Nat.le_of_ble_eq_true rfl) rfl (gnar_z (by decide)) rfl dX8_save_71 (fun H locs G => ?_)
            obtain ⟨g_157, hg_158⟩ : ∃ g9, g9 = va_up g_121 192 (.inr (8, [.ref (ad 193), .int (iz ly), .int (iz 0), .ref (ad 194), .int (iz mk), .ref (ad 195), .int (iz tx), .ref (ad 196), .int (iz rl), .int (iz a0), .int (iz wr), .int (iz 1), .int (iz 1), .ref (ad 197), .int (iz rm), .ref (ad 198), .ref (ad 199)])) := ⟨_, rfl⟩
            rw [← hg_158] at G
            have hc_159 : g_157 192 = .inr (8, [.ref (ad 193), .int (iz ly), .int (iz 0), .ref (ad 194), .int (iz mk), .ref (ad 195), .int (iz tx), .ref (ad 196), .int (iz rl), .int (iz a0), .int (iz wr), .int (iz 1), .int (iz 1), .ref (ad 197), .int (iz rm), .ref (ad 198), .ref (ad 199)]) := by rw [hg_158]; exact gu_self _ _ _
            have hc_160 : g_157 193 = aI κ 42 f := by rw [hg_158, gu_ne (by decide)]; exact hc_124
            have hc_161 : g_157 194 = aI κ 28896 M9 := by rw [hg_158, gu_ne (by decide)]; exact hc_125
            have hc_162 : g_157 195 = aI κ 100 X9 := by rw [hg_158, gu_ne (by decide)]; exact hc_126
            have hc_163 : g_157 196 = aI κ 42 q9 := by rw [hg_158, gu_ne (by decide)]; exact hc_127
            have hc_164 : g_157 197 = aI κ 602 pa := by rw [hg_158, gu_ne (by decide)]; exact hc_128
            have hc_165 : g_157 198 = aI κ 43 be := by rw [hg_158, gu_ne (by decide)]; exact hc_129
            have hc_166 : g_157 199 = aI κ 86 (stF sv (43 * sl) ly f) := by rw [hg_158, gu_ne (by decide)]; exact hc_130
            refine g_aload_n C dX8_save_74 rfl hl 0 rfl ?_
            refine g_get C G (pos := 192) fX8_save_35 (by omega) hc_159 rfl dX8_save_75 ?_
            refine g_iret C G hr hlk (Nat.le_of_ble_eq_true rfl) (Nat.le_of_ble_eq_true rfl) dX8_save_78 ?_
            have hsl9 : sl = 0 ∨ sl = 1 := by omega
            rcases hsl9 with hsl0 | hsl1
            · first | (exfalso; omega; done) | (have hc_167 : g_157 192 = .inr (8, [.ref (ad 193), .int (iz ly), .int (iz 0), .ref (ad 194), .int (iz mk), .ref (ad 195), .int (iz tx), .ref (ad 196), .int (iz rl), .int (iz a0), .int (iz wr), .int (iz 1), .int (iz s1), .ref (ad 197), .int (iz rm), .ref (ad 198), .ref (ad 199)]) := (by rw [show (1 : Int) = 1 by omega, show (s1 : Int) = 1 by omega]; exact hc_159); exact ⟨Or.inr (Or.inl ⟨⟨hsl0, rfl⟩, ⟨_, _, _, _, _, _, _, hc_167, hc_160, hc_161, hc_162, hc_163, hc_164, hc_165, hc_166, by omega, hMr, hinq⟩⟩), fun q hq => (((congrFun hg_158 q).trans (gu_ne (by omega))).trans (((congrFun hg_122 q).trans (gu_ne (by omega))).trans (((congrFun hg_14 q).trans (gu_ne (by omega))).trans ((congrFun hg_2 q).trans (gu_ne (by omega))))))⟩)
            · first | (exfalso; omega; done) | (have hc_168 : g_157 192 = .inr (8, [.ref (ad 193), .int (iz ly), .int (iz 0), .ref (ad 194), .int (iz mk), .ref (ad 195), .int (iz tx), .ref (ad 196), .int (iz rl), .int (iz a0), .int (iz wr), .int (iz s0), .int (iz 1), .ref (ad 197), .int (iz rm), .ref (ad 198), .ref (ad 199)]) := (by rw [show (s0 : Int) = 1 by omega, show (1 : Int) = 1 by omega]; exact hc_159); exact ⟨Or.inr (Or.inr (⟨⟨hsl1, rfl⟩, ⟨_, _, _, _, _, _, _, hc_168, hc_160, hc_161, hc_162, hc_163, hc_164, hc_165, hc_166, by omega, hMr, hinq⟩⟩)), fun q hq => (((congrFun hg_158 q).trans (gu_ne (by omega))).trans (((congrFun hg_122 q).trans (gu_ne (by omega))).trans (((congrFun hg_14 q).trans (gu_ne (by omega))).trans ((congrFun hg_2 q).trans (gu_ne (by omega))))))⟩)
  · refine g_if_ne (tgt := 21) C (by decide) dX8_save_12 (by decide) (fun c9 => absurd c9 (by decide)) (fun _ => ?_)
    refine g_aload_n C dX8_save_15 rfl hl 0 rfl ?_
    refine g_iconst (a := 1) C dX8_save_16 rfl ?_
    refine g_ci C G (g_runV (As := [.int (iz 1)]) (rest := []) (pos := 192) C G (c_X8_refused l κ B n ad g_1 ly 0 mk tx rl a0 wr s0 s1 rm 1 hn8 hc_3) (cwV 1 C.1.2.2.2.2 gX8_save_X8_refused rfl rfl rfl (by decide +kernel) ⟨Nat.le_of_ble_eq_true rfl, Nat.le_of_ble_eq_true rfl⟩) (by omega) hc_3 (T := TX8) (N := 17) rfl rfl hl rfl (Nat.le_of_ble_eq_true rfl) dX8_save_17 ⟨Nat.le_of_ble_eq_true rfl, Nat.le_of_ble_eq_true rfl⟩) (fun z_169 g9 H locs hw G => ?_)
    obtain ⟨hw, h_170⟩ := hw
    subst hw
    obtain ⟨g_171, hg_172⟩ : ∃ g9, g9 = va_up g_1 192 (.inr (8, [.ref (ad 193), .int (iz ly), .int (iz 1), .ref (ad 194), .int (iz mk), .ref (ad 195), .int (iz tx), .ref (ad 196), .int (iz rl), .int (iz a0), .int (iz wr), .int (iz s0), .int (iz s1), .ref (ad 197), .int (iz rm), .ref (ad 198), .ref (ad 199)])) := ⟨_, rfl⟩
    rw [← hg_172] at G
    have hc_173 : g_171 192 = .inr (8, [.ref (ad 193), .int (iz ly), .int (iz 1), .ref (ad 194), .int (iz mk), .ref (ad 195), .int (iz tx), .ref (ad 196), .int (iz rl), .int (iz a0), .int (iz wr), .int (iz s0), .int (iz s1), .ref (ad 197), .int (iz rm), .ref (ad 198), .ref (ad 199)]) := by rw [hg_172]; exact gu_self _ _ _
    have hc_174 : g_171 193 = aI κ 42 f := by rw [hg_172, gu_ne (by decide)]; exact hc_4
    have hc_175 : g_171 194 = aI κ 28896 M9 := by rw [hg_172, gu_ne (by decide)]; exact hc_5
    have hc_176 : g_171 195 = aI κ 100 X9 := by rw [hg_172, gu_ne (by decide)]; exact hc_6
    have hc_177 : g_171 196 = aI κ 42 q9 := by rw [hg_172, gu_ne (by decide)]; exact hc_7
    have hc_178 : g_171 197 = aI κ 602 pa := by rw [hg_172, gu_ne (by decide)]; exact hc_8
    have hc_179 : g_171 198 = aI κ 43 be := by rw [hg_172, gu_ne (by decide)]; exact hc_9
    have hc_180 : g_171 199 = aI κ 86 sv := by rw [hg_172, gu_ne (by decide)]; exact hc_10
    refine g_iret C G hr hlk (Nat.le_of_ble_eq_true rfl) (Nat.le_of_ble_eq_true rfl) dX8_save_20 ?_
    exact ⟨Or.inl ⟨by omega, ⟨_, _, _, _, _, _, _, hc_173, hc_174, hc_175, hc_176, hc_177, hc_178, hc_179, hc_180, by omega, hMr, hinq⟩⟩, fun q hq => (((congrFun hg_172 q).trans (gu_ne (by omega))).trans ((congrFun hg_2 q).trans (gu_ne (by omega))))⟩
theorem fwX8_restore_31 : gFldW wsX8_restore RX8 31 8 2 .int false := ⟨RX8, TX8, 17, tyX8, rfl, by decide, by decide +kernel, by decide +kernel, tyX8_ok, nmX8, rfl, by decide +kernel, by decide +kernel⟩
theorem fX8_restore_117 : gFld wsX8_restore RX8 117 8 12 := ⟨RX8, TX8, 17, rfl, by decide, by decide +kernel, by decide +kernel⟩
theorem fX8_restore_28 : gFld wsX8_restore RX8 28 8 16 := ⟨RX8, TX8, 17, rfl, by decide, by decide +kernel, by decide +kernel⟩
theorem fwX8_restore_111 : gFldW wsX8_restore RX8 111 8 14 .int false := ⟨RX8, TX8, 17, tyX8, rfl, by decide, by decide +kernel, by decide +kernel, tyX8_ok, nmX8, rfl, by decide +kernel, by decide +kernel⟩
theorem fX8_restore_35 : gFld wsX8_restore RX8 35 8 1 := ⟨RX8, TX8, 17, rfl, by decide, by decide +kernel, by decide +kernel⟩
theorem fX8_restore_114 : gFld wsX8_restore RX8 114 8 11 := ⟨RX8, TX8, 17, rfl, by decide, by decide +kernel, by decide +kernel⟩
set_option maxHeartbeats 4000000 in
set_option maxRecDepth 100000 in
theorem c_X8_restore (l : Launch) (κ : gKap) (B n : Nat) (ad : Nat → Nat) (g : Nat → va_E) (ly : Int) (th : Int) (mk : Int) (tx : Int) (rl : Int) (a0 : Int) (wr : Int) (s0 : Int) (s1 : Int) (rm : Int) (f : Int → Int) (M9 : Int → Int) (X9 : Int → Int) (q9 : Int → Int) (pa : Int → Int) (be : Int → Int) (sv : Int → Int) (sl : Int) (hn8 : 200 ≤ n) (hM : g 192 = oM ad ly th mk tx rl a0 wr s0 s1 rm) (hN : g 193 = aI κ 42 f) (hK : g 194 = aI κ 28896 M9) (hT : g 195 = aI κ 100 X9) (hRd : g 196 = aI κ 42 q9) (hPa : g 197 = aI κ 602 pa) (hBe : g 198 = aI κ 43 be) (hSv : g 199 = aI κ 86 sv) (hok : okPl ly f) (hmk : 0 ≤ mk ∧ mk ≤ 800000000) (hMr : ∀ i, 0 ≤ i → i < 28896 → 0 ≤ M9 i ∧ M9 i ≤ mk) (hinq : inV q9) (hs01 : (s0 = 0 ∨ s0 = 1) ∧ (s1 = 0 ∨ s1 = 1)) (hsl : inI sl) : Met l yX8_restore wsX8_restore ({ frames := 1, cells := 0, slots := 0, locals := 25 }) (gPre κ B n ad g [.ref (ad 192), .int (iz sl)]) (gQi κ B n ad (fun z g' => (((¬ (0 ≤ sl ∧ sl < 2)) ∧ jkM κ ad g' ly 1 tx s0 s1 rm (mk + 1000) f X9 pa sv) ∨ (((0 ≤ sl ∧ sl < 2) ∧ ((sl = 0 ∧ s0 = 0) ∨ (sl = 1 ∧ s1 = 0))) ∧ jkM κ ad g' ly 2 tx s0 s1 rm (mk + 1000) f X9 pa sv) ∨ (((0 ≤ sl ∧ sl < 2) ∧ ((sl = 0 ∧ s0 = 1) ∨ (sl = 1 ∧ s1 = 1)) ∧ z = sv (43 * sl)) ∧ jkM κ ad g' (sv (43 * sl)) 0 tx s0 s1 0 (mk + 1000) (brF sv (43 * sl) f) X9 pa sv)) ∧ frM g g')) 0 0 (gFree B) := by
  refine g_met RX8 (cc := cX8_restore) (maxL := 2) (ret := (some .int)) (by decide) rfl rfl (Nat.le_of_ble_eq_true rfl) ?_
  intro p e s m args below meth c C hr hlk hnm G ls hl
  have hl : lv_has ls 2 [(0, .ref (ad 192)), (1, .int (iz sl))] := hl
  obtain ⟨hn6, hv0, hv25, hlay, hsee⟩ := id hok
  refine g_aload_n C dX8_restore_0 rfl hl 0 rfl ?_
  refine g_iconst (a := 0) C dX8_restore_1 rfl ?_
  refine g_put C G (pos := 192) (fs' := [.ref (ad 193), .int (iz ly), .int (iz 0), .ref (ad 194), .int (iz mk), .ref (ad 195), .int (iz tx), .ref (ad 196), .int (iz rl), .int (iz a0), .int (iz wr), .int (iz s0), .int (iz s1), .ref (ad 197), .int (iz rm), .ref (ad 198), .ref (ad 199)]) fwX8_restore_31 (by omega) hM (Nat.le_of_ble_eq_true rfl) rfl rfl rfl dX8_restore_2 (fun H locs G => ?_)
  obtain ⟨g_1, hg_2⟩ : ∃ g9, g9 = va_up g 192 (.inr (8, [.ref (ad 193), .int (iz ly), .int (iz 0), .ref (ad 194), .int (iz mk), .ref (ad 195), .int (iz tx), .ref (ad 196), .int (iz rl), .int (iz a0), .int (iz wr), .int (iz s0), .int (iz s1), .ref (ad 197), .int (iz rm), .ref (ad 198), .ref (ad 199)])) := ⟨_, rfl⟩
  rw [← hg_2] at G
  have hc_3 : g_1 192 = .inr (8, [.ref (ad 193), .int (iz ly), .int (iz 0), .ref (ad 194), .int (iz mk), .ref (ad 195), .int (iz tx), .ref (ad 196), .int (iz rl), .int (iz a0), .int (iz wr), .int (iz s0), .int (iz s1), .ref (ad 197), .int (iz rm), .ref (ad 198), .ref (ad 199)]) := by rw [hg_2]; exact gu_self _ _ _
  have hc_4 : g_1 193 = aI κ 42 f := by rw [hg_2, gu_ne (by decide)]; exact hN
  have hc_5 : g_1 194 = aI κ 28896 M9 := by rw [hg_2, gu_ne (by decide)]; exact hK
  have hc_6 : g_1 195 = aI κ 100 X9 := by rw [hg_2, gu_ne (by decide)]; exact hT
  have hc_7 : g_1 196 = aI κ 42 q9 := by rw [hg_2, gu_ne (by decide)]; exact hRd
  have hc_8 : g_1 197 = aI κ 602 pa := by rw [hg_2, gu_ne (by decide)]; exact hPa
  have hc_9 : g_1 198 = aI κ 43 be := by rw [hg_2, gu_ne (by decide)]; exact hBe
  have hc_10 : g_1 199 = aI κ 86 sv := by rw [hg_2, gu_ne (by decide)]; exact hSv
  refine g_iload_n C dX8_restore_5 rfl hl 1 rfl ?_
  refine g_i2l C (by omega) dX8_restore_6 ?_
  refine g_lconst (a := 0) C dX8_restore_7 (by decide) ?_
  refine g_lconst (a := 1) C dX8_restore_8 (by decide) ?_
  refine g_ci C G (g_runS (As := [.long (jz sl), .long (jz 0), .long (jz 1)]) (rest := []) C G (c_X8_in l κ B n ad g_1 sl 0 1 (by omega) (by omega) (by omega)) (va_cwS 3 C.1.2.2.2.2 gX8_restore_X8_in rfl rfl rfl (by decide +kernel) ⟨Nat.le_of_ble_eq_true rfl, Nat.le_of_ble_eq_true rfl⟩) rfl hl rfl (Nat.le_of_ble_eq_true rfl) dX8_restore_9 ⟨Nat.le_of_ble_eq_true rfl, Nat.le_of_ble_eq_true rfl⟩) (fun z_12 g9 H locs hw G => ?_)
  obtain ⟨hg9, hw⟩ := hw
  replace hg9 := hg9.symm
  subst hg9
  rcases hw with ⟨b_11, rfl⟩ | ⟨b_11, rfl⟩
  · refine g_if_ne (tgt := 21) C (by decide) dX8_restore_12 (by decide) (fun _ => ?_) (fun c9 => absurd c9 (by decide))
    refine g_iload_n C dX8_restore_21 rfl hl 1 rfl ?_
    refine g_if_ne (tgt := 35) C (by omega) dX8_restore_22 (by decide) (fun c_13 => ?_) (fun c_13 => ?_)
    · refine g_aload_n C dX8_restore_35 rfl hl 0 rfl ?_
      refine g_get C G (pos := 192) fX8_restore_117 (by omega) hc_3 rfl dX8_restore_36 ?_
      refine g_if_ne (tgt := 48) C (by omega) dX8_restore_39 (by decide) (fun c_14 => ?_) (fun c_14 => ?_)
      · refine g_aload_n C dX8_restore_48 rfl hl 0 rfl ?_
        refine g_aload_n C dX8_restore_49 rfl hl 0 rfl ?_
        refine g_get C G (pos := 192) fX8_restore_28 (by omega) hc_3 rfl dX8_restore_50 ?_
        refine g_bipush (a := 43) C dX8_restore_53 (by decide) ?_
        refine g_iload_n C dX8_restore_55 rfl hl 1 rfl ?_
        refine g_imul C dX8_restore_56 ?_
        refine g_cv C G (g_runV (As := [.ref (ad 199), .int (iz (43 * sl))]) (rest := []) (pos := 192) C G (c_X8_bring l κ B n ad g_1 ly 0 mk tx rl a0 wr s0 s1 rm f 199 86 sv (43 * sl) hn8 hc_3 hc_4 (by omega) hc_10 (by omega)) (cwV 2 C.1.2.2.2.2 gX8_restore_X8_bring rfl rfl rfl (by decide +kernel) ⟨Nat.le_of_ble_eq_true rfl, Nat.le_of_ble_eq_true rfl⟩) (by omega) hc_3 (T := TX8) (N := 17) rfl rfl hl rfl (Nat.le_of_ble_eq_true rfl) dX8_restore_57 ⟨Nat.le_of_ble_eq_true rfl, Nat.le_of_ble_eq_true rfl⟩) (fun g_15 H locs hgs_16 G => ?_)
        have hc_17 : g_15 192 = .inr (8, [.ref (ad 193), .int (iz (sv (43 * sl))), .int (iz 0), .ref (ad 194), .int (iz mk), .ref (ad 195), .int (iz tx), .ref (ad 196), .int (iz rl), .int (iz a0), .int (iz wr), .int (iz s0), .int (iz s1), .ref (ad 197), .int (iz rm), .ref (ad 198), .ref (ad 199)]) := by rw [hgs_16, gu_ne (by decide)]; exact gu_self _ _ _
        have hc_18 : g_15 193 = aI κ 42 (brF sv (43 * sl) f) := by rw [hgs_16]; exact gu_self _ _ _
        have hc_19 : g_15 194 = aI κ 28896 M9 := by rw [hgs_16, gu_ne (by decide), gu_ne (by decide)]; exact hc_5
        have hc_20 : g_15 195 = aI κ 100 X9 := by rw [hgs_16, gu_ne (by decide), gu_ne (by decide)]; exact hc_6
        have hc_21 : g_15 196 = aI κ 42 q9 := by rw [hgs_16, gu_ne (by decide), gu_ne (by decide)]; exact hc_7
        have hc_22 : g_15 197 = aI κ 602 pa := by rw [hgs_16, gu_ne (by decide), gu_ne (by decide)]; exact hc_8
        have hc_23 : g_15 198 = aI κ 43 be := by rw [hgs_16, gu_ne (by decide), gu_ne (by decide)]; exact hc_9
        have hc_24 : g_15 199 = aI κ 86 sv := by rw [hgs_16, gu_ne (by decide), gu_ne (by decide)]; exact hc_10
        refine g_aload_n C dX8_restore_60 rfl hl 0 rfl ?_
        refine g_iconst (a := 0) C dX8_restore_61 rfl ?_
        refine g_put C G (pos := 192) (fs' := [.ref (ad 193), .int (iz (sv (43 * sl))), .int (iz 0), .ref (ad 194), .int (iz mk), .ref (ad 195), .int (iz tx), .ref (ad 196), .int (iz rl), .int (iz a0), .int (iz wr), .int (iz s0), .int (iz s1), .ref (ad 197), .int (iz 0), .ref (ad 198), .ref (ad 199)]) fwX8_restore_111 (by omega) hc_17 (Nat.le_of_ble_eq_true rfl) rfl rfl rfl dX8_restore_62 (fun H locs G => ?_)
        obtain ⟨g_25, hg_26⟩ : ∃ g9, g9 = va_up g_15 192 (.inr (8, [.ref (ad 193), .int (iz (sv (43 * sl))), .int (iz 0), .ref (ad 194), .int (iz mk), .ref (ad 195), .int (iz tx), .ref (ad 196), .int (iz rl), .int (iz a0), .int (iz wr), .int (iz s0), .int (iz s1), .ref (ad 197), .int (iz 0), .ref (ad 198), .ref (ad 199)])) := ⟨_, rfl⟩
        rw [← hg_26] at G
        have hc_27 : g_25 192 = .inr (8, [.ref (ad 193), .int (iz (sv (43 * sl))), .int (iz 0), .ref (ad 194), .int (iz mk), .ref (ad 195), .int (iz tx), .ref (ad 196), .int (iz rl), .int (iz a0), .int (iz wr), .int (iz s0), .int (iz s1), .ref (ad 197), .int (iz 0), .ref (ad 198), .ref (ad 199)]) := by rw [hg_26]; exact gu_self _ _ _
        have hc_28 : g_25 193 = aI κ 42 (brF sv (43 * sl) f) := by rw [hg_26, gu_ne (by decide)]; exact hc_18
        have hc_29 : g_25 194 = aI κ 28896 M9 := by rw [hg_26, gu_ne (by decide)]; exact hc_19
        have hc_30 : g_25 195 = aI κ 100 X9 := by rw [hg_26, gu_ne (by decide)]; exact hc_20
        have hc_31 : g_25 196 = aI κ 42 q9 := by rw [hg_26, gu_ne (by decide)]; exact hc_21
        have hc_32 : g_25 197 = aI κ 602 pa := by rw [hg_26, gu_ne (by decide)]; exact hc_22
        have hc_33 : g_25 198 = aI κ 43 be := by rw [hg_26, gu_ne (by decide)]; exact hc_23
        have hc_34 : g_25 199 = aI κ 86 sv := by rw [hg_26, gu_ne (by decide)]; exact hc_24
        refine g_aload_n C dX8_restore_65 rfl hl 0 rfl ?_
        refine g_get C G (pos := 192) fX8_restore_35 (by omega) hc_27 rfl dX8_restore_66 ?_
        refine g_iret C G hr hlk (Nat.le_of_ble_eq_true rfl) (Nat.le_of_ble_eq_true rfl) dX8_restore_69 ?_
        exact ⟨Or.inr (Or.inr (⟨⟨by omega, by omega, rfl⟩, ⟨_, _, _, _, _, _, _, hc_27, hc_28, hc_29, hc_30, hc_31, hc_32, hc_33, hc_34, by omega, hMr, hinq⟩⟩)), fun q hq => (((congrFun hg_26 q).trans (gu_ne (by omega))).trans (((congrFun hgs_16 q).trans ((gu_ne (by omega)).trans (gu_ne (by omega)))).trans ((congrFun hg_2 q).trans (gu_ne (by omega)))))⟩
      · refine g_aload_n C dX8_restore_42 rfl hl 0 rfl ?_
        refine g_iconst (a := 2) C dX8_restore_43 rfl ?_
        refine g_ci C G (g_runV (As := [.int (iz 2)]) (rest := []) (pos := 192) C G (c_X8_refused l κ B n ad g_1 ly 0 mk tx rl a0 wr s0 s1 rm 2 hn8 hc_3) (cwV 1 C.1.2.2.2.2 gX8_restore_X8_refused rfl rfl rfl (by decide +kernel) ⟨Nat.le_of_ble_eq_true rfl, Nat.le_of_ble_eq_true rfl⟩) (by omega) hc_3 (T := TX8) (N := 17) rfl rfl hl rfl (Nat.le_of_ble_eq_true rfl) dX8_restore_44 ⟨Nat.le_of_ble_eq_true rfl, Nat.le_of_ble_eq_true rfl⟩) (fun z_35 g9 H locs hw G => ?_)
        obtain ⟨hw, h_36⟩ := hw
        subst hw
        obtain ⟨g_37, hg_38⟩ : ∃ g9, g9 = va_up g_1 192 (.inr (8, [.ref (ad 193), .int (iz ly), .int (iz 2), .ref (ad 194), .int (iz mk), .ref (ad 195), .int (iz tx), .ref (ad 196), .int (iz rl), .int (iz a0), .int (iz wr), .int (iz s0), .int (iz s1), .ref (ad 197), .int (iz rm), .ref (ad 198), .ref (ad 199)])) := ⟨_, rfl⟩
        rw [← hg_38] at G
        have hc_39 : g_37 192 = .inr (8, [.ref (ad 193), .int (iz ly), .int (iz 2), .ref (ad 194), .int (iz mk), .ref (ad 195), .int (iz tx), .ref (ad 196), .int (iz rl), .int (iz a0), .int (iz wr), .int (iz s0), .int (iz s1), .ref (ad 197), .int (iz rm), .ref (ad 198), .ref (ad 199)]) := by rw [hg_38]; exact gu_self _ _ _
        have hc_40 : g_37 193 = aI κ 42 f := by rw [hg_38, gu_ne (by decide)]; exact hc_4
        have hc_41 : g_37 194 = aI κ 28896 M9 := by rw [hg_38, gu_ne (by decide)]; exact hc_5
        have hc_42 : g_37 195 = aI κ 100 X9 := by rw [hg_38, gu_ne (by decide)]; exact hc_6
        have hc_43 : g_37 196 = aI κ 42 q9 := by rw [hg_38, gu_ne (by decide)]; exact hc_7
        have hc_44 : g_37 197 = aI κ 602 pa := by rw [hg_38, gu_ne (by decide)]; exact hc_8
        have hc_45 : g_37 198 = aI κ 43 be := by rw [hg_38, gu_ne (by decide)]; exact hc_9
        have hc_46 : g_37 199 = aI κ 86 sv := by rw [hg_38, gu_ne (by decide)]; exact hc_10
        refine g_iret C G hr hlk (Nat.le_of_ble_eq_true rfl) (Nat.le_of_ble_eq_true rfl) dX8_restore_47 ?_
        exact ⟨Or.inr (Or.inl ⟨by omega, ⟨_, _, _, _, _, _, _, hc_39, hc_40, hc_41, hc_42, hc_43, hc_44, hc_45, hc_46, by omega, hMr, hinq⟩⟩), fun q hq => (((congrFun hg_38 q).trans (gu_ne (by omega))).trans ((congrFun hg_2 q).trans (gu_ne (by omega))))⟩
    · refine g_aload_n C dX8_restore_25 rfl hl 0 rfl ?_
      refine g_get C G (pos := 192) fX8_restore_114 (by omega) hc_3 rfl dX8_restore_26 ?_
      refine g_if_ne (tgt := 48) C (by omega) dX8_restore_29 (by decide) (fun c_47 => ?_) (fun c_47 => ?_)
      · refine g_aload_n C dX8_restore_48 rfl hl 0 rfl ?_
        refine g_aload_n C dX8_restore_49 rfl hl 0 rfl ?_
        refine g_get C G (pos := 192) fX8_restore_28 (by omega) hc_3 rfl dX8_restore_50 ?_
        refine g_bipush (a := 43) C dX8_restore_53 (by decide) ?_
        refine g_iload_n C dX8_restore_55 rfl hl 1 rfl ?_
        refine g_imul C dX8_restore_56 ?_
        refine g_cv C G (g_runV (As := [.ref (ad 199), .int (iz (43 * sl))]) (rest := []) (pos := 192) C G (c_X8_bring l κ B n ad g_1 ly 0 mk tx rl a0 wr s0 s1 rm f 199 86 sv (43 * sl) hn8 hc_3 hc_4 (by omega) hc_10 (by omega)) (cwV 2 C.1.2.2.2.2 gX8_restore_X8_bring rfl rfl rfl (by decide +kernel) ⟨Nat.le_of_ble_eq_true rfl, Nat.le_of_ble_eq_true rfl⟩) (by omega) hc_3 (T := TX8) (N := 17) rfl rfl hl rfl (Nat.le_of_ble_eq_true rfl) dX8_restore_57 ⟨Nat.le_of_ble_eq_true rfl, Nat.le_of_ble_eq_true rfl⟩) (fun g_48 H locs hgs_49 G => ?_)
        have hc_50 : g_48 192 = .inr (8, [.ref (ad 193), .int (iz (sv (43 * sl))), .int (iz 0), .ref (ad 194), .int (iz mk), .ref (ad 195), .int (iz tx), .ref (ad 196), .int (iz rl), .int (iz a0), .int (iz wr), .int (iz s0), .int (iz s1), .ref (ad 197), .int (iz rm), .ref (ad 198), .ref (ad 199)]) := by rw [hgs_49, gu_ne (by decide)]; exact gu_self _ _ _
        have hc_51 : g_48 193 = aI κ 42 (brF sv (43 * sl) f) := by rw [hgs_49]; exact gu_self _ _ _
        have hc_52 : g_48 194 = aI κ 28896 M9 := by rw [hgs_49, gu_ne (by decide), gu_ne (by decide)]; exact hc_5
        have hc_53 : g_48 195 = aI κ 100 X9 := by rw [hgs_49, gu_ne (by decide), gu_ne (by decide)]; exact hc_6
        have hc_54 : g_48 196 = aI κ 42 q9 := by rw [hgs_49, gu_ne (by decide), gu_ne (by decide)]; exact hc_7
        have hc_55 : g_48 197 = aI κ 602 pa := by rw [hgs_49, gu_ne (by decide), gu_ne (by decide)]; exact hc_8
        have hc_56 : g_48 198 = aI κ 43 be := by rw [hgs_49, gu_ne (by decide), gu_ne (by decide)]; exact hc_9
        have hc_57 : g_48 199 = aI κ 86 sv := by rw [hgs_49, gu_ne (by decide), gu_ne (by decide)]; exact hc_10
        refine g_aload_n C dX8_restore_60 rfl hl 0 rfl ?_
        refine g_iconst (a := 0) C dX8_restore_61 rfl ?_
        refine g_put C G (pos := 192) (fs' := [.ref (ad 193), .int (iz (sv (43 * sl))), .int (iz 0), .ref (ad 194), .int (iz mk), .ref (ad 195), .int (iz tx), .ref (ad 196), .int (iz rl), .int (iz a0), .int (iz wr), .int (iz s0), .int (iz s1), .ref (ad 197), .int (iz 0), .ref (ad 198), .ref (ad 199)]) fwX8_restore_111 (by omega) hc_50 (Nat.le_of_ble_eq_true rfl) rfl rfl rfl dX8_restore_62 (fun H locs G => ?_)
        obtain ⟨g_58, hg_59⟩ : ∃ g9, g9 = va_up g_48 192 (.inr (8, [.ref (ad 193), .int (iz (sv (43 * sl))), .int (iz 0), .ref (ad 194), .int (iz mk), .ref (ad 195), .int (iz tx), .ref (ad 196), .int (iz rl), .int (iz a0), .int (iz wr), .int (iz s0), .int (iz s1), .ref (ad 197), .int (iz 0), .ref (ad 198), .ref (ad 199)])) := ⟨_, rfl⟩
        rw [← hg_59] at G
        have hc_60 : g_58 192 = .inr (8, [.ref (ad 193), .int (iz (sv (43 * sl))), .int (iz 0), .ref (ad 194), .int (iz mk), .ref (ad 195), .int (iz tx), .ref (ad 196), .int (iz rl), .int (iz a0), .int (iz wr), .int (iz s0), .int (iz s1), .ref (ad 197), .int (iz 0), .ref (ad 198), .ref (ad 199)]) := by rw [hg_59]; exact gu_self _ _ _
        have hc_61 : g_58 193 = aI κ 42 (brF sv (43 * sl) f) := by rw [hg_59, gu_ne (by decide)]; exact hc_51
        have hc_62 : g_58 194 = aI κ 28896 M9 := by rw [hg_59, gu_ne (by decide)]; exact hc_52
        have hc_63 : g_58 195 = aI κ 100 X9 := by rw [hg_59, gu_ne (by decide)]; exact hc_53
        have hc_64 : g_58 196 = aI κ 42 q9 := by rw [hg_59, gu_ne (by decide)]; exact hc_54
        have hc_65 : g_58 197 = aI κ 602 pa := by rw [hg_59, gu_ne (by decide)]; exact hc_55
        have hc_66 : g_58 198 = aI κ 43 be := by rw [hg_59, gu_ne (by decide)]; exact hc_56
        have hc_67 : g_58 199 = aI κ 86 sv := by rw [hg_59, gu_ne (by decide)]; exact hc_57
        refine g_aload_n C dX8_restore_65 rfl hl 0 rfl ?_
        refine g_get C G (pos := 192) fX8_restore_35 (by omega) hc_60 rfl dX8_restore_66 ?_
        refine g_iret C G hr hlk (Nat.le_of_ble_eq_true rfl) (Nat.le_of_ble_eq_true rfl) dX8_restore_69 ?_
        exact ⟨Or.inr (Or.inr (⟨⟨by omega, by omega, rfl⟩, ⟨_, _, _, _, _, _, _, hc_60, hc_61, hc_62, hc_63, hc_64, hc_65, hc_66, hc_67, by omega, hMr, hinq⟩⟩)), fun q hq => (((congrFun hg_59 q).trans (gu_ne (by omega))).trans (((congrFun hgs_49 q).trans ((gu_ne (by omega)).trans (gu_ne (by omega)))).trans ((congrFun hg_2 q).trans (gu_ne (by omega)))))⟩
      · refine g_goto (tgt := 42) C dX8_restore_32 (by decide) ?_
        refine g_aload_n C dX8_restore_42 rfl hl 0 rfl ?_
        refine g_iconst (a := 2) C dX8_restore_43 rfl ?_
        refine g_ci C G (g_runV (As := [.int (iz 2)]) (rest := []) (pos := 192) C G (c_X8_refused l κ B n ad g_1 ly 0 mk tx rl a0 wr s0 s1 rm 2 hn8 hc_3) (cwV 1 C.1.2.2.2.2 gX8_restore_X8_refused rfl rfl rfl (by decide +kernel) ⟨Nat.le_of_ble_eq_true rfl, Nat.le_of_ble_eq_true rfl⟩) (by omega) hc_3 (T := TX8) (N := 17) rfl rfl hl rfl (Nat.le_of_ble_eq_true rfl) dX8_restore_44 ⟨Nat.le_of_ble_eq_true rfl, Nat.le_of_ble_eq_true rfl⟩) (fun z_68 g9 H locs hw G => ?_)
        obtain ⟨hw, h_69⟩ := hw
        subst hw
        obtain ⟨g_70, hg_71⟩ : ∃ g9, g9 = va_up g_1 192 (.inr (8, [.ref (ad 193), .int (iz ly), .int (iz 2), .ref (ad 194), .int (iz mk), .ref (ad 195), .int (iz tx), .ref (ad 196), .int (iz rl), .int (iz a0), .int (iz wr), .int (iz s0), .int (iz s1), .ref (ad 197), .int (iz rm), .ref (ad 198), .ref (ad 199)])) := ⟨_, rfl⟩
        rw [← hg_71] at G
        have hc_72 : g_70 192 = .inr (8, [.ref (ad 193), .int (iz ly), .int (iz 2), .ref (ad 194), .int (iz mk), .ref (ad 195), .int (iz tx), .ref (ad 196), .int (iz rl), .int (iz a0), .int (iz wr), .int (iz s0), .int (iz s1), .ref (ad 197), .int (iz rm), .ref (ad 198), .ref (ad 199)]) := by rw [hg_71]; exact gu_self _ _ _
        have hc_73 : g_70 193 = aI κ 42 f := by rw [hg_71, gu_ne (by decide)]; exact hc_4
        have hc_74 : g_70 194 = aI κ 28896 M9 := by rw [hg_71, gu_ne (by decide)]; exact hc_5
        have hc_75 : g_70 195 = aI κ 100 X9 := by rw [hg_71, gu_ne (by decide)]; exact hc_6
        have hc_76 : g_70 196 = aI κ 42 q9 := by rw [hg_71, gu_ne (by decide)]; exact hc_7
        have hc_77 : g_70 197 = aI κ 602 pa := by rw [hg_71, gu_ne (by decide)]; exact hc_8
        have hc_78 : g_70 198 = aI κ 43 be := by rw [hg_71, gu_ne (by decide)]; exact hc_9
        have hc_79 : g_70 199 = aI κ 86 sv := by rw [hg_71, gu_ne (by decide)]; exact hc_10
        refine g_iret C G hr hlk (Nat.le_of_ble_eq_true rfl) (Nat.le_of_ble_eq_true rfl) dX8_restore_47 ?_
        exact ⟨Or.inr (Or.inl ⟨by omega, ⟨_, _, _, _, _, _, _, hc_72, hc_73, hc_74, hc_75, hc_76, hc_77, hc_78, hc_79, by omega, hMr, hinq⟩⟩), fun q hq => (((congrFun hg_71 q).trans (gu_ne (by omega))).trans ((congrFun hg_2 q).trans (gu_ne (by omega))))⟩
  · refine g_if_ne (tgt := 21) C (by decide) dX8_restore_12 (by decide) (fun c9 => absurd c9 (by decide)) (fun _ => ?_)
    refine g_aload_n C dX8_restore_15 rfl hl 0 rfl ?_
    refine g_iconst (a := 1) C dX8_restore_16 rfl ?_
    refine g_ci C G (g_runV (As := [.int (iz 1)]) (rest := []) (pos := 192) C G (c_X8_refused l κ B n ad g_1 ly 0 mk tx rl a0 wr s0 s1 rm 1 hn8 hc_3) (cwV 1 C.1.2.2.2.2 gX8_restore_X8_refused rfl rfl rfl (by decide +kernel) ⟨Nat.le_of_ble_eq_true rfl, Nat.le_of_ble_eq_true rfl⟩) (by omega) hc_3 (T := TX8) (N := 17) rfl rfl hl rfl (Nat.le_of_ble_eq_true rfl) dX8_restore_17 ⟨Nat.le_of_ble_eq_true rfl, Nat.le_of_ble_eq_true rfl⟩) (fun z_80 g9 H locs hw G => ?_)
    obtain ⟨hw, h_81⟩ := hw
    subst hw
    obtain ⟨g_82, hg_83⟩ : ∃ g9, g9 = va_up g_1 192 (.inr (8, [.ref (ad 193), .int (iz ly), .int (iz 1), .ref (ad 194), .int (iz mk), .ref (ad 195), .int (iz tx), .ref (ad 196), .int (iz rl), .int (iz a0), .int (iz wr), .int (iz s0), .int (iz s1), .ref (ad 197), .int (iz rm), .ref (ad 198), .ref (ad 199)])) := ⟨_, rfl⟩
    rw [← hg_83] at G
    have hc_84 : g_82 192 = .inr (8, [.ref (ad 193), .int (iz ly), .int (iz 1), .ref (ad 194), .int (iz mk), .ref (ad 195), .int (iz tx), .ref (ad 196), .int (iz rl), .int (iz a0), .int (iz wr), .int (iz s0), .int (iz s1), .ref (ad 197), .int (iz rm), .ref (ad 198), .ref (ad 199)]) := by rw [hg_83]; exact gu_self _ _ _
    have hc_85 : g_82 193 = aI κ 42 f := by rw [hg_83, gu_ne (by decide)]; exact hc_4
    have hc_86 : g_82 194 = aI κ 28896 M9 := by rw [hg_83, gu_ne (by decide)]; exact hc_5
    have hc_87 : g_82 195 = aI κ 100 X9 := by rw [hg_83, gu_ne (by decide)]; exact hc_6
    have hc_88 : g_82 196 = aI κ 42 q9 := by rw [hg_83, gu_ne (by decide)]; exact hc_7
    have hc_89 : g_82 197 = aI κ 602 pa := by rw [hg_83, gu_ne (by decide)]; exact hc_8
    have hc_90 : g_82 198 = aI κ 43 be := by rw [hg_83, gu_ne (by decide)]; exact hc_9
    have hc_91 : g_82 199 = aI κ 86 sv := by rw [hg_83, gu_ne (by decide)]; exact hc_10
    refine g_iret C G hr hlk (Nat.le_of_ble_eq_true rfl) (Nat.le_of_ble_eq_true rfl) dX8_restore_20 ?_
    exact ⟨Or.inl ⟨by omega, ⟨_, _, _, _, _, _, _, hc_84, hc_85, hc_86, hc_87, hc_88, hc_89, hc_90, hc_91, by omega, hMr, hinq⟩⟩, fun q hq => (((congrFun hg_83 q).trans (gu_ne (by omega))).trans ((congrFun hg_2 q).trans (gu_ne (by omega))))⟩
set_option maxHeartbeats 4000000 in
set_option maxRecDepth 100000 in
theorem c_X8p_append (l : Launch) (κ : gKap) (B n : Nat) (ad : Nat → Nat) (g : Nat → va_E) (ly : Int) (th : Int) (mk : Int) (tx : Int) (rl : Int) (a0 : Int) (wr : Int) (s0 : Int) (s1 : Int) (rm : Int) (f : Int → Int) (M9 : Int → Int) (X9 : Int → Int) (q9 : Int → Int) (pa : Int → Int) (be : Int → Int) (sv : Int → Int) (ch : Int) (hn8 : 200 ≤ n) (hM : g 192 = oM ad ly th mk tx rl a0 wr s0 s1 rm) (hN : g 193 = aI κ 42 f) (hK : g 194 = aI κ 28896 M9) (hT : g 195 = aI κ 100 X9) (hRd : g 196 = aI κ 42 q9) (hPa : g 197 = aI κ 602 pa) (hBe : g 198 = aI κ 43 be) (hSv : g 199 = aI κ 86 sv) (hok : okPl ly f) (hmk : 0 ≤ mk ∧ mk ≤ 800000000) (hMr : ∀ i, 0 ≤ i → i < 28896 → 0 ≤ M9 i ∧ M9 i ≤ mk) (hinq : inV q9) (hch : inI ch) (htx : 0 ≤ tx ∧ tx ≤ 100) : Met l yX8_append wsX8_append ({ frames := 1, cells := 0, slots := 0, locals := 25 }) (gPre κ B n ad g [.ref (ad 192), .int (iz ch)]) (gQi κ B n ad (fun z g' => (((¬ (0 ≤ ch ∧ ch ≤ 255)) ∧ jkM κ ad g' ly 1 tx s0 s1 rm (mk + 1000) f X9 pa sv) ∨ (((0 ≤ ch ∧ ch ≤ 255) ∧ 100 ≤ tx) ∧ jkM κ ad g' ly 2 tx s0 s1 rm (mk + 1000) f X9 pa sv) ∨ ((((0 ≤ ch ∧ ch ≤ 255) ∧ tx < 100) ∧ z = tx + 1) ∧ jkM κ ad g' ly 0 (tx + 1) s0 s1 rm (mk + 1000) f (vu X9 tx ch) pa sv)) ∧ frM g g')) 0 0 (gFree B) := by
  refine g_met RX8 (cc := cX8_append) (maxL := 2) (ret := (some .int)) (by decide) rfl rfl (Nat.le_of_ble_eq_true rfl) ?_
  intro p e s m args below meth c C hr hlk hnm G ls hl
  have hl : lv_has ls 2 [(0, .ref (ad 192)), (1, .int (iz ch))] := hl
  obtain ⟨hn6, hv0, hv25, hlay, hsee⟩ := id hok
  refine g_aload_n C dX8_append_0 rfl hl 0 rfl ?_
  refine g_iconst (a := 0) C dX8_append_1 rfl ?_
  refine g_put C G (pos := 192) (fs' := [.ref (ad 193), .int (iz ly), .int (iz 0), .ref (ad 194), .int (iz mk), .ref (ad 195), .int (iz tx), .ref (ad 196), .int (iz rl), .int (iz a0), .int (iz wr), .int (iz s0), .int (iz s1), .ref (ad 197), .int (iz rm), .ref (ad 198), .ref (ad 199)]) fwX8_append_31 (by omega) hM (Nat.le_of_ble_eq_true rfl) rfl rfl rfl dX8_append_2 (fun H locs G => ?_)
  obtain ⟨g_1, hg_2⟩ : ∃ g9, g9 = va_up g 192 (.inr (8, [.ref (ad 193), .int (iz ly), .int (iz 0), .ref (ad 194), .int (iz mk), .ref (ad 195), .int (iz tx), .ref (ad 196), .int (iz rl), .int (iz a0), .int (iz wr), .int (iz s0), .int (iz s1), .ref (ad 197), .int (iz rm), .ref (ad 198), .ref (ad 199)])) := ⟨_, rfl⟩
  rw [← hg_2] at G
  have hc_3 : g_1 192 = .inr (8, [.ref (ad 193), .int (iz ly), .int (iz 0), .ref (ad 194), .int (iz mk), .ref (ad 195), .int (iz tx), .ref (ad 196), .int (iz rl), .int (iz a0), .int (iz wr), .int (iz s0), .int (iz s1), .ref (ad 197), .int (iz rm), .ref (ad 198), .ref (ad 199)]) := by rw [hg_2]; exact gu_self _ _ _
  have hc_4 : g_1 193 = aI κ 42 f := by rw [hg_2, gu_ne (by decide)]; exact hN
  have hc_5 : g_1 194 = aI κ 28896 M9 := by rw [hg_2, gu_ne (by decide)]; exact hK
  have hc_6 : g_1 195 = aI κ 100 X9 := by rw [hg_2, gu_ne (by decide)]; exact hT
  have hc_7 : g_1 196 = aI κ 42 q9 := by rw [hg_2, gu_ne (by decide)]; exact hRd
  have hc_8 : g_1 197 = aI κ 602 pa := by rw [hg_2, gu_ne (by decide)]; exact hPa
  have hc_9 : g_1 198 = aI κ 43 be := by rw [hg_2, gu_ne (by decide)]; exact hBe
  have hc_10 : g_1 199 = aI κ 86 sv := by rw [hg_2, gu_ne (by decide)]; exact hSv
  refine g_iload_n C dX8_append_5 rfl hl 1 rfl ?_
  refine g_i2l C (by omega) dX8_append_6 ?_
  refine g_lconst (a := 0) C dX8_append_7 (by decide) ?_
  refine g_ldc2 (a := 255) C (by decide +kernel) dX8_append_8 ?_
  refine g_ci C G (g_runS (As := [.long (jz ch), .long (jz 0), .long (jz 255)]) (rest := []) C G (c_X8_in l κ B n ad g_1 ch 0 255 (by omega) (by omega) (by omega)) (va_cwS 3 C.1.2.2.2.2 gX8_append_X8_in rfl rfl rfl (by decide +kernel) ⟨Nat.le_of_ble_eq_true rfl, Nat.le_of_ble_eq_true rfl⟩) rfl hl rfl (Nat.le_of_ble_eq_true rfl) dX8_append_11 ⟨Nat.le_of_ble_eq_true rfl, Nat.le_of_ble_eq_true rfl⟩) (fun z_12 g9 H locs hw G => ?_)
  obtain ⟨hg9, hw⟩ := hw
  replace hg9 := hg9.symm
  subst hg9
  rcases hw with ⟨b_11, rfl⟩ | ⟨b_11, rfl⟩
  · refine g_if_ne (tgt := 23) C (by decide) dX8_append_14 (by decide) (fun _ => ?_) (fun c9 => absurd c9 (by decide))
    refine g_aload_n C dX8_append_23 rfl hl 0 rfl ?_
    refine g_get C G (pos := 192) fX8_append_86 (by omega) hc_3 rfl dX8_append_24 ?_
    refine g_bipush (a := 100) C dX8_append_27 (by decide) ?_
    refine g_icmp_ne (tgt := 38) C (by omega) (by decide) dX8_append_29 (by decide) (fun c_13 => ?_) (fun c_13 => ?_)
    · refine g_aload_n C dX8_append_38 rfl hl 0 rfl ?_
      refine g_get C G (pos := 192) fX8_append_16 (by omega) hc_3 rfl dX8_append_39 ?_
      refine g_aload_n C dX8_append_42 rfl hl 0 rfl ?_
      refine g_get C G (pos := 192) fX8_append_86 (by omega) hc_3 rfl dX8_append_43 ?_
      refine g_iload_n C dX8_append_46 rfl hl 1 rfl ?_
      refine g_iastore C G (pos := 195) (by omega) hc_6 (by omega) (by omega) (by omega) dX8_append_47 (fun H locs G => ?_)
      obtain ⟨g_14, hg_15⟩ : ∃ g9, g9 = va_up g_1 195 (aI κ 100 (vu X9 tx ch)) := ⟨_, rfl⟩
      rw [← hg_15] at G
      have hc_16 : g_14 192 = .inr (8, [.ref (ad 193), .int (iz ly), .int (iz 0), .ref (ad 194), .int (iz mk), .ref (ad 195), .int (iz tx), .ref (ad 196), .int (iz rl), .int (iz a0), .int (iz wr), .int (iz s0), .int (iz s1), .ref (ad 197), .int (iz rm), .ref (ad 198), .ref (ad 199)]) := by rw [hg_15, gu_ne (by decide)]; exact hc_3
      have hc_17 : g_14 193 = aI κ 42 f := by rw [hg_15, gu_ne (by decide)]; exact hc_4
      have hc_18 : g_14 194 = aI κ 28896 M9 := by rw [hg_15, gu_ne (by decide)]; exact hc_5
      have hc_19 : g_14 195 = aI κ 100 (vu X9 tx ch) := by rw [hg_15]; exact gu_self _ _ _
      have hc_20 : g_14 196 = aI κ 42 q9 := by rw [hg_15, gu_ne (by decide)]; exact hc_7
      have hc_21 : g_14 197 = aI κ 602 pa := by rw [hg_15, gu_ne (by decide)]; exact hc_8
      have hc_22 : g_14 198 = aI κ 43 be := by rw [hg_15, gu_ne (by decide)]; exact hc_9
      have hc_23 : g_14 199 = aI κ 86 sv := by rw [hg_15, gu_ne (by decide)]; exact hc_10
      refine g_aload_n C dX8_append_48 rfl hl 0 rfl ?_
      refine lv_dup C.1.1 C.1.2.1 dX8_append_49 rfl ?_
      refine g_get C G (pos := 192) fX8_append_86 (by omega) hc_16 rfl dX8_append_50 ?_
      refine g_iconst (a := 1) C dX8_append_53 rfl ?_
      refine g_iadd C dX8_append_54 ?_
      refine g_put C G (pos := 192) (fs' := [.ref (ad 193), .int (iz ly), .int (iz 0), .ref (ad 194), .int (iz mk), .ref (ad 195), .int (iz (tx + 1)), .ref (ad 196), .int (iz rl), .int (iz a0), .int (iz wr), .int (iz s0), .int (iz s1), .ref (ad 197), .int (iz rm), .ref (ad 198), .ref (ad 199)]) fwX8_append_86 (by omega) hc_16 (Nat.le_of_ble_eq_true rfl) rfl rfl rfl dX8_append_55 (fun H locs G => ?_)
      obtain ⟨g_24, hg_25⟩ : ∃ g9, g9 = va_up g_14 192 (.inr (8, [.ref (ad 193), .int (iz ly), .int (iz 0), .ref (ad 194), .int (iz mk), .ref (ad 195), .int (iz (tx + 1)), .ref (ad 196), .int (iz rl), .int (iz a0), .int (iz wr), .int (iz s0), .int (iz s1), .ref (ad 197), .int (iz rm), .ref (ad 198), .ref (ad 199)])) := ⟨_, rfl⟩
      rw [← hg_25] at G
      have hc_26 : g_24 192 = .inr (8, [.ref (ad 193), .int (iz ly), .int (iz 0), .ref (ad 194), .int (iz mk), .ref (ad 195), .int (iz (tx + 1)), .ref (ad 196), .int (iz rl), .int (iz a0), .int (iz wr), .int (iz s0), .int (iz s1), .ref (ad 197), .int (iz rm), .ref (ad 198), .ref (ad 199)]) := by rw [hg_25]; exact gu_self _ _ _
      have hc_27 : g_24 193 = aI κ 42 f := by rw [hg_25, gu_ne (by decide)]; exact hc_17
      have hc_28 : g_24 194 = aI κ 28896 M9 := by rw [hg_25, gu_ne (by decide)]; exact hc_18
      have hc_29 : g_24 195 = aI κ 100 (vu X9 tx ch) := by rw [hg_25, gu_ne (by decide)]; exact hc_19
      have hc_30 : g_24 196 = aI κ 42 q9 := by rw [hg_25, gu_ne (by decide)]; exact hc_20
      have hc_31 : g_24 197 = aI κ 602 pa := by rw [hg_25, gu_ne (by decide)]; exact hc_21
      have hc_32 : g_24 198 = aI κ 43 be := by rw [hg_25, gu_ne (by decide)]; exact hc_22
      have hc_33 : g_24 199 = aI κ 86 sv := by rw [hg_25, gu_ne (by decide)]; exact hc_23
      refine g_aload_n C dX8_append_58 rfl hl 0 rfl ?_
      refine g_get C G (pos := 192) fX8_append_86 (by omega) hc_26 rfl dX8_append_59 ?_
      refine g_iret C G hr hlk (Nat.le_of_ble_eq_true rfl) (Nat.le_of_ble_eq_true rfl) dX8_append_62 ?_
      exact ⟨Or.inr (Or.inr (⟨⟨by omega, rfl⟩, ⟨_, _, _, _, _, _, _, hc_26, hc_27, hc_28, hc_29, hc_30, hc_31, hc_32, hc_33, by omega, hMr, hinq⟩⟩)), fun q hq => (((congrFun hg_25 q).trans (gu_ne (by omega))).trans (((congrFun hg_15 q).trans (gu_ne (by omega))).trans ((congrFun hg_2 q).trans (gu_ne (by omega)))))⟩
    · refine g_aload_n C dX8_append_32 rfl hl 0 rfl ?_
      refine g_iconst (a := 2) C dX8_append_33 rfl ?_
      refine g_ci C G (g_runV (As := [.int (iz 2)]) (rest := []) (pos := 192) C G (c_X8_refused l κ B n ad g_1 ly 0 mk tx rl a0 wr s0 s1 rm 2 hn8 hc_3) (cwV 1 C.1.2.2.2.2 gX8_append_X8_refused rfl rfl rfl (by decide +kernel) ⟨Nat.le_of_ble_eq_true rfl, Nat.le_of_ble_eq_true rfl⟩) (by omega) hc_3 (T := TX8) (N := 17) rfl rfl hl rfl (Nat.le_of_ble_eq_true rfl) dX8_append_34 ⟨Nat.le_of_ble_eq_true rfl, Nat.le_of_ble_eq_true rfl⟩) (fun z_34 g9 H locs hw G => ?_)
      obtain ⟨hw, h_35⟩ := hw
      subst hw
      obtain ⟨g_36, hg_37⟩ : ∃ g9, g9 = va_up g_1 192 (.inr (8, [.ref (ad 193), .int (iz ly), .int (iz 2), .ref (ad 194), .int (iz mk), .ref (ad 195), .int (iz tx), .ref (ad 196), .int (iz rl), .int (iz a0), .int (iz wr), .int (iz s0), .int (iz s1), .ref (ad 197), .int (iz rm), .ref (ad 198), .ref (ad 199)])) := ⟨_, rfl⟩
      rw [← hg_37] at G
      have hc_38 : g_36 192 = .inr (8, [.ref (ad 193), .int (iz ly), .int (iz 2), .ref (ad 194), .int (iz mk), .ref (ad 195), .int (iz tx), .ref (ad 196), .int (iz rl), .int (iz a0), .int (iz wr), .int (iz s0), .int (iz s1), .ref (ad 197), .int (iz rm), .ref (ad 198), .ref (ad 199)]) := by rw [hg_37]; exact gu_self _ _ _
      have hc_39 : g_36 193 = aI κ 42 f := by rw [hg_37, gu_ne (by decide)]; exact hc_4
      have hc_40 : g_36 194 = aI κ 28896 M9 := by rw [hg_37, gu_ne (by decide)]; exact hc_5
      have hc_41 : g_36 195 = aI κ 100 X9 := by rw [hg_37, gu_ne (by decide)]; exact hc_6
      have hc_42 : g_36 196 = aI κ 42 q9 := by rw [hg_37, gu_ne (by decide)]; exact hc_7
      have hc_43 : g_36 197 = aI κ 602 pa := by rw [hg_37, gu_ne (by decide)]; exact hc_8
      have hc_44 : g_36 198 = aI κ 43 be := by rw [hg_37, gu_ne (by decide)]; exact hc_9
      have hc_45 : g_36 199 = aI κ 86 sv := by rw [hg_37, gu_ne (by decide)]; exact hc_10
      refine g_iret C G hr hlk (Nat.le_of_ble_eq_true rfl) (Nat.le_of_ble_eq_true rfl) dX8_append_37 ?_
      exact ⟨Or.inr (Or.inl ⟨by omega, ⟨_, _, _, _, _, _, _, hc_38, hc_39, hc_40, hc_41, hc_42, hc_43, hc_44, hc_45, by omega, hMr, hinq⟩⟩), fun q hq => (((congrFun hg_37 q).trans (gu_ne (by omega))).trans ((congrFun hg_2 q).trans (gu_ne (by omega))))⟩
  · refine g_if_ne (tgt := 23) C (by decide) dX8_append_14 (by decide) (fun c9 => absurd c9 (by decide)) (fun _ => ?_)
    refine g_aload_n C dX8_append_17 rfl hl 0 rfl ?_
    refine g_iconst (a := 1) C dX8_append_18 rfl ?_
    refine g_ci C G (g_runV (As := [.int (iz 1)]) (rest := []) (pos := 192) C G (c_X8_refused l κ B n ad g_1 ly 0 mk tx rl a0 wr s0 s1 rm 1 hn8 hc_3) (cwV 1 C.1.2.2.2.2 gX8_append_X8_refused rfl rfl rfl (by decide +kernel) ⟨Nat.le_of_ble_eq_true rfl, Nat.le_of_ble_eq_true rfl⟩) (by omega) hc_3 (T := TX8) (N := 17) rfl rfl hl rfl (Nat.le_of_ble_eq_true rfl) dX8_append_19 ⟨Nat.le_of_ble_eq_true rfl, Nat.le_of_ble_eq_true rfl⟩) (fun z_46 g9 H locs hw G => ?_)
    obtain ⟨hw, h_47⟩ := hw
    subst hw
    obtain ⟨g_48, hg_49⟩ : ∃ g9, g9 = va_up g_1 192 (.inr (8, [.ref (ad 193), .int (iz ly), .int (iz 1), .ref (ad 194), .int (iz mk), .ref (ad 195), .int (iz tx), .ref (ad 196), .int (iz rl), .int (iz a0), .int (iz wr), .int (iz s0), .int (iz s1), .ref (ad 197), .int (iz rm), .ref (ad 198), .ref (ad 199)])) := ⟨_, rfl⟩
    rw [← hg_49] at G
    have hc_50 : g_48 192 = .inr (8, [.ref (ad 193), .int (iz ly), .int (iz 1), .ref (ad 194), .int (iz mk), .ref (ad 195), .int (iz tx), .ref (ad 196), .int (iz rl), .int (iz a0), .int (iz wr), .int (iz s0), .int (iz s1), .ref (ad 197), .int (iz rm), .ref (ad 198), .ref (ad 199)]) := by rw [hg_49]; exact gu_self _ _ _
    have hc_51 : g_48 193 = aI κ 42 f := by rw [hg_49, gu_ne (by decide)]; exact hc_4
    have hc_52 : g_48 194 = aI κ 28896 M9 := by rw [hg_49, gu_ne (by decide)]; exact hc_5
    have hc_53 : g_48 195 = aI κ 100 X9 := by rw [hg_49, gu_ne (by decide)]; exact hc_6
    have hc_54 : g_48 196 = aI κ 42 q9 := by rw [hg_49, gu_ne (by decide)]; exact hc_7
    have hc_55 : g_48 197 = aI κ 602 pa := by rw [hg_49, gu_ne (by decide)]; exact hc_8
    have hc_56 : g_48 198 = aI κ 43 be := by rw [hg_49, gu_ne (by decide)]; exact hc_9
    have hc_57 : g_48 199 = aI κ 86 sv := by rw [hg_49, gu_ne (by decide)]; exact hc_10
    refine g_iret C G hr hlk (Nat.le_of_ble_eq_true rfl) (Nat.le_of_ble_eq_true rfl) dX8_append_22 ?_
    exact ⟨Or.inl ⟨by omega, ⟨_, _, _, _, _, _, _, hc_50, hc_51, hc_52, hc_53, hc_54, hc_55, hc_56, hc_57, by omega, hMr, hinq⟩⟩, fun q hq => (((congrFun hg_49 q).trans (gu_ne (by omega))).trans ((congrFun hg_2 q).trans (gu_ne (by omega))))⟩
set_option maxHeartbeats 4000000 in
set_option maxRecDepth 100000 in
theorem c_X8p_clearText (l : Launch) (κ : gKap) (B n : Nat) (ad : Nat → Nat) (g : Nat → va_E) (ly : Int) (th : Int) (mk : Int) (tx : Int) (rl : Int) (a0 : Int) (wr : Int) (s0 : Int) (s1 : Int) (rm : Int) (f : Int → Int) (M9 : Int → Int) (X9 : Int → Int) (q9 : Int → Int) (pa : Int → Int) (be : Int → Int) (sv : Int → Int) (hn8 : 200 ≤ n) (hM : g 192 = oM ad ly th mk tx rl a0 wr s0 s1 rm) (hN : g 193 = aI κ 42 f) (hK : g 194 = aI κ 28896 M9) (hT : g 195 = aI κ 100 X9) (hRd : g 196 = aI κ 42 q9) (hPa : g 197 = aI κ 602 pa) (hBe : g 198 = aI κ 43 be) (hSv : g 199 = aI κ 86 sv) (hok : okPl ly f) (hmk : 0 ≤ mk ∧ mk ≤ 800000000) (hMr : ∀ i, 0 ≤ i → i < 28896 → 0 ≤ M9 i ∧ M9 i ≤ mk) (hinq : inV q9) : Met l yX8_clearText wsX8_clearText ({ frames := 0, cells := 0, slots := 0, locals := 0 }) (gPre κ B n ad g [.ref (ad 192)]) (gQi κ B n ad (fun z g' => (((z = tx) ∧ jkM κ ad g' ly 0 0 s0 s1 rm (mk + 1000) f X9 pa sv)) ∧ frM g g')) 0 0 (gFree B) := by
  refine g_met RX8 (cc := cX8_clearText) (maxL := 2) (ret := (some .int)) (by decide) rfl rfl (Nat.le_of_ble_eq_true rfl) ?_
  intro p e s m args below meth c C hr hlk hnm G ls hl
  have hl : lv_has ls 2 [(0, .ref (ad 192))] := hl
  obtain ⟨hn6, hv0, hv25, hlay, hsee⟩ := id hok
  refine g_aload_n C dX8_clearText_0 rfl hl 0 rfl ?_
  refine g_iconst (a := 0) C dX8_clearText_1 rfl ?_
  refine g_put C G (pos := 192) (fs' := [.ref (ad 193), .int (iz ly), .int (iz 0), .ref (ad 194), .int (iz mk), .ref (ad 195), .int (iz tx), .ref (ad 196), .int (iz rl), .int (iz a0), .int (iz wr), .int (iz s0), .int (iz s1), .ref (ad 197), .int (iz rm), .ref (ad 198), .ref (ad 199)]) fwX8_clearText_31 (by omega) hM (Nat.le_of_ble_eq_true rfl) rfl rfl rfl dX8_clearText_2 (fun H locs G => ?_)
  obtain ⟨g_1, hg_2⟩ : ∃ g9, g9 = va_up g 192 (.inr (8, [.ref (ad 193), .int (iz ly), .int (iz 0), .ref (ad 194), .int (iz mk), .ref (ad 195), .int (iz tx), .ref (ad 196), .int (iz rl), .int (iz a0), .int (iz wr), .int (iz s0), .int (iz s1), .ref (ad 197), .int (iz rm), .ref (ad 198), .ref (ad 199)])) := ⟨_, rfl⟩
  rw [← hg_2] at G
  have hc_3 : g_1 192 = .inr (8, [.ref (ad 193), .int (iz ly), .int (iz 0), .ref (ad 194), .int (iz mk), .ref (ad 195), .int (iz tx), .ref (ad 196), .int (iz rl), .int (iz a0), .int (iz wr), .int (iz s0), .int (iz s1), .ref (ad 197), .int (iz rm), .ref (ad 198), .ref (ad 199)]) := by rw [hg_2]; exact gu_self _ _ _
  have hc_4 : g_1 193 = aI κ 42 f := by rw [hg_2, gu_ne (by decide)]; exact hN
  have hc_5 : g_1 194 = aI κ 28896 M9 := by rw [hg_2, gu_ne (by decide)]; exact hK
  have hc_6 : g_1 195 = aI κ 100 X9 := by rw [hg_2, gu_ne (by decide)]; exact hT
  have hc_7 : g_1 196 = aI κ 42 q9 := by rw [hg_2, gu_ne (by decide)]; exact hRd
  have hc_8 : g_1 197 = aI κ 602 pa := by rw [hg_2, gu_ne (by decide)]; exact hPa
  have hc_9 : g_1 198 = aI κ 43 be := by rw [hg_2, gu_ne (by decide)]; exact hBe
  have hc_10 : g_1 199 = aI κ 86 sv := by rw [hg_2, gu_ne (by decide)]; exact hSv
  refine g_aload_n C dX8_clearText_5 rfl hl 0 rfl ?_
  refine g_get C G (pos := 192) fX8_clearText_86 (by omega) hc_3 rfl dX8_clearText_6 ?_
  refine lv_istore_n (lv' := [(1, .int (iz tx)), (0, .ref (ad 192))]) C.1.1 C.1.2.1 dX8_clearText_9 rfl hl (by decide) rfl (fun ls hl => ?_)
  refine g_aload_n C dX8_clearText_10 rfl hl 1 rfl ?_
  refine g_iconst (a := 0) C dX8_clearText_11 rfl ?_
  refine g_put C G (pos := 192) (fs' := [.ref (ad 193), .int (iz ly), .int (iz 0), .ref (ad 194), .int (iz mk), .ref (ad 195), .int (iz 0), .ref (ad 196), .int (iz rl), .int (iz a0), .int (iz wr), .int (iz s0), .int (iz s1), .ref (ad 197), .int (iz rm), .ref (ad 198), .ref (ad 199)]) fwX8_clearText_86 (by omega) hc_3 (Nat.le_of_ble_eq_true rfl) rfl rfl rfl dX8_clearText_12 (fun H locs G => ?_)
  obtain ⟨g_11, hg_12⟩ : ∃ g9, g9 = va_up g_1 192 (.inr (8, [.ref (ad 193), .int (iz ly), .int (iz 0), .ref (ad 194), .int (iz mk), .ref (ad 195), .int (iz 0), .ref (ad 196), .int (iz rl), .int (iz a0), .int (iz wr), .int (iz s0), .int (iz s1), .ref (ad 197), .int (iz rm), .ref (ad 198), .ref (ad 199)])) := ⟨_, rfl⟩
  rw [← hg_12] at G
  have hc_13 : g_11 192 = .inr (8, [.ref (ad 193), .int (iz ly), .int (iz 0), .ref (ad 194), .int (iz mk), .ref (ad 195), .int (iz 0), .ref (ad 196), .int (iz rl), .int (iz a0), .int (iz wr), .int (iz s0), .int (iz s1), .ref (ad 197), .int (iz rm), .ref (ad 198), .ref (ad 199)]) := by rw [hg_12]; exact gu_self _ _ _
  have hc_14 : g_11 193 = aI κ 42 f := by rw [hg_12, gu_ne (by decide)]; exact hc_4
  have hc_15 : g_11 194 = aI κ 28896 M9 := by rw [hg_12, gu_ne (by decide)]; exact hc_5
  have hc_16 : g_11 195 = aI κ 100 X9 := by rw [hg_12, gu_ne (by decide)]; exact hc_6
  have hc_17 : g_11 196 = aI κ 42 q9 := by rw [hg_12, gu_ne (by decide)]; exact hc_7
  have hc_18 : g_11 197 = aI κ 602 pa := by rw [hg_12, gu_ne (by decide)]; exact hc_8
  have hc_19 : g_11 198 = aI κ 43 be := by rw [hg_12, gu_ne (by decide)]; exact hc_9
  have hc_20 : g_11 199 = aI κ 86 sv := by rw [hg_12, gu_ne (by decide)]; exact hc_10
  refine g_iload_n C dX8_clearText_15 rfl hl 0 rfl ?_
  refine g_iret C G hr hlk (Nat.le_of_ble_eq_true rfl) (Nat.le_of_ble_eq_true rfl) dX8_clearText_16 ?_
  exact ⟨⟨rfl, ⟨_, _, _, _, _, _, _, hc_13, hc_14, hc_15, hc_16, hc_17, hc_18, hc_19, hc_20, by omega, hMr, hinq⟩⟩, fun q hq => (((congrFun hg_12 q).trans (gu_ne (by omega))).trans ((congrFun hg_2 q).trans (gu_ne (by omega))))⟩
set_option maxHeartbeats 4000000 in
set_option maxRecDepth 100000 in
theorem c_X8p_errorPosition (l : Launch) (κ : gKap) (B n : Nat) (ad : Nat → Nat) (g : Nat → va_E) (ly : Int) (th : Int) (mk : Int) (tx : Int) (rl : Int) (a0 : Int) (wr : Int) (s0 : Int) (s1 : Int) (rm : Int) (f : Int → Int) (M9 : Int → Int) (X9 : Int → Int) (q9 : Int → Int) (pa : Int → Int) (be : Int → Int) (sv : Int → Int) (hn8 : 200 ≤ n) (hM : g 192 = oM ad ly th mk tx rl a0 wr s0 s1 rm) (hN : g 193 = aI κ 42 f) (hK : g 194 = aI κ 28896 M9) (hT : g 195 = aI κ 100 X9) (hRd : g 196 = aI κ 42 q9) (hPa : g 197 = aI κ 602 pa) (hBe : g 198 = aI κ 43 be) (hSv : g 199 = aI κ 86 sv) (hok : okPl ly f) (hmk : 0 ≤ mk ∧ mk ≤ 800000000) (hMr : ∀ i, 0 ≤ i → i < 28896 → 0 ≤ M9 i ∧ M9 i ≤ mk) (hinq : inV q9) (htx : 0 ≤ tx ∧ tx ≤ 100) (hTx : ∀ i, 0 ≤ i → i < 100 → 0 ≤ X9 i ∧ X9 i ≤ 255) : Met l yX8_errorPosition wsX8_errorPosition ({ frames := 4, cells := 0, slots := 0, locals := 95 }) (gPre κ B n ad g [.ref (ad 192)]) (gQi κ B n ad (fun z g' => (((z = (rtS X9 tx rl q9).1) ∧ jkM κ ad g' ly 0 tx s0 s1 rm (mk + 1000) f X9 pa sv)) ∧ frM g g')) 0 0 (gFree B) := by
  refine g_met RX8 (cc := cX8_errorPosition) (maxL := 1) (ret := (some .int)) (by decide) rfl rfl (Nat.le_of_ble_eq_true rfl) ?_
  intro p e s m args below meth c C hr hlk hnm G ls hl
  have hl : lv_has ls 1 [(0, .ref (ad 192))] := hl
  obtain ⟨hn6, hv0, hv25, hlay, hsee⟩ := id hok
  refine g_aload_n C dX8_errorPosition_0 rfl hl 0 rfl ?_
  refine g_iconst (a := 0) C dX8_errorPosition_1 rfl ?_
  refine g_put C G (pos := 192) (fs' := [.ref (ad 193), .int (iz ly), .int (iz 0), .ref (ad 194), .int (iz mk), .ref (ad 195), .int (iz tx), .ref (ad 196), .int (iz rl), .int (iz a0), .int (iz wr), .int (iz s0), .int (iz s1), .ref (ad 197), .int (iz rm), .ref (ad 198), .ref (ad 199)]) fwX8_errorPosition_31 (by omega) hM (Nat.le_of_ble_eq_true rfl) rfl rfl rfl dX8_errorPosition_2 (fun H locs G => ?_)
  obtain ⟨g_1, hg_2⟩ : ∃ g9, g9 = va_up g 192 (.inr (8, [.ref (ad 193), .int (iz ly), .int (iz 0), .ref (ad 194), .int (iz mk), .ref (ad 195), .int (iz tx), .ref (ad 196), .int (iz rl), .int (iz a0), .int (iz wr), .int (iz s0), .int (iz s1), .ref (ad 197), .int (iz rm), .ref (ad 198), .ref (ad 199)])) := ⟨_, rfl⟩
  rw [← hg_2] at G
  have hc_3 : g_1 192 = .inr (8, [.ref (ad 193), .int (iz ly), .int (iz 0), .ref (ad 194), .int (iz mk), .ref (ad 195), .int (iz tx), .ref (ad 196), .int (iz rl), .int (iz a0), .int (iz wr), .int (iz s0), .int (iz s1), .ref (ad 197), .int (iz rm), .ref (ad 198), .ref (ad 199)]) := by rw [hg_2]; exact gu_self _ _ _
  have hc_4 : g_1 193 = aI κ 42 f := by rw [hg_2, gu_ne (by decide)]; exact hN
  have hc_5 : g_1 194 = aI κ 28896 M9 := by rw [hg_2, gu_ne (by decide)]; exact hK
  have hc_6 : g_1 195 = aI κ 100 X9 := by rw [hg_2, gu_ne (by decide)]; exact hT
  have hc_7 : g_1 196 = aI κ 42 q9 := by rw [hg_2, gu_ne (by decide)]; exact hRd
  have hc_8 : g_1 197 = aI κ 602 pa := by rw [hg_2, gu_ne (by decide)]; exact hPa
  have hc_9 : g_1 198 = aI κ 43 be := by rw [hg_2, gu_ne (by decide)]; exact hBe
  have hc_10 : g_1 199 = aI κ 86 sv := by rw [hg_2, gu_ne (by decide)]; exact hSv
  refine g_aload_n C dX8_errorPosition_5 rfl hl 0 rfl ?_
  refine g_ci C G (g_runV (As := []) (rest := []) (pos := 192) C G (c_X8_readText l κ B n ad g_1 ly 0 mk tx rl a0 wr s0 s1 rm X9 q9 hn8 hc_3 hc_6 hc_7 htx hinq hTx) (cwV 0 C.1.2.2.2.2 gX8_errorPosition_X8_readText rfl rfl rfl (by decide +kernel) ⟨Nat.le_of_ble_eq_true rfl, Nat.le_of_ble_eq_true rfl⟩) (by omega) hc_3 (T := TX8) (N := 17) rfl rfl hl rfl (Nat.le_of_ble_eq_true rfl) dX8_errorPosition_6 ⟨Nat.le_of_ble_eq_true rfl, Nat.le_of_ble_eq_true rfl⟩) (fun z_11 g_12 H locs hw9 G => ?_)
  obtain ⟨h_13, l_19, p_20, w_21, q_22, hc_14, hc_15, hi_16, hf_17, hs_18⟩ := hw9
  have hc_23 : g_12 193 = aI κ 42 f := (hf_17 _ (by decide) (by decide)).trans hc_4
  have hc_24 : g_12 194 = aI κ 28896 M9 := (hf_17 _ (by decide) (by decide)).trans hc_5
  have hc_25 : g_12 195 = aI κ 100 X9 := (hf_17 _ (by decide) (by decide)).trans hc_6
  have hc_26 : g_12 197 = aI κ 602 pa := (hf_17 _ (by decide) (by decide)).trans hc_8
  have hc_27 : g_12 198 = aI κ 43 be := (hf_17 _ (by decide) (by decide)).trans hc_9
  have hc_28 : g_12 199 = aI κ 86 sv := (hf_17 _ (by decide) (by decide)).trans hc_10
  have hrg9 := rtS_rg (T9 := X9) (L9 := tx) (nl := rl) (v := q9) htx hinq
  rw [← h_13] at hrg9
  refine g_iret C G hr hlk (Nat.le_of_ble_eq_true rfl) (Nat.le_of_ble_eq_true rfl) dX8_errorPosition_9 ?_
  exact ⟨⟨h_13, ⟨_, _, _, _, _, _, _, hc_14, hc_23, hc_24, hc_25, hc_15, hc_26, hc_27, hc_28, by omega, hMr, hi_16⟩⟩, fun q hq => ((hf_17 q (by omega) (by omega)).trans ((congrFun hg_2 q).trans (gu_ne (by omega))))⟩
set_option maxHeartbeats 4000000 in
set_option maxRecDepth 100000 in
theorem c_X8p_load (l : Launch) (κ : gKap) (B n : Nat) (ad : Nat → Nat) (g : Nat → va_E) (ly : Int) (th : Int) (mk : Int) (tx : Int) (rl : Int) (a0 : Int) (wr : Int) (s0 : Int) (s1 : Int) (rm : Int) (f : Int → Int) (M9 : Int → Int) (X9 : Int → Int) (q9 : Int → Int) (pa : Int → Int) (be : Int → Int) (sv : Int → Int) (hn8 : 200 ≤ n) (hM : g 192 = oM ad ly th mk tx rl a0 wr s0 s1 rm) (hN : g 193 = aI κ 42 f) (hK : g 194 = aI κ 28896 M9) (hT : g 195 = aI κ 100 X9) (hRd : g 196 = aI κ 42 q9) (hPa : g 197 = aI κ 602 pa) (hBe : g 198 = aI κ 43 be) (hSv : g 199 = aI κ 86 sv) (hok : okPl ly f) (hmk : 0 ≤ mk ∧ mk ≤ 800000000) (hMr : ∀ i, 0 ≤ i → i < 28896 → 0 ≤ M9 i ∧ M9 i ≤ mk) (hinq : inV q9) (htx : 0 ≤ tx ∧ tx ≤ 100) (hTx : ∀ i, 0 ≤ i → i < 100 → 0 ≤ X9 i ∧ X9 i ≤ 255) : Met l yX8_load wsX8_load ({ frames := 4, cells := 0, slots := 0, locals := 95 }) (gPre κ B n ad g [.ref (ad 192)]) (gQi κ B n ad (fun z g' => (((¬ (rtS X9 tx rl q9).1 = -9) ∧ jkM κ ad g' ly 1 tx s0 s1 rm (mk + 1000) f X9 pa sv) ∨ (((rtS X9 tx rl q9).1 = -9 ∧ z = (rtS X9 tx rl q9).2.1) ∧ jkM κ ad g' ((rtS X9 tx rl q9).2.1) 0 tx 0 0 0 (mk + 1000) (brF (rtS X9 tx rl q9).2.2 (-1) f) X9 pa sv)) ∧ frM g g')) 0 0 (gFree B) := by
  refine g_met RX8 (cc := cX8_load) (maxL := 2) (ret := (some .int)) (by decide) rfl rfl (Nat.le_of_ble_eq_true rfl) ?_
  intro p e s m args below meth c C hr hlk hnm G ls hl
  have hl : lv_has ls 2 [(0, .ref (ad 192))] := hl
  obtain ⟨hn6, hv0, hv25, hlay, hsee⟩ := id hok
  refine g_aload_n C dX8_load_0 rfl hl 0 rfl ?_
  refine g_iconst (a := 0) C dX8_load_1 rfl ?_
  refine g_put C G (pos := 192) (fs' := [.ref (ad 193), .int (iz ly), .int (iz 0), .ref (ad 194), .int (iz mk), .ref (ad 195), .int (iz tx), .ref (ad 196), .int (iz rl), .int (iz a0), .int (iz wr), .int (iz s0), .int (iz s1), .ref (ad 197), .int (iz rm), .ref (ad 198), .ref (ad 199)]) fwX8_load_31 (by omega) hM (Nat.le_of_ble_eq_true rfl) rfl rfl rfl dX8_load_2 (fun H locs G => ?_)
  obtain ⟨g_1, hg_2⟩ : ∃ g9, g9 = va_up g 192 (.inr (8, [.ref (ad 193), .int (iz ly), .int (iz 0), .ref (ad 194), .int (iz mk), .ref (ad 195), .int (iz tx), .ref (ad 196), .int (iz rl), .int (iz a0), .int (iz wr), .int (iz s0), .int (iz s1), .ref (ad 197), .int (iz rm), .ref (ad 198), .ref (ad 199)])) := ⟨_, rfl⟩
  rw [← hg_2] at G
  have hc_3 : g_1 192 = .inr (8, [.ref (ad 193), .int (iz ly), .int (iz 0), .ref (ad 194), .int (iz mk), .ref (ad 195), .int (iz tx), .ref (ad 196), .int (iz rl), .int (iz a0), .int (iz wr), .int (iz s0), .int (iz s1), .ref (ad 197), .int (iz rm), .ref (ad 198), .ref (ad 199)]) := by rw [hg_2]; exact gu_self _ _ _
  have hc_4 : g_1 193 = aI κ 42 f := by rw [hg_2, gu_ne (by decide)]; exact hN
  have hc_5 : g_1 194 = aI κ 28896 M9 := by rw [hg_2, gu_ne (by decide)]; exact hK
  have hc_6 : g_1 195 = aI κ 100 X9 := by rw [hg_2, gu_ne (by decide)]; exact hT
  have hc_7 : g_1 196 = aI κ 42 q9 := by rw [hg_2, gu_ne (by decide)]; exact hRd
  have hc_8 : g_1 197 = aI κ 602 pa := by rw [hg_2, gu_ne (by decide)]; exact hPa
  have hc_9 : g_1 198 = aI κ 43 be := by rw [hg_2, gu_ne (by decide)]; exact hBe
  have hc_10 : g_1 199 = aI κ 86 sv := by rw [hg_2, gu_ne (by decide)]; exact hSv
  refine g_aload_n C dX8_load_5 rfl hl 0 rfl ?_
  refine g_ci C G (g_runV (As := []) (rest := []) (pos := 192) C G (c_X8_readText l κ B n ad g_1 ly 0 mk tx rl a0 wr s0 s1 rm X9 q9 hn8 hc_3 hc_6 hc_7 htx hinq hTx) (cwV 0 C.1.2.2.2.2 gX8_load_X8_readText rfl rfl rfl (by decide +kernel) ⟨Nat.le_of_ble_eq_true rfl, Nat.le_of_ble_eq_true rfl⟩) (by omega) hc_3 (T := TX8) (N := 17) rfl rfl hl rfl (Nat.le_of_ble_eq_true rfl) dX8_load_6 ⟨Nat.le_of_ble_eq_true rfl, Nat.le_of_ble_eq_true rfl⟩) (fun z_11 g_12 H locs hw9 G => ?_)
  obtain ⟨h_13, l_19, p_20, w_21, q_22, hc_14, hc_15, hi_16, hf_17, hs_18⟩ := hw9
  have hc_23 : g_12 193 = aI κ 42 f := (hf_17 _ (by decide) (by decide)).trans hc_4
  have hc_24 : g_12 194 = aI κ 28896 M9 := (hf_17 _ (by decide) (by decide)).trans hc_5
  have hc_25 : g_12 195 = aI κ 100 X9 := (hf_17 _ (by decide) (by decide)).trans hc_6
  have hc_26 : g_12 197 = aI κ 602 pa := (hf_17 _ (by decide) (by decide)).trans hc_8
  have hc_27 : g_12 198 = aI κ 43 be := (hf_17 _ (by decide) (by decide)).trans hc_9
  have hc_28 : g_12 199 = aI κ 86 sv := (hf_17 _ (by decide) (by decide)).trans hc_10
  have hrg9 := rtS_rg (T9 := X9) (L9 := tx) (nl := rl) (v := q9) htx hinq
  rw [← h_13] at hrg9
  refine g_bipush (a := (-9)) C dX8_load_9 (by decide) ?_
  refine g_icmp_eq (tgt := 20) C (by omega) (by omega) dX8_load_11 (by decide) (fun c_29 => ?_) (fun c_29 => ?_)
  · refine g_iconst (a := 0) C dX8_load_20 rfl ?_
    refine lv_istore_n (lv' := [(1, .int (iz 0)), (0, .ref (ad 192))]) C.1.1 C.1.2.1 dX8_load_21 rfl hl (by decide) rfl (fun ls hl => ?_)
    have hfL : frM g g_12 := fun q hq => ((hf_17 q (by omega) (by omega)).trans ((congrFun hg_2 q).trans (gu_ne (by omega))))
    have lp_22_n_31 : ∀ (k_30 : Nat) (k : Int) (V : Int → Int) (gv : Nat → va_E), (42 - k).toNat < k_30 → (0 ≤ k ∧ k ≤ 42) → (gv = va_up g_12 193 (aI κ 42 V)) → (∀ i, V i = if 0 ≤ i ∧ i < k then q_22 (-1 + 1 + i) else f i) → ∀ (H : Heap) (locs : List Loc), gG κ B n ad s gv H locs → ∀ (ls : Array Slot), lv_has ls 2 [(0, .ref (ad 192)), (1, .int (iz k))] → W p l e ({ frames := 4, cells := 0, slots := 0, locals := 95 }) s m args below meth c H locs 0 0 (MQ below (gQi κ B n ad (fun z g' => (((¬ (rtS X9 tx rl q9).1 = -9) ∧ jkM κ ad g' ly 1 tx s0 s1 rm (mk + 1000) f X9 pa sv) ∨ (((rtS X9 tx rl q9).1 = -9 ∧ z = (rtS X9 tx rl q9).2.1) ∧ jkM κ ad g' ((rtS X9 tx rl q9).2.1) 0 tx 0 0 0 (mk + 1000) (brF (rtS X9 tx rl q9).2.2 (-1) f) X9 pa sv)) ∧ frM g g')) args s 0 0 (gFree B)) (F0 m 22 ls []) := by
      intro k_30
      induction k_30 with
      | zero => intro k V gv hm; exact absurd hm (Nat.not_lt_zero _)
      | succ k_30 ih_lp_22_n_31 =>
        intro k V gv hm hk hgv hV H locs G ls hl
        have hn9 : gv 193 = aI κ 42 V := by rw [hgv]; exact gu_self _ _ _
        have hc_32 : gv 194 = aI κ 28896 M9 := by rw [hgv, gu_ne (by decide)]; exact hc_24
        have hc_33 : gv 195 = aI κ 100 X9 := by rw [hgv, gu_ne (by decide)]; exact hc_25
        have hc_34 : gv 197 = aI κ 602 pa := by rw [hgv, gu_ne (by decide)]; exact hc_26
        have hc_35 : gv 198 = aI κ 43 be := by rw [hgv, gu_ne (by decide)]; exact hc_27
        have hc_36 : gv 199 = aI κ 86 sv := by rw [hgv, gu_ne (by decide)]; exact hc_28
        have hc_37 : gv 192 = .inr (8, [.ref (ad 193), .int (iz ly), .int (iz 0), .ref (ad 194), .int (iz mk), .ref (ad 195), .int (iz tx), .ref (ad 196), .int (iz l_19), .int (iz p_20), .int (iz w_21), .int (iz s0), .int (iz s1), .ref (ad 197), .int (iz rm), .ref (ad 198), .ref (ad 199)]) := by rw [hgv, gu_ne (by decide)]; exact hc_14
        have hc_38 : gv 196 = aI κ 42 q_22 := by rw [hgv, gu_ne (by decide)]; exact hc_15
        refine g_iload_n C dX8_load_22 rfl hl 1 rfl ?_
        refine g_bipush (a := 42) C dX8_load_23 (by decide) ?_
        refine g_icmp_ge (tgt := 46) C (by omega) (by decide) dX8_load_25 (by decide) (fun c_39 => ?_) (fun c_39 => ?_)
        · refine g_aload_n C dX8_load_46 rfl hl 0 rfl ?_
          refine g_aload_n C dX8_load_47 rfl hl 0 rfl ?_
          refine g_get C G (pos := 192) fX8_load_98 (by omega) hc_37 rfl dX8_load_48 ?_
          refine g_put C G (pos := 192) (fs' := [.ref (ad 193), .int (iz l_19), .int (iz 0), .ref (ad 194), .int (iz mk), .ref (ad 195), .int (iz tx), .ref (ad 196), .int (iz l_19), .int (iz p_20), .int (iz w_21), .int (iz s0), .int (iz s1), .ref (ad 197), .int (iz rm), .ref (ad 198), .ref (ad 199)]) fwX8_load_35 (by omega) hc_37 (Nat.le_of_ble_eq_true rfl) rfl rfl rfl dX8_load_51 (fun H locs G => ?_)
          obtain ⟨g_40, hg_41⟩ : ∃ g9, g9 = va_up gv 192 (.inr (8, [.ref (ad 193), .int (iz l_19), .int (iz 0), .ref (ad 194), .int (iz mk), .ref (ad 195), .int (iz tx), .ref (ad 196), .int (iz l_19), .int (iz p_20), .int (iz w_21), .int (iz s0), .int (iz s1), .ref (ad 197), .int (iz rm), .ref (ad 198), .ref (ad 199)])) := ⟨_, rfl⟩
          rw [← hg_41] at G
          have hc_42 : g_40 194 = aI κ 28896 M9 := by rw [hg_41, gu_ne (by decide)]; exact hc_32
          have hc_43 : g_40 195 = aI κ 100 X9 := by rw [hg_41, gu_ne (by decide)]; exact hc_33
          have hc_44 : g_40 197 = aI κ 602 pa := by rw [hg_41, gu_ne (by decide)]; exact hc_34
          have hc_45 : g_40 198 = aI κ 43 be := by rw [hg_41, gu_ne (by decide)]; exact hc_35
          have hc_46 : g_40 199 = aI κ 86 sv := by rw [hg_41, gu_ne (by decide)]; exact hc_36
          have hc_47 : g_40 192 = .inr (8, [.ref (ad 193), .int (iz l_19), .int (iz 0), .ref (ad 194), .int (iz mk), .ref (ad 195), .int (iz tx), .ref (ad 196), .int (iz l_19), .int (iz p_20), .int (iz w_21), .int (iz s0), .int (iz s1), .ref (ad 197), .int (iz rm), .ref (ad 198), .ref (ad 199)]) := by rw [hg_41]; exact gu_self _ _ _
          have hc_48 : g_40 196 = aI κ 42 q_22 := by rw [hg_41, gu_ne (by decide)]; exact hc_38
          have hc_49 : g_40 193 = aI κ 42 V := by rw [hg_41, gu_ne (by decide)]; exact hn9
          refine g_aload_n C dX8_load_54 rfl hl 0 rfl ?_
          refine g_iconst (a := 0) C dX8_load_55 rfl ?_
          refine g_put C G (pos := 192) (fs' := [.ref (ad 193), .int (iz l_19), .int (iz 0), .ref (ad 194), .int (iz mk), .ref (ad 195), .int (iz tx), .ref (ad 196), .int (iz l_19), .int (iz p_20), .int (iz w_21), .int (iz s0), .int (iz s1), .ref (ad 197), .int (iz 0), .ref (ad 198), .ref (ad 199)]) fwX8_load_111 (by omega) hc_47 (Nat.le_of_ble_eq_true rfl) rfl rfl rfl dX8_load_56 (fun H locs G => ?_)
          obtain ⟨g_50, hg_51⟩ : ∃ g9, g9 = va_up g_40 192 (.inr (8, [.ref (ad 193), .int (iz l_19), .int (iz 0), .ref (ad 194), .int (iz mk), .ref (ad 195), .int (iz tx), .ref (ad 196), .int (iz l_19), .int (iz p_20), .int (iz w_21), .int (iz s0), .int (iz s1), .ref (ad 197), .int (iz 0), .ref (ad 198), .ref (ad 199)])) := ⟨_, rfl⟩
          rw [← hg_51] at G
          have hc_52 : g_50 194 = aI κ 28896 M9 := by rw [hg_51, gu_ne (by decide)]; exact hc_42
          have hc_53 : g_50 195 = aI κ 100 X9 := by rw [hg_51, gu_ne (by decide)]; exact hc_43
          have hc_54 : g_50 197 = aI κ 602 pa := by rw [hg_51, gu_ne (by decide)]; exact hc_44
          have hc_55 : g_50 198 = aI κ 43 be := by rw [hg_51, gu_ne (by decide)]; exact hc_45
          have hc_56 : g_50 199 = aI κ 86 sv := by rw [hg_51, gu_ne (by decide)]; exact hc_46
          have hc_57 : g_50 192 = .inr (8, [.ref (ad 193), .int (iz l_19), .int (iz 0), .ref (ad 194), .int (iz mk), .ref (ad 195), .int (iz tx), .ref (ad 196), .int (iz l_19), .int (iz p_20), .int (iz w_21), .int (iz s0), .int (iz s1), .ref (ad 197), .int (iz 0), .ref (ad 198), .ref (ad 199)]) := by rw [hg_51]; exact gu_self _ _ _
          have hc_58 : g_50 196 = aI κ 42 q_22 := by rw [hg_51, gu_ne (by decide)]; exact hc_48
          have hc_59 : g_50 193 = aI κ 42 V := by rw [hg_51, gu_ne (by decide)]; exact hc_49
          refine g_aload_n C dX8_load_59 rfl hl 0 rfl ?_
          refine g_iconst (a := 0) C dX8_load_60 rfl ?_
          refine g_put C G (pos := 192) (fs' := [.ref (ad 193), .int (iz l_19), .int (iz 0), .ref (ad 194), .int (iz mk), .ref (ad 195), .int (iz tx), .ref (ad 196), .int (iz l_19), .int (iz p_20), .int (iz w_21), .int (iz 0), .int (iz s1), .ref (ad 197), .int (iz 0), .ref (ad 198), .ref (ad 199)]) fwX8_load_114 (by omega) hc_57 (Nat.le_of_ble_eq_true rfl) rfl (gnar_z (by decide)) rfl dX8_load_61 (fun H locs G => ?_)
          obtain ⟨g_60, hg_61⟩ : ∃ g9, g9 = va_up g_50 192 (.inr (8, [.ref (ad 193), .int (iz l_19), .int (iz 0), .ref (ad 194), .int (iz mk), .ref (ad 195), .int (iz tx), .ref (ad 196), .int (iz l_19), .int (iz p_20), .int (iz w_21), .int (iz 0), .int (iz s1), .ref (ad 197), .int (iz 0), .ref (ad 198), .ref (ad 199)])) := ⟨_, rfl⟩
          rw [← hg_61] at G
          have hc_62 : g_60 194 = aI κ 28896 M9 := by rw [hg_61, gu_ne (by decide)]; exact hc_52
          have hc_63 : g_60 195 = aI κ 100 X9 := by rw [hg_61, gu_ne (by decide)]; exact hc_53
          have hc_64 : g_60 197 = aI κ 602 pa := by rw [hg_61, gu_ne (by decide)]; exact hc_54
          have hc_65 : g_60 198 = aI κ 43 be := by rw [hg_61, gu_ne (by decide)]; exact hc_55
          have hc_66 : g_60 199 = aI κ 86 sv := by rw [hg_61, gu_ne (by decide)]; exact hc_56
          have hc_67 : g_60 192 = .inr (8, [.ref (ad 193), .int (iz l_19), .int (iz 0), .ref (ad 194), .int (iz mk), .ref (ad 195), .int (iz tx), .ref (ad 196), .int (iz l_19), .int (iz p_20), .int (iz w_21), .int (iz 0), .int (iz s1), .ref (ad 197), .int (iz 0), .ref (ad 198), .ref (ad 199)]) := by rw [hg_61]; exact gu_self _ _ _
          have hc_68 : g_60 196 = aI κ 42 q_22 := by rw [hg_61, gu_ne (by decide)]; exact hc_58
          have hc_69 : g_60 193 = aI κ 42 V := by rw [hg_61, gu_ne (by decide)]; exact hc_59
          refine g_aload_n C dX8_load_64 rfl hl 0 rfl ?_
          refine g_iconst (a := 0) C dX8_load_65 rfl ?_
          refine g_put C G (pos := 192) (fs' := [.ref (ad 193), .int (iz l_19), .int (iz 0), .ref (ad 194), .int (iz mk), .ref (ad 195), .int (iz tx), .ref (ad 196), .int (iz l_19), .int (iz p_20), .int (iz w_21), .int (iz 0), .int (iz 0), .ref (ad 197), .int (iz 0), .ref (ad 198), .ref (ad 199)]) fwX8_load_117 (by omega) hc_67 (Nat.le_of_ble_eq_true rfl) rfl (gnar_z (by decide)) rfl dX8_load_66 (fun H locs G => ?_)
          obtain ⟨g_70, hg_71⟩ : ∃ g9, g9 = va_up g_60 192 (.inr (8, [.ref (ad 193), .int (iz l_19), .int (iz 0), .ref (ad 194), .int (iz mk), .ref (ad 195), .int (iz tx), .ref (ad 196), .int (iz l_19), .int (iz p_20), .int (iz w_21), .int (iz 0), .int (iz 0), .ref (ad 197), .int (iz 0), .ref (ad 198), .ref (ad 199)])) := ⟨_, rfl⟩
          rw [← hg_71] at G
          have hc_72 : g_70 194 = aI κ 28896 M9 := by rw [hg_71, gu_ne (by decide)]; exact hc_62
          have hc_73 : g_70 195 = aI κ 100 X9 := by rw [hg_71, gu_ne (by decide)]; exact hc_63
          have hc_74 : g_70 197 = aI κ 602 pa := by rw [hg_71, gu_ne (by decide)]; exact hc_64
          have hc_75 : g_70 198 = aI κ 43 be := by rw [hg_71, gu_ne (by decide)]; exact hc_65
          have hc_76 : g_70 199 = aI κ 86 sv := by rw [hg_71, gu_ne (by decide)]; exact hc_66
          have hc_77 : g_70 192 = .inr (8, [.ref (ad 193), .int (iz l_19), .int (iz 0), .ref (ad 194), .int (iz mk), .ref (ad 195), .int (iz tx), .ref (ad 196), .int (iz l_19), .int (iz p_20), .int (iz w_21), .int (iz 0), .int (iz 0), .ref (ad 197), .int (iz 0), .ref (ad 198), .ref (ad 199)]) := by rw [hg_71]; exact gu_self _ _ _
          have hc_78 : g_70 196 = aI κ 42 q_22 := by rw [hg_71, gu_ne (by decide)]; exact hc_68
          have hc_79 : g_70 193 = aI κ 42 V := by rw [hg_71, gu_ne (by decide)]; exact hc_69
          refine g_aload_n C dX8_load_69 rfl hl 0 rfl ?_
          refine g_get C G (pos := 192) fX8_load_35 (by omega) hc_77 rfl dX8_load_70 ?_
          refine g_iret C G hr hlk (Nat.le_of_ble_eq_true rfl) (Nat.le_of_ble_eq_true rfl) dX8_load_73 ?_
          have hq9 : (rtS X9 tx rl q9).1 = -9 := by rw [← h_13]; omega
          obtain ⟨hs1, hs2⟩ := hs_18 hq9
          rw [hs1] at hc_77
          have hc_80 : g_70 193 = aI κ 42 (brF (rtS X9 tx rl q9).2.2 (-1) f) := hc_79.trans (congrArg (fun q => aI κ 42 q) (by rw [br_end (by omega) hV, hs2]))
          exact ⟨Or.inr (⟨⟨hq9, hs1⟩, ⟨_, _, _, _, _, _, _, hc_77, hc_80, hc_72, hc_73, hc_78, hc_74, hc_75, hc_76, by omega, hMr, hi_16⟩⟩), fun q hq => (((congrFun hg_71 q).trans (gu_ne (by omega))).trans (((congrFun hg_61 q).trans (gu_ne (by omega))).trans (((congrFun hg_51 q).trans (gu_ne (by omega))).trans (((congrFun hg_41 q).trans (gu_ne (by omega))).trans (((congrFun hgv q).trans (gu_ne (by omega))).trans (hfL q (by omega)))))))⟩
        · refine g_aload_n C dX8_load_28 rfl hl 0 rfl ?_
          refine g_get C G (pos := 192) fX8_load_7 (by omega) hc_37 rfl dX8_load_29 ?_
          refine g_iload_n C dX8_load_32 rfl hl 1 rfl ?_
          refine g_aload_n C dX8_load_33 rfl hl 0 rfl ?_
          refine g_get C G (pos := 192) fX8_load_19 (by omega) hc_37 rfl dX8_load_34 ?_
          refine g_iload_n C dX8_load_37 rfl hl 1 rfl ?_
          refine g_iaload C G (pos := 196) (by omega) hc_38 (by omega) (by omega) (by omega) dX8_load_38 ?_
          refine g_iastore C G (pos := 193) (by omega) hn9 (by omega) (by omega) (by omega) dX8_load_39 (fun H locs G => ?_)
          obtain ⟨g_81, hg_82⟩ : ∃ g9, g9 = va_up gv 193 (aI κ 42 (vu V k (q_22 k))) := ⟨_, rfl⟩
          rw [← hg_82] at G
          have hc_83 : g_81 194 = aI κ 28896 M9 := by rw [hg_82, gu_ne (by decide)]; exact hc_32
          have hc_84 : g_81 195 = aI κ 100 X9 := by rw [hg_82, gu_ne (by decide)]; exact hc_33
          have hc_85 : g_81 197 = aI κ 602 pa := by rw [hg_82, gu_ne (by decide)]; exact hc_34
          have hc_86 : g_81 198 = aI κ 43 be := by rw [hg_82, gu_ne (by decide)]; exact hc_35
          have hc_87 : g_81 199 = aI κ 86 sv := by rw [hg_82, gu_ne (by decide)]; exact hc_36
          have hc_88 : g_81 192 = .inr (8, [.ref (ad 193), .int (iz ly), .int (iz 0), .ref (ad 194), .int (iz mk), .ref (ad 195), .int (iz tx), .ref (ad 196), .int (iz l_19), .int (iz p_20), .int (iz w_21), .int (iz s0), .int (iz s1), .ref (ad 197), .int (iz rm), .ref (ad 198), .ref (ad 199)]) := by rw [hg_82, gu_ne (by decide)]; exact hc_37
          have hc_89 : g_81 196 = aI κ 42 q_22 := by rw [hg_82, gu_ne (by decide)]; exact hc_38
          have hc_90 : g_81 193 = aI κ 42 (vu V k (q_22 k)) := by rw [hg_82]; exact gu_self _ _ _
          refine lv_iinc (v := iz (k + 1)) (lv' := [(1, .int (iz (k + 1))), (0, .ref (ad 192))]) C.1.1 C.1.2.1 dX8_load_40 hl (k := 1) rfl (g_inc (by omega)) (by decide) rfl (fun ls hl => ?_)
          refine g_goto (tgt := 22) C dX8_load_43 (by decide) ?_
          exact ih_lp_22_n_31 (k + 1) (vu V k (q_22 k)) g_81 (by omega) (by omega) (by rw [hg_82, hgv, gu_up]) (ld_step hk.1 hV) _ _ G _ (lv_sub hl [1, 0] rfl)
    exact lp_22_n_31 _ 0 f g_12 (Nat.lt_succ_self _) (by omega) (by funext q; by_cases hq : q = 193 <;> simp [va_up, hq, hc_23]) (fun i => by rw [if_neg (by omega)]) _ _ G _ (lv_sub hl [1, 0] rfl)
  · refine g_aload_n C dX8_load_14 rfl hl 0 rfl ?_
    refine g_iconst (a := 1) C dX8_load_15 rfl ?_
    refine g_ci C G (g_runV (As := [.int (iz 1)]) (rest := []) (pos := 192) C G (c_X8_refused l κ B n ad g_12 ly 0 mk tx l_19 p_20 w_21 s0 s1 rm 1 hn8 hc_14) (cwV 1 C.1.2.2.2.2 gX8_load_X8_refused rfl rfl rfl (by decide +kernel) ⟨Nat.le_of_ble_eq_true rfl, Nat.le_of_ble_eq_true rfl⟩) (by omega) hc_14 (T := TX8) (N := 17) rfl rfl hl rfl (Nat.le_of_ble_eq_true rfl) dX8_load_16 ⟨Nat.le_of_ble_eq_true rfl, Nat.le_of_ble_eq_true rfl⟩) (fun z_91 g9 H locs hw G => ?_)
    obtain ⟨hw, h_92⟩ := hw
    subst hw
    obtain ⟨g_93, hg_94⟩ : ∃ g9, g9 = va_up g_12 192 (.inr (8, [.ref (ad 193), .int (iz ly), .int (iz 1), .ref (ad 194), .int (iz mk), .ref (ad 195), .int (iz tx), .ref (ad 196), .int (iz l_19), .int (iz p_20), .int (iz w_21), .int (iz s0), .int (iz s1), .ref (ad 197), .int (iz rm), .ref (ad 198), .ref (ad 199)])) := ⟨_, rfl⟩
    rw [← hg_94] at G
    have hc_95 : g_93 193 = aI κ 42 f := by rw [hg_94, gu_ne (by decide)]; exact hc_23
    have hc_96 : g_93 194 = aI κ 28896 M9 := by rw [hg_94, gu_ne (by decide)]; exact hc_24
    have hc_97 : g_93 195 = aI κ 100 X9 := by rw [hg_94, gu_ne (by decide)]; exact hc_25
    have hc_98 : g_93 197 = aI κ 602 pa := by rw [hg_94, gu_ne (by decide)]; exact hc_26
    have hc_99 : g_93 198 = aI κ 43 be := by rw [hg_94, gu_ne (by decide)]; exact hc_27
    have hc_100 : g_93 199 = aI κ 86 sv := by rw [hg_94, gu_ne (by decide)]; exact hc_28
    have hc_101 : g_93 192 = .inr (8, [.ref (ad 193), .int (iz ly), .int (iz 1), .ref (ad 194), .int (iz mk), .ref (ad 195), .int (iz tx), .ref (ad 196), .int (iz l_19), .int (iz p_20), .int (iz w_21), .int (iz s0), .int (iz s1), .ref (ad 197), .int (iz rm), .ref (ad 198), .ref (ad 199)]) := by rw [hg_94]; exact gu_self _ _ _
    have hc_102 : g_93 196 = aI κ 42 q_22 := by rw [hg_94, gu_ne (by decide)]; exact hc_15
    refine g_iret C G hr hlk (Nat.le_of_ble_eq_true rfl) (Nat.le_of_ble_eq_true rfl) dX8_load_19 ?_
    exact ⟨Or.inl ⟨by rw [← h_13]; omega, ⟨_, _, _, _, _, _, _, hc_101, hc_95, hc_96, hc_97, hc_102, hc_98, hc_99, hc_100, by omega, hMr, hi_16⟩⟩, fun q hq => (((congrFun hg_94 q).trans (gu_ne (by omega))).trans ((hf_17 q (by omega) (by omega)).trans ((congrFun hg_2 q).trans (gu_ne (by omega)))))⟩
