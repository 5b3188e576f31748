/-! ROSETTEPLATEMODEL (X8): scripts -/
def gun (m9 : Int) : Int := if m9 = 1 then 100000 else if m9 = 2 then 10000000000 else 1000000000000000
theorem gun_gu {m9 : Int} (h : 1 ≤ m9 ∧ m9 ≤ 3) : gun m9 = gu m9 := by
  have h9 : m9 = 1 ∨ m9 = 2 ∨ m9 = 3 := by omega
  rcases h9 with rfl | rfl | rfl <;> rfl
theorem scG_all {m9 sc : Int} : ∀ i, 0 ≤ scG m9 sc i ∧ scG m9 sc i < 100000 := fun i => scG_rg
theorem cmOK_1 {kd c2 c3 c4 c5 nl : Int} {v : Int → Int} (h9 : kd = 1) : cmOK kd c2 c3 c4 c5 nl v ↔ (c2 < nl ∧ ((c3 = 0 ∧ 5 ≤ 10 * c4 + c5 ∧ 10 * c4 + c5 ≤ 60) ∨ (c3 = 1 ∧ (10 * c4 + c5 = 0 ∨ 10 * c4 + c5 = 1)) ∨ (c3 = 2 ∧ 0 ≤ 10 * c4 + c5 ∧ 10 * c4 + c5 ≤ 20) ∨ (c3 = 3 ∧ 0 ≤ 10 * c4 + c5 ∧ 10 * c4 + c5 < v 0))) := by
  unfold cmOK
  rw [if_pos h9]
theorem cmOK_2 {kd c2 c3 c4 c5 nl : Int} {v : Int → Int} (h9 : kd = 2) : cmOK kd c2 c3 c4 c5 nl v ↔ (c3 = 0 ∧ 10 * c4 + c5 = 0 ∧ c2 < nl) := by
  unfold cmOK
  rw [if_neg (by omega), if_pos h9]
theorem cmOK_3 {kd c2 c3 c4 c5 nl : Int} {v : Int → Int} (h9 : kd = 3) : cmOK kd c2 c3 c4 c5 nl v ↔ (c2 = 0 ∧ c3 = 0 ∧ 12 ≤ 10 * c4 + c5 ∧ 10 * c4 + c5 ≤ 96) := by
  unfold cmOK
  rw [if_neg (by omega), if_neg (by omega), if_pos h9]
theorem cmOK_4 {kd c2 c3 c4 c5 nl : Int} {v : Int → Int} (h9 : kd = 4) : cmOK kd c2 c3 c4 c5 nl v ↔ ((c2 = 0 ∨ c2 = 1) ∧ 5 ≤ 10 * c3 + c4 ∧ 10 * c3 + c4 ≤ 60 ∧ nl < 6) := by
  unfold cmOK
  rw [if_neg (by omega), if_neg (by omega), if_neg (by omega), if_pos h9]
theorem cmOK_5 {kd c2 c3 c4 c5 nl : Int} {v : Int → Int} (h9 : kd = 5) : cmOK kd c2 c3 c4 c5 nl v ↔ (c2 < nl ∧ c3 < nl ∧ 10 * c4 + c5 ≤ (cntS (fun x y => PTl v c2 x y ∧ PTl v c3 x y) : Int)) := by
  unfold cmOK
  rw [if_neg (by omega), if_neg (by omega), if_neg (by omega), if_neg (by omega), if_pos h9]
theorem cmOK_6 {kd c2 c3 c4 c5 nl : Int} {v : Int → Int} (h9 : kd = 6) : cmOK kd c2 c3 c4 c5 nl v ↔ (c2 < nl ∧ c3 = 0 ∧ tn (v 0) (v (4 * c2 + 1)) = 10 * c4 + c5) := by
  unfold cmOK
  rw [if_neg (by omega), if_neg (by omega), if_neg (by omega), if_neg (by omega), if_neg (by omega), if_pos h9]
theorem cmOK_7 {kd c2 c3 c4 c5 nl : Int} {v : Int → Int} (h9 : kd = 7) : cmOK kd c2 c3 c4 c5 nl v ↔ (c2 < nl ∧ c3 < nl ∧ isFirst (fun d => SameR (v 0) (v (4 * c2 + 1)) (v (4 * c2 + 2)) (v (4 * c2 + 3)) ((v (4 * c2 + 4) + d) % v 0) (v (4 * c3 + 1)) (v (4 * c3 + 2)) (v (4 * c3 + 3)) (v (4 * c3 + 4))) (v 0) (10 * c4 + c5)) := by
  unfold cmOK
  rw [if_neg (by omega), if_neg (by omega), if_neg (by omega), if_neg (by omega), if_neg (by omega), if_neg (by omega), if_pos h9]
theorem cmOK_8 {kd c2 c3 c4 c5 nl : Int} {v : Int → Int} (h9 : kd = 8) : cmOK kd c2 c3 c4 c5 nl v ↔ (c3 = 0 ∧ 10 * c4 + c5 = 0 ∧ c2 ≤ fitN nl v) := by
  unfold cmOK
  rw [if_neg (by omega), if_neg (by omega), if_neg (by omega), if_neg (by omega), if_neg (by omega), if_neg (by omega), if_neg (by omega), if_pos h9]
theorem cmOK_9 {kd c2 c3 c4 c5 nl : Int} {v : Int → Int} (h9 : kd = 9) : cmOK kd c2 c3 c4 c5 nl v ↔ (c2 < nl ∧ c3 = 0 ∧ lb (v 0) (v (4 * c2 + 1)) = 10 * c4 + c5) := by
  unfold cmOK
  rw [if_neg (by omega), if_neg (by omega), if_neg (by omega), if_neg (by omega), if_neg (by omega), if_neg (by omega), if_neg (by omega), if_neg (by omega), if_pos h9]
theorem cmOK_no {kd c2 c3 c4 c5 nl : Int} {v : Int → Int} (h0 : 0 ≤ kd ∧ kd ≤ 9) (h9 : ¬ (1 ≤ kd ∧ kd ≤ 9)) (h : cmOK kd c2 c3 c4 c5 nl v) : False := by
  unfold cmOK at h
  rw [if_neg (by omega), if_neg (by omega), if_neg (by omega), if_neg (by omega), if_neg (by omega), if_neg (by omega), if_neg (by omega), if_neg (by omega), if_neg (by omega)] at h
  exact h
theorem cmP_1 {kd c2 c3 c4 c5 nl : Int} {v : Int → Int} (h9 : kd = 1) : cmP kd c2 c3 c4 c5 nl v = (nl, vu v (4 * c2 + 1 + c3) (10 * c4 + c5)) := by
  unfold cmP
  rw [if_pos h9]
theorem cmP_2 {kd c2 c3 c4 c5 nl : Int} {v : Int → Int} (h9 : kd = 2) : cmP kd c2 c3 c4 c5 nl v = (nl - 1, drv nl v c2) := by
  unfold cmP
  rw [if_neg (by omega), if_pos h9]
theorem cmP_3 {kd c2 c3 c4 c5 nl : Int} {v : Int → Int} (h9 : kd = 3) : cmP kd c2 c3 c4 c5 nl v = (nl, tkr nl v (10 * c4 + c5)) := by
  unfold cmP
  rw [if_neg (by omega), if_neg (by omega), if_pos h9]
theorem cmP_4 {kd c2 c3 c4 c5 nl : Int} {v : Int → Int} (h9 : kd = 4) : cmP kd c2 c3 c4 c5 nl v = (nl + 1, v4 v nl (10 * c3 + c4) c2 c5 0) := by
  unfold cmP
  rw [if_neg (by omega), if_neg (by omega), if_neg (by omega), if_pos h9]
theorem cmP_5 {kd c2 c3 c4 c5 nl : Int} {v : Int → Int} (h9 : 5 ≤ kd) : cmP kd c2 c3 c4 c5 nl v = (nl, v) := by
  unfold cmP
  rw [if_neg (by omega), if_neg (by omega), if_neg (by omega), if_neg (by omega)]
theorem fX8_succeeds_7 : gFld wsX8_succeeds RX8 7 8 0 := ⟨RX8, TX8, 17, rfl, by decide, by decide +kernel, by decide +kernel⟩
theorem fX8_succeeds_35 : gFld wsX8_succeeds RX8 35 8 1 := ⟨RX8, TX8, 17, rfl, by decide, by decide +kernel, by decide +kernel⟩
set_option maxHeartbeats 4000000 in
set_option maxRecDepth 100000 in
theorem c_X8_succeeds (l : Launch) (κ : gKap) (B n : Nat) (ad : Nat → Nat) (g : Nat → va_E) (ly : Int) (th : Int) (mk : Int) (tx : Int) (rl : Int) (a0 : Int) (wr : Int) (s0 : Int) (s1 : Int) (rm : Int) (f : Int → Int) (M9 : Int → Int) (grp : Int) (hn8 : 200 ≤ n) (hM : g 192 = oM ad ly th mk tx rl a0 wr s0 s1 rm) (hN : g 193 = aI κ 42 f) (hK : g 194 = aI κ 28896 M9) (hok : okPl ly f) (hgr : 0 ≤ grp ∧ grp < 100000) (hmk : 0 ≤ mk ∧ mk ≤ 820000000) (hMr : ∀ i, 0 ≤ i → i < 28896 → 0 ≤ M9 i ∧ M9 i ≤ mk) : Met l yX8_succeeds wsX8_succeeds ({ frames := 7, cells := 0, slots := 0, locals := 170 }) (gPre κ B n ad g [.ref (ad 192), .int (iz grp)]) (gQi κ B n ad (fun z g' => ∃ V m9 l9 f9, g' 192 = oM ad l9 th m9 tx rl a0 wr s0 s1 rm ∧ g' 193 = aI κ 42 f9 ∧ g' 194 = aI κ 28896 V ∧ (∀ q, q ≠ 192 → q ≠ 193 → q ≠ 194 → g' q = g q) ∧ (∀ i, 0 ≤ i → i < 28896 → 0 ≤ V i ∧ V i ≤ m9) ∧ (mk ≤ m9 ∧ m9 ≤ mk + 200) ∧ ((cmG grp ly f ∧ l9 = (cmQ grp ly f).1 ∧ sim l9 f9 (cmQ grp ly f).2 ∧ z = 1) ∨ (¬ cmG grp ly f ∧ l9 = ly ∧ f9 = f ∧ z = 0)))) 0 0 (gFree B) := by
  refine g_met RX8 (cc := cX8_succeeds) (maxL := 5) (ret := (some .boolean)) (by decide) rfl rfl (Nat.le_of_ble_eq_true rfl) ?_
  intro p e s m args below meth c C hr hlk hnm G ls hl
  have hl : lv_has ls 5 [(0, .ref (ad 192)), (1, .int (iz grp))] := hl
  obtain ⟨hn6, hv0, hv25, hlay, hsee⟩ := id hok
  obtain ⟨kd, hkd⟩ : ∃ x, x = grp / 10000 % 10 := ⟨_, rfl⟩
  obtain ⟨c2, hc2⟩ : ∃ x, x = grp / 1000 % 10 := ⟨_, rfl⟩
  obtain ⟨c3, hc3⟩ : ∃ x, x = grp / 100 % 10 := ⟨_, rfl⟩
  obtain ⟨c4, hc4⟩ : ∃ x, x = grp / 10 % 10 := ⟨_, rfl⟩
  obtain ⟨c5, hc5⟩ : ∃ x, x = grp % 10 := ⟨_, rfl⟩
  have hGi : cmG grp ly f ↔ cmOK kd c2 c3 c4 c5 ly f := by rw [hkd, hc2, hc3, hc4, hc5]; exact Iff.rfl
  have hQi : cmQ grp ly f = cmP kd c2 c3 c4 c5 ly f := by rw [hkd, hc2, hc3, hc4, hc5]; rfl
  refine g_iload_n C dX8_succeeds_0 rfl hl 1 rfl ?_
  refine g_sipush (a := 1000) C dX8_succeeds_1 (by decide) ?_
  refine g_idiv C (by omega) (by decide) (by decide) dX8_succeeds_4 ?_
  rw [show (Int.tdiv grp 1000 : Int) = grp / 1000 from (tdiv_pos (by omega))]
  refine g_bipush (a := 10) C dX8_succeeds_5 (by decide) ?_
  refine g_irem C (by omega) (by decide) (by decide) dX8_succeeds_7 ?_
  rw [show (Int.tmod (grp / 1000) 10 : Int) = (grp / 1000) % 10 from (tmod_pos (by omega))]
  rw [show ((grp / 1000) % 10 : Int) = c2 from (by omega)]
  refine lv_istore_n (lv' := [(2, .int (iz c2)), (0, .ref (ad 192)), (1, .int (iz grp))]) C.1.1 C.1.2.1 dX8_succeeds_8 rfl hl (by decide) rfl (fun ls hl => ?_)
  refine g_iload_n C dX8_succeeds_9 rfl hl 2 rfl ?_
  refine g_bipush (a := 100) C dX8_succeeds_10 (by decide) ?_
  refine g_idiv C (by omega) (by decide) (by decide) dX8_succeeds_12 ?_
  rw [show (Int.tdiv grp 100 : Int) = grp / 100 from (tdiv_pos (by omega))]
  refine g_bipush (a := 10) C dX8_succeeds_13 (by decide) ?_
  refine g_irem C (by omega) (by decide) (by decide) dX8_succeeds_15 ?_
  rw [show (Int.tmod (grp / 100) 10 : Int) = (grp / 100) % 10 from (tmod_pos (by omega))]
  rw [show ((grp / 100) % 10 : Int) = c3 from (by omega)]
  refine lv_istore_n (lv' := [(3, .int (iz c3)), (2, .int (iz c2)), (0, .ref (ad 192)), (1, .int (iz grp))]) C.1.1 C.1.2.1 dX8_succeeds_16 rfl hl (by decide) rfl (fun ls hl => ?_)
  refine g_iload_n C dX8_succeeds_17 rfl hl 3 rfl ?_
  refine g_bipush (a := 100) C dX8_succeeds_18 (by decide) ?_
  refine g_irem C (by omega) (by decide) (by decide) dX8_succeeds_20 ?_
  rw [show (Int.tmod grp 100 : Int) = grp % 100 from (tmod_pos (by omega))]
  rw [show (grp % 100 : Int) = 10 * c4 + c5 from (by omega)]
  refine lv_istore (lv' := [(4, .int (iz (10 * c4 + c5))), (3, .int (iz c3)), (2, .int (iz c2)), (0, .ref (ad 192)), (1, .int (iz grp))]) C.1.1 C.1.2.1 dX8_succeeds_21 hl (by decide) rfl (fun ls hl => ?_)
  refine g_iload_n C dX8_succeeds_23 rfl hl 4 rfl ?_
  refine g_sipush (a := 10000) C dX8_succeeds_24 (by decide) ?_
  refine g_idiv C (by omega) (by decide) (by decide) dX8_succeeds_27 ?_
  rw [show (Int.tdiv grp 10000 : Int) = grp / 10000 from (tdiv_pos (by omega))]
  rw [show (grp / 10000 : Int) = kd from (by omega)]
  by_cases e_1 : kd = 1
  · refine g_tswIn (v := 1) (off := 52) (tgt := 80) C dX8_succeeds_28 e_1 (by decide) (by decide) (by decide) (by decide) (by decide) ?_
    refine g_aload_n C dX8_succeeds_80 rfl hl 3 rfl ?_
    refine g_iload_n C dX8_succeeds_81 rfl hl 2 rfl ?_
    refine g_ci C G (g_runV (As := [.int (iz c2)]) (rest := []) (pos := 192) C G (c_X8_isLayer l κ B n ad g ly th mk tx rl a0 wr s0 s1 rm c2 hn8 hM (by omega) (by omega)) (cwV 1 C.1.2.2.2.2 gX8_succeeds_X8_isLayer rfl rfl rfl (by decide +kernel) ⟨Nat.le_of_ble_eq_true rfl, Nat.le_of_ble_eq_true rfl⟩) (by omega) hM (T := TX8) (N := 17) rfl rfl hl rfl (Nat.le_of_ble_eq_true rfl) dX8_succeeds_82 ⟨Nat.le_of_ble_eq_true rfl, Nat.le_of_ble_eq_true rfl⟩) (fun z_3 g9 H locs hw G => ?_)
    obtain ⟨hg9, hw⟩ := hw
    replace hg9 := hg9.symm
    subst hg9
    rcases hw with ⟨b_2, rfl⟩ | ⟨b_2, rfl⟩
    · refine g_if_eq (tgt := 98) C (by decide) dX8_succeeds_85 (by decide) (fun c9 => absurd c9 (by decide)) (fun _ => ?_)
      refine g_aload_n C dX8_succeeds_88 rfl hl 3 rfl ?_
      refine g_iload_n C dX8_succeeds_89 rfl hl 1 rfl ?_
      refine g_iload C dX8_succeeds_90 hl 0 rfl ?_
      refine g_ci C G (g_runV (As := [.int (iz c3), .int (iz (10 * c4 + c5))]) (rest := []) (pos := 192) C G (c_X8_can l κ B n ad g ly th mk tx rl a0 wr s0 s1 rm f c3 (10 * c4 + c5) hn8 hM hN hok (by omega) (by omega)) (cwV 2 C.1.2.2.2.2 gX8_succeeds_X8_can rfl rfl rfl (by decide +kernel) ⟨Nat.le_of_ble_eq_true rfl, Nat.le_of_ble_eq_true rfl⟩) (by omega) hM (T := TX8) (N := 17) rfl rfl hl rfl (Nat.le_of_ble_eq_true rfl) dX8_succeeds_92 ⟨Nat.le_of_ble_eq_true rfl, Nat.le_of_ble_eq_true rfl⟩) (fun z_5 g9 H locs hw G => ?_)
      obtain ⟨hg9, hw⟩ := hw
      replace hg9 := hg9.symm
      subst hg9
      rcases hw with ⟨b_4, rfl⟩ | ⟨b_4, rfl⟩
      · refine g_if_ne (tgt := 100) C (by decide) dX8_succeeds_95 (by decide) (fun _ => ?_) (fun c9 => absurd c9 (by decide))
        refine g_aload_n C dX8_succeeds_100 rfl hl 3 rfl ?_
        refine g_get C G (pos := 192) fX8_succeeds_7 (by omega) hM rfl dX8_succeeds_101 ?_
        refine g_iconst (a := 4) C dX8_succeeds_104 rfl ?_
        refine g_iload_n C dX8_succeeds_105 rfl hl 2 rfl ?_
        refine g_imul C dX8_succeeds_106 ?_
        refine g_iconst (a := 1) C dX8_succeeds_107 rfl ?_
        refine g_iadd C dX8_succeeds_108 ?_
        refine g_iload_n C dX8_succeeds_109 rfl hl 1 rfl ?_
        refine g_iadd C dX8_succeeds_110 ?_
        refine g_iload C dX8_succeeds_111 hl 0 rfl ?_
        refine g_iastore C G (pos := 193) (by omega) hN (by omega) (by omega) (by omega) dX8_succeeds_113 (fun H locs G => ?_)
        obtain ⟨g_6, hg_7⟩ : ∃ g9, g9 = va_up g 193 (aI κ 42 (vu f (((4 * c2) + 1) + c3) (10 * c4 + c5))) := ⟨_, rfl⟩
        rw [← hg_7] at G
        have hc_8 : g_6 192 = .inr (8, [.ref (ad 193), .int (iz ly), .int (iz th), .ref (ad 194), .int (iz mk), .ref (ad 195), .int (iz tx), .ref (ad 196), .int (iz rl), .int (iz a0), .int (iz wr), .int (iz s0), .int (iz s1), .ref (ad 197), .int (iz rm), .ref (ad 198), .ref (ad 199)]) := by rw [hg_7, gu_ne (by decide)]; exact hM
        have hc_9 : g_6 193 = aI κ 42 (vu f (((4 * c2) + 1) + c3) (10 * c4 + c5)) := by rw [hg_7]; exact gu_self _ _ _
        have hc_10 : g_6 194 = aI κ 28896 M9 := by rw [hg_7, gu_ne (by decide)]; exact hK
        refine g_iconst (a := 1) C dX8_succeeds_114 rfl ?_
        refine g_zret C G hr hlk (by decide) (Nat.le_of_ble_eq_true rfl) (Nat.le_of_ble_eq_true rfl) dX8_succeeds_115 ?_
        have hb9 : cmOK kd c2 c3 c4 c5 ly f := (cmOK_1 e_1).mpr ⟨by omega, b_4⟩
        have hp9 := (hQi.trans (cmP_1 e_1))
        exact ⟨_, _, _, _, hc_8, hc_9, hc_10, fun q q1 q2 q3 => ((congrFun hg_7 q).trans (gu_ne (by omega))), hMr, by omega, Or.inl ⟨hGi.mpr hb9, by rw [hp9], by rw [hp9]; exact sim.rf, rfl⟩⟩
      · refine g_if_ne (tgt := 100) C (by decide) dX8_succeeds_95 (by decide) (fun c9 => absurd c9 (by decide)) (fun _ => ?_)
        refine g_iconst (a := 0) C dX8_succeeds_98 rfl ?_
        refine g_zret C G hr hlk (by decide) (Nat.le_of_ble_eq_true rfl) (Nat.le_of_ble_eq_true rfl) dX8_succeeds_99 ?_
        have hn9 : ¬ cmOK kd c2 c3 c4 c5 ly f := fun q => by
          have q2 := (cmOK_1 e_1).mp q
          first | omega | exact b_4 q2.2
        exact ⟨_, _, _, _, hM, hN, hK, fun q q1 q2 q3 => rfl, hMr, by omega, Or.inr ⟨fun q => hn9 (hGi.mp q), rfl, rfl, rfl⟩⟩
    · refine g_if_eq (tgt := 98) C (by decide) dX8_succeeds_85 (by decide) (fun _ => ?_) (fun c9 => absurd c9 (by decide))
      refine g_iconst (a := 0) C dX8_succeeds_98 rfl ?_
      refine g_zret C G hr hlk (by decide) (Nat.le_of_ble_eq_true rfl) (Nat.le_of_ble_eq_true rfl) dX8_succeeds_99 ?_
      have hn9 : ¬ cmOK kd c2 c3 c4 c5 ly f := fun q => by
        have q2 := (cmOK_1 e_1).mp q
        first | omega | exact hok q2.2
      exact ⟨_, _, _, _, hM, hN, hK, fun q q1 q2 q3 => rfl, hMr, by omega, Or.inr ⟨fun q => hn9 (hGi.mp q), rfl, rfl, rfl⟩⟩
  by_cases e_11 : kd = 2
  · refine g_tswIn (v := 2) (off := 88) (tgt := 116) C dX8_succeeds_28 e_11 (by decide) (by decide) (by decide) (by decide) (by decide) ?_
    refine g_aload_n C dX8_succeeds_116 rfl hl 3 rfl ?_
    refine g_iload_n C dX8_succeeds_117 rfl hl 2 rfl ?_
    refine g_ci C G (g_runV (As := [.int (iz c2)]) (rest := []) (pos := 192) C G (c_X8_isLayer l κ B n ad g ly th mk tx rl a0 wr s0 s1 rm c2 hn8 hM (by omega) (by omega)) (cwV 1 C.1.2.2.2.2 gX8_succeeds_X8_isLayer rfl rfl rfl (by decide +kernel) ⟨Nat.le_of_ble_eq_true rfl, Nat.le_of_ble_eq_true rfl⟩) (by omega) hM (T := TX8) (N := 17) rfl rfl hl rfl (Nat.le_of_ble_eq_true rfl) dX8_succeeds_118 ⟨Nat.le_of_ble_eq_true rfl, Nat.le_of_ble_eq_true rfl⟩) (fun z_13 g9 H locs hw G => ?_)
    obtain ⟨hg9, hw⟩ := hw
    replace hg9 := hg9.symm
    subst hg9
    rcases hw with ⟨b_12, rfl⟩ | ⟨b_12, rfl⟩
    · refine g_if_eq (tgt := 144) C (by decide) dX8_succeeds_121 (by decide) (fun c9 => absurd c9 (by decide)) (fun _ => ?_)
      refine g_iload_n C dX8_succeeds_124 rfl hl 4 rfl ?_
      refine g_sipush (a := 1000) C dX8_succeeds_125 (by decide) ?_
      refine g_irem C (by omega) (by decide) (by decide) dX8_succeeds_128 ?_
      rw [show (Int.tmod grp 1000 : Int) = grp % 1000 from (tmod_pos (by omega))]
      refine g_if_ne (tgt := 144) C (by omega) dX8_succeeds_129 (by decide) (fun c_14 => ?_) (fun c_14 => ?_)
      · refine g_iconst (a := 0) C dX8_succeeds_144 rfl ?_
        refine g_zret C G hr hlk (by decide) (Nat.le_of_ble_eq_true rfl) (Nat.le_of_ble_eq_true rfl) dX8_succeeds_145 ?_
        have hn9 : ¬ cmOK kd c2 c3 c4 c5 ly f := fun q => by
          have q2 := (cmOK_2 e_11).mp q
          omega
        exact ⟨_, _, _, _, hM, hN, hK, fun q q1 q2 q3 => rfl, hMr, by omega, Or.inr ⟨fun q => hn9 (hGi.mp q), rfl, rfl, rfl⟩⟩
      · refine g_aload_n C dX8_succeeds_132 rfl hl 3 rfl ?_
        refine g_iload_n C dX8_succeeds_133 rfl hl 2 rfl ?_
        refine g_ci C G (g_runV (As := [.int (iz c2)]) (rest := []) (pos := 192) C G (c_X8_drop l κ B n ad g ly th mk tx rl a0 wr s0 s1 rm f c2 hn8 hM hN (by omega) (by omega)) (cwV 1 C.1.2.2.2.2 gX8_succeeds_X8_drop rfl rfl rfl (by decide +kernel) ⟨Nat.le_of_ble_eq_true rfl, Nat.le_of_ble_eq_true rfl⟩) (by omega) hM (T := TX8) (N := 17) rfl rfl hl rfl (Nat.le_of_ble_eq_true rfl) dX8_succeeds_134 ⟨Nat.le_of_ble_eq_true rfl, Nat.le_of_ble_eq_true rfl⟩) (fun z_19 g_15 H locs hw9 G => ?_)
        obtain ⟨hz_20, hc_16, hc_17, hf_18⟩ := hw9
        have hc_21 : g_15 194 = aI κ 28896 M9 := (hf_18 194 (by decide) (by decide)).trans hK
        refine g_if_lt (tgt := 144) C (by omega) dX8_succeeds_137 (by decide) (fun c_22 => absurd c_22 (by omega)) (fun c_22 => ?_)
        refine g_iconst (a := 1) C dX8_succeeds_140 rfl ?_
        refine g_goto (tgt := 145) C dX8_succeeds_141 (by decide) ?_
        refine g_zret C G hr hlk (by decide) (Nat.le_of_ble_eq_true rfl) (Nat.le_of_ble_eq_true rfl) dX8_succeeds_145 ?_
        have hb9 : cmOK kd c2 c3 c4 c5 ly f := (cmOK_2 e_11).mpr ⟨by omega, by omega, by omega⟩
        have hp9 := (hQi.trans (cmP_2 e_11))
        exact ⟨_, _, _, _, hc_16, hc_17, hc_21, fun q q1 q2 q3 => (hf_18 q (by omega) (by omega)), hMr, by omega, Or.inl ⟨hGi.mpr hb9, by rw [hp9], by rw [hp9]; exact dp_sim (by omega) (by omega), rfl⟩⟩
    · refine g_if_eq (tgt := 144) C (by decide) dX8_succeeds_121 (by decide) (fun _ => ?_) (fun c9 => absurd c9 (by decide))
      refine g_iconst (a := 0) C dX8_succeeds_144 rfl ?_
      refine g_zret C G hr hlk (by decide) (Nat.le_of_ble_eq_true rfl) (Nat.le_of_ble_eq_true rfl) dX8_succeeds_145 ?_
      have hn9 : ¬ cmOK kd c2 c3 c4 c5 ly f := fun q => by
        have q2 := (cmOK_2 e_11).mp q
        omega
      exact ⟨_, _, _, _, hM, hN, hK, fun q q1 q2 q3 => rfl, hMr, by omega, Or.inr ⟨fun q => hn9 (hGi.mp q), rfl, rfl, rfl⟩⟩
  by_cases e_23 : kd = 3
  · refine g_tswIn (v := 3) (off := 118) (tgt := 146) C dX8_succeeds_28 e_23 (by decide) (by decide) (by decide) (by decide) (by decide) ?_
    refine g_iload_n C dX8_succeeds_146 rfl hl 2 rfl ?_
    refine g_if_ne (tgt := 175) C (by omega) dX8_succeeds_147 (by decide) (fun c_24 => ?_) (fun c_24 => ?_)
    · refine g_iconst (a := 0) C dX8_succeeds_175 rfl ?_
      refine g_zret C G hr hlk (by decide) (Nat.le_of_ble_eq_true rfl) (Nat.le_of_ble_eq_true rfl) dX8_succeeds_176 ?_
      have hn9 : ¬ cmOK kd c2 c3 c4 c5 ly f := fun q => by
        have q2 := (cmOK_3 e_23).mp q
        omega
      exact ⟨_, _, _, _, hM, hN, hK, fun q q1 q2 q3 => rfl, hMr, by omega, Or.inr ⟨fun q => hn9 (hGi.mp q), rfl, rfl, rfl⟩⟩
    · refine g_iload_n C dX8_succeeds_150 rfl hl 1 rfl ?_
      refine g_if_ne (tgt := 175) C (by omega) dX8_succeeds_151 (by decide) (fun c_25 => ?_) (fun c_25 => ?_)
      · refine g_iconst (a := 0) C dX8_succeeds_175 rfl ?_
        refine g_zret C G hr hlk (by decide) (Nat.le_of_ble_eq_true rfl) (Nat.le_of_ble_eq_true rfl) dX8_succeeds_176 ?_
        have hn9 : ¬ cmOK kd c2 c3 c4 c5 ly f := fun q => by
          have q2 := (cmOK_3 e_23).mp q
          omega
        exact ⟨_, _, _, _, hM, hN, hK, fun q q1 q2 q3 => rfl, hMr, by omega, Or.inr ⟨fun q => hn9 (hGi.mp q), rfl, rfl, rfl⟩⟩
      · refine g_iload C dX8_succeeds_154 hl 0 rfl ?_
        refine g_ci C G (g_runS (As := [.int (iz (10 * c4 + c5))]) (rest := []) C G (c_X8_isTeeth l κ B n ad g (10 * c4 + c5) (by omega)) (va_cwS 1 C.1.2.2.2.2 gX8_succeeds_X8_isTeeth rfl rfl rfl (by decide +kernel) ⟨Nat.le_of_ble_eq_true rfl, Nat.le_of_ble_eq_true rfl⟩) rfl hl rfl (Nat.le_of_ble_eq_true rfl) dX8_succeeds_156 ⟨Nat.le_of_ble_eq_true rfl, Nat.le_of_ble_eq_true rfl⟩) (fun z_27 g9 H locs hw G => ?_)
        obtain ⟨hg9, hw⟩ := hw
        replace hg9 := hg9.symm
        subst hg9
        rcases hw with ⟨b_26, rfl⟩ | ⟨b_26, rfl⟩
        · refine g_if_eq (tgt := 175) C (by decide) dX8_succeeds_159 (by decide) (fun c9 => absurd c9 (by decide)) (fun _ => ?_)
          refine g_aload_n C dX8_succeeds_162 rfl hl 3 rfl ?_
          refine g_iload C dX8_succeeds_163 hl 0 rfl ?_
          refine g_ci C G (g_runV (As := [.int (iz (10 * c4 + c5))]) (rest := []) (pos := 192) C G (c_X8_takeRing l κ B n ad g ly th mk tx rl a0 wr s0 s1 rm f (10 * c4 + c5) hn8 hM hN hok (by omega)) (cwV 1 C.1.2.2.2.2 gX8_succeeds_X8_takeRing rfl rfl rfl (by decide +kernel) ⟨Nat.le_of_ble_eq_true rfl, Nat.le_of_ble_eq_true rfl⟩) (by omega) hM (T := TX8) (N := 17) rfl rfl hl rfl (Nat.le_of_ble_eq_true rfl) dX8_succeeds_165 ⟨Nat.le_of_ble_eq_true rfl, Nat.le_of_ble_eq_true rfl⟩) (fun z_28 g9 H locs hw G => ?_)
          obtain ⟨hz_29, hw⟩ := hw
          subst hw
          obtain ⟨g_30, hg_31⟩ : ∃ g9, g9 = va_up g 193 (aI κ 42 (tk2 ly f (10 * c4 + c5) (f 25))) := ⟨_, rfl⟩
          rw [← hg_31] at G
          have hc_32 : g_30 192 = .inr (8, [.ref (ad 193), .int (iz ly), .int (iz th), .ref (ad 194), .int (iz mk), .ref (ad 195), .int (iz tx), .ref (ad 196), .int (iz rl), .int (iz a0), .int (iz wr), .int (iz s0), .int (iz s1), .ref (ad 197), .int (iz rm), .ref (ad 198), .ref (ad 199)]) := by rw [hg_31, gu_ne (by decide)]; exact hM
          have hc_33 : g_30 193 = aI κ 42 (tk2 ly f (10 * c4 + c5) (f 25)) := by rw [hg_31]; exact gu_self _ _ _
          have hc_34 : g_30 194 = aI κ 28896 M9 := by rw [hg_31, gu_ne (by decide)]; exact hK
          refine g_if_le (tgt := 175) C (by omega) dX8_succeeds_168 (by decide) (fun c_35 => absurd c_35 (by omega)) (fun c_35 => ?_)
          refine g_iconst (a := 1) C dX8_succeeds_171 rfl ?_
          refine g_goto (tgt := 176) C dX8_succeeds_172 (by decide) ?_
          refine g_zret C G hr hlk (by decide) (Nat.le_of_ble_eq_true rfl) (Nat.le_of_ble_eq_true rfl) dX8_succeeds_176 ?_
          have hb9 : cmOK kd c2 c3 c4 c5 ly f := (cmOK_3 e_23).mpr ⟨by omega, by omega, by omega, by omega⟩
          have hp9 := (hQi.trans (cmP_3 e_23))
          exact ⟨_, _, _, _, hc_32, hc_33, hc_34, fun q q1 q2 q3 => ((congrFun hg_31 q).trans (gu_ne (by omega))), hMr, by omega, Or.inl ⟨hGi.mpr hb9, by rw [hp9], by rw [hp9]; exact tk2_sim (by omega) (by omega), rfl⟩⟩
        · refine g_if_eq (tgt := 175) C (by decide) dX8_succeeds_159 (by decide) (fun _ => ?_) (fun c9 => absurd c9 (by decide))
          refine g_iconst (a := 0) C dX8_succeeds_175 rfl ?_
          refine g_zret C G hr hlk (by decide) (Nat.le_of_ble_eq_true rfl) (Nat.le_of_ble_eq_true rfl) dX8_succeeds_176 ?_
          have hn9 : ¬ cmOK kd c2 c3 c4 c5 ly f := fun q => by
            have q2 := (cmOK_3 e_23).mp q
            omega
          exact ⟨_, _, _, _, hM, hN, hK, fun q q1 q2 q3 => rfl, hMr, by omega, Or.inr ⟨fun q => hn9 (hGi.mp q), rfl, rfl, rfl⟩⟩
  by_cases e_36 : kd = 4
  · refine g_tswIn (v := 4) (off := 149) (tgt := 177) C dX8_succeeds_28 e_36 (by decide) (by decide) (by decide) (by decide) (by decide) ?_
    refine g_aload_n C dX8_succeeds_177 rfl hl 3 rfl ?_
    refine g_iload_n C dX8_succeeds_178 rfl hl 4 rfl ?_
    refine g_bipush (a := 10) C dX8_succeeds_179 (by decide) ?_
    refine g_idiv C (by omega) (by decide) (by decide) dX8_succeeds_181 ?_
    rw [show (Int.tdiv grp 10 : Int) = grp / 10 from (tdiv_pos (by omega))]
    refine g_bipush (a := 100) C dX8_succeeds_182 (by decide) ?_
    refine g_irem C (by omega) (by decide) (by decide) dX8_succeeds_184 ?_
    rw [show (Int.tmod (grp / 10) 100 : Int) = (grp / 10) % 100 from (tmod_pos (by omega))]
    rw [show ((grp / 10) % 100 : Int) = 10 * c3 + c4 from (by omega)]
    refine g_iload_n C dX8_succeeds_185 rfl hl 2 rfl ?_
    refine g_iload_n C dX8_succeeds_186 rfl hl 4 rfl ?_
    refine g_bipush (a := 10) C dX8_succeeds_187 (by decide) ?_
    refine g_irem C (by omega) (by decide) (by decide) dX8_succeeds_189 ?_
    rw [show (Int.tmod grp 10 : Int) = grp % 10 from (tmod_pos (by omega))]
    rw [show (grp % 10 : Int) = c5 from (by omega)]
    refine g_iconst (a := 0) C dX8_succeeds_190 rfl ?_
    refine g_ci C G (g_runV (As := [.int (iz (10 * c3 + c4)), .int (iz c2), .int (iz c5), .int (iz 0)]) (rest := []) (pos := 192) C G (c_X8_canBe l κ B n ad g ly th mk tx rl a0 wr s0 s1 rm f (10 * c3 + c4) c2 c5 0 hn8 hM hN hok (by omega) (by omega) (by omega) (by omega)) (cwV 4 C.1.2.2.2.2 gX8_succeeds_X8_canBe rfl rfl rfl (by decide +kernel) ⟨Nat.le_of_ble_eq_true rfl, Nat.le_of_ble_eq_true rfl⟩) (by omega) hM (T := TX8) (N := 17) rfl rfl hl rfl (Nat.le_of_ble_eq_true rfl) dX8_succeeds_191 ⟨Nat.le_of_ble_eq_true rfl, Nat.le_of_ble_eq_true rfl⟩) (fun z_38 g9 H locs hw G => ?_)
    obtain ⟨hg9, hw⟩ := hw
    replace hg9 := hg9.symm
    subst hg9
    rcases hw with ⟨b_37, rfl⟩ | ⟨b_37, rfl⟩
    · refine g_if_eq (tgt := 230) C (by decide) dX8_succeeds_194 (by decide) (fun c9 => absurd c9 (by decide)) (fun _ => ?_)
      refine g_aload_n C dX8_succeeds_197 rfl hl 3 rfl ?_
      refine g_get C G (pos := 192) fX8_succeeds_35 (by omega) hM rfl dX8_succeeds_198 ?_
      refine g_bipush (a := 6) C dX8_succeeds_201 (by decide) ?_
      refine g_icmp_ge (tgt := 230) C (by omega) (by decide) dX8_succeeds_203 (by decide) (fun c_39 => ?_) (fun c_39 => ?_)
      · refine g_iconst (a := 0) C dX8_succeeds_230 rfl ?_
        refine g_zret C G hr hlk (by decide) (Nat.le_of_ble_eq_true rfl) (Nat.le_of_ble_eq_true rfl) dX8_succeeds_231 ?_
        have hn9 : ¬ cmOK kd c2 c3 c4 c5 ly f := fun q => by
          have q2 := (cmOK_4 e_36).mp q
          omega
        exact ⟨_, _, _, _, hM, hN, hK, fun q q1 q2 q3 => rfl, hMr, by omega, Or.inr ⟨fun q => hn9 (hGi.mp q), rfl, rfl, rfl⟩⟩
      · refine g_aload_n C dX8_succeeds_206 rfl hl 3 rfl ?_
        refine g_iload_n C dX8_succeeds_207 rfl hl 4 rfl ?_
        refine g_bipush (a := 10) C dX8_succeeds_208 (by decide) ?_
        refine g_idiv C (by omega) (by decide) (by decide) dX8_succeeds_210 ?_
        rw [show (Int.tdiv grp 10 : Int) = grp / 10 from (tdiv_pos (by omega))]
        refine g_bipush (a := 100) C dX8_succeeds_211 (by decide) ?_
        refine g_irem C (by omega) (by decide) (by decide) dX8_succeeds_213 ?_
        rw [show (Int.tmod (grp / 10) 100 : Int) = (grp / 10) % 100 from (tmod_pos (by omega))]
        rw [show ((grp / 10) % 100 : Int) = 10 * c3 + c4 from (by omega)]
        refine g_iload_n C dX8_succeeds_214 rfl hl 2 rfl ?_
        refine g_iload_n C dX8_succeeds_215 rfl hl 4 rfl ?_
        refine g_bipush (a := 10) C dX8_succeeds_216 (by decide) ?_
        refine g_irem C (by omega) (by decide) (by decide) dX8_succeeds_218 ?_
        rw [show (Int.tmod grp 10 : Int) = grp % 10 from (tmod_pos (by omega))]
        rw [show (grp % 10 : Int) = c5 from (by omega)]
        refine g_iconst (a := 0) C dX8_succeeds_219 rfl ?_
        refine g_ci C G (g_runV (As := [.int (iz (10 * c3 + c4)), .int (iz c2), .int (iz c5), .int (iz 0)]) (rest := []) (pos := 192) C G (c_X8_lay l κ B n ad g ly th mk tx rl a0 wr s0 s1 rm f (10 * c3 + c4) c2 c5 0 hn8 hM hN (by omega)) (cwV 4 C.1.2.2.2.2 gX8_succeeds_X8_lay rfl rfl rfl (by decide +kernel) ⟨Nat.le_of_ble_eq_true rfl, Nat.le_of_ble_eq_true rfl⟩) (by omega) hM (T := TX8) (N := 17) rfl rfl hl rfl (Nat.le_of_ble_eq_true rfl) dX8_succeeds_220 ⟨Nat.le_of_ble_eq_true rfl, Nat.le_of_ble_eq_true rfl⟩) (fun z_44 g_40 H locs hw9 G => ?_)
        obtain ⟨hz_45, hc_41, hc_42, hf_43⟩ := hw9
        have hc_46 : g_40 194 = aI κ 28896 M9 := (hf_43 194 (by decide) (by decide)).trans hK
        refine g_if_lt (tgt := 230) C (by omega) dX8_succeeds_223 (by decide) (fun c_47 => absurd c_47 (by omega)) (fun c_47 => ?_)
        refine g_iconst (a := 1) C dX8_succeeds_226 rfl ?_
        refine g_goto (tgt := 231) C dX8_succeeds_227 (by decide) ?_
        refine g_zret C G hr hlk (by decide) (Nat.le_of_ble_eq_true rfl) (Nat.le_of_ble_eq_true rfl) dX8_succeeds_231 ?_
        have hb9 : cmOK kd c2 c3 c4 c5 ly f := (cmOK_4 e_36).mpr ⟨by omega, by omega, by omega, by omega⟩
        have hp9 := (hQi.trans (cmP_4 e_36))
        exact ⟨_, _, _, _, hc_41, hc_42, hc_46, fun q q1 q2 q3 => (hf_43 q (by omega) (by omega)), hMr, by omega, Or.inl ⟨hGi.mpr hb9, by rw [hp9], by rw [hp9]; exact sim.rf, rfl⟩⟩
    · refine g_if_eq (tgt := 230) C (by decide) dX8_succeeds_194 (by decide) (fun _ => ?_) (fun c9 => absurd c9 (by decide))
      refine g_iconst (a := 0) C dX8_succeeds_230 rfl ?_
      refine g_zret C G hr hlk (by decide) (Nat.le_of_ble_eq_true rfl) (Nat.le_of_ble_eq_true rfl) dX8_succeeds_231 ?_
      have hn9 : ¬ cmOK kd c2 c3 c4 c5 ly f := fun q => by
        have q2 := (cmOK_4 e_36).mp q
        omega
      exact ⟨_, _, _, _, hM, hN, hK, fun q q1 q2 q3 => rfl, hMr, by omega, Or.inr ⟨fun q => hn9 (hGi.mp q), rfl, rfl, rfl⟩⟩
  by_cases e_48 : kd = 5
  · refine g_tswIn (v := 5) (off := 204) (tgt := 232) C dX8_succeeds_28 e_48 (by decide) (by decide) (by decide) (by decide) (by decide) ?_
    refine g_aload_n C dX8_succeeds_232 rfl hl 3 rfl ?_
    refine g_iload_n C dX8_succeeds_233 rfl hl 2 rfl ?_
    refine g_ci C G (g_runV (As := [.int (iz c2)]) (rest := []) (pos := 192) C G (c_X8_isLayer l κ B n ad g ly th mk tx rl a0 wr s0 s1 rm c2 hn8 hM (by omega) (by omega)) (cwV 1 C.1.2.2.2.2 gX8_succeeds_X8_isLayer rfl rfl rfl (by decide +kernel) ⟨Nat.le_of_ble_eq_true rfl, Nat.le_of_ble_eq_true rfl⟩) (by omega) hM (T := TX8) (N := 17) rfl rfl hl rfl (Nat.le_of_ble_eq_true rfl) dX8_succeeds_234 ⟨Nat.le_of_ble_eq_true rfl, Nat.le_of_ble_eq_true rfl⟩) (fun z_50 g9 H locs hw G => ?_)
    obtain ⟨hg9, hw⟩ := hw
    replace hg9 := hg9.symm
    subst hg9
    rcases hw with ⟨b_49, rfl⟩ | ⟨b_49, rfl⟩
    · refine g_if_eq (tgt := 263) C (by decide) dX8_succeeds_237 (by decide) (fun c9 => absurd c9 (by decide)) (fun _ => ?_)
      refine g_aload_n C dX8_succeeds_240 rfl hl 3 rfl ?_
      refine g_iload_n C dX8_succeeds_241 rfl hl 1 rfl ?_
      refine g_ci C G (g_runV (As := [.int (iz c3)]) (rest := []) (pos := 192) C G (c_X8_isLayer l κ B n ad g ly th mk tx rl a0 wr s0 s1 rm c3 hn8 hM (by omega) (by omega)) (cwV 1 C.1.2.2.2.2 gX8_succeeds_X8_isLayer rfl rfl rfl (by decide +kernel) ⟨Nat.le_of_ble_eq_true rfl, Nat.le_of_ble_eq_true rfl⟩) (by omega) hM (T := TX8) (N := 17) rfl rfl hl rfl (Nat.le_of_ble_eq_true rfl) dX8_succeeds_242 ⟨Nat.le_of_ble_eq_true rfl, Nat.le_of_ble_eq_true rfl⟩) (fun z_52 g9 H locs hw G => ?_)
      obtain ⟨hg9, hw⟩ := hw
      replace hg9 := hg9.symm
      subst hg9
      rcases hw with ⟨b_51, rfl⟩ | ⟨b_51, rfl⟩
      · refine g_if_eq (tgt := 263) C (by decide) dX8_succeeds_245 (by decide) (fun c9 => absurd c9 (by decide)) (fun _ => ?_)
        refine g_aload_n C dX8_succeeds_248 rfl hl 3 rfl ?_
        refine g_iload_n C dX8_succeeds_249 rfl hl 2 rfl ?_
        refine g_iload_n C dX8_succeeds_250 rfl hl 1 rfl ?_
        refine g_ci C G (g_runV (As := [.int (iz c2), .int (iz c3)]) (rest := []) (pos := 192) C G (c_X8_inBoth l κ B n ad g ly th mk tx rl a0 wr s0 s1 rm f M9 c2 c3 hn8 hM hN hK hok (by omega) (by omega) (by omega) hMr) (cwV 2 C.1.2.2.2.2 gX8_succeeds_X8_inBoth rfl rfl rfl (by decide +kernel) ⟨Nat.le_of_ble_eq_true rfl, Nat.le_of_ble_eq_true rfl⟩) (by omega) hM (T := TX8) (N := 17) rfl rfl hl rfl (Nat.le_of_ble_eq_true rfl) dX8_succeeds_251 ⟨Nat.le_of_ble_eq_true rfl, Nat.le_of_ble_eq_true rfl⟩) (fun z_55 g_58 H locs hw9 G => ?_)
        obtain ⟨V_53, hgs_57, hS_54, h_56⟩ := hw9
        have hc_59 : g_58 192 = .inr (8, [.ref (ad 193), .int (iz ly), .int (iz th), .ref (ad 194), .int (iz (mk + 1 + 1)), .ref (ad 195), .int (iz tx), .ref (ad 196), .int (iz rl), .int (iz a0), .int (iz wr), .int (iz s0), .int (iz s1), .ref (ad 197), .int (iz rm), .ref (ad 198), .ref (ad 199)]) := by rw [hgs_57, gu_ne (by decide)]; exact gu_self _ _ _
        have hc_60 : g_58 193 = aI κ 42 f := by rw [hgs_57, gu_ne (by decide), gu_ne (by decide)]; exact hN
        have hc_61 : g_58 194 = aI κ 28896 V_53 := by rw [hgs_57]; exact gu_self _ _ _
        refine g_iload C dX8_succeeds_254 hl 0 rfl ?_
        refine g_icmp_lt (tgt := 263) C (by omega) (by omega) dX8_succeeds_256 (by decide) (fun c_62 => ?_) (fun c_62 => ?_)
        · refine g_iconst (a := 0) C dX8_succeeds_263 rfl ?_
          refine g_zret C G hr hlk (by decide) (Nat.le_of_ble_eq_true rfl) (Nat.le_of_ble_eq_true rfl) dX8_succeeds_264 ?_
          have hn9 : ¬ cmOK kd c2 c3 c4 c5 ly f := fun q => by
            have q2 := (cmOK_5 e_48).mp q
            first | omega | (have e9 := h_56.1; have q3 := q2.2.2; omega)
          exact ⟨_, _, _, _, hc_59, hc_60, hc_61, fun q q1 q2 q3 => ((congrFun hgs_57 q).trans ((gu_ne (by omega)).trans (gu_ne (by omega)))), hS_54.1, by omega, Or.inr ⟨fun q => hn9 (hGi.mp q), rfl, rfl, rfl⟩⟩
        · refine g_iconst (a := 1) C dX8_succeeds_259 rfl ?_
          refine g_goto (tgt := 264) C dX8_succeeds_260 (by decide) ?_
          refine g_zret C G hr hlk (by decide) (Nat.le_of_ble_eq_true rfl) (Nat.le_of_ble_eq_true rfl) dX8_succeeds_264 ?_
          have hb9 : cmOK kd c2 c3 c4 c5 ly f := (cmOK_5 e_48).mpr ⟨by omega, by omega, by rw [← h_56.1]; omega⟩
          have hp9 := (hQi.trans (cmP_5 (by omega)))
          exact ⟨_, _, _, _, hc_59, hc_60, hc_61, fun q q1 q2 q3 => ((congrFun hgs_57 q).trans ((gu_ne (by omega)).trans (gu_ne (by omega)))), hS_54.1, by omega, Or.inl ⟨hGi.mpr hb9, by rw [hp9], by rw [hp9]; exact sim.rf, rfl⟩⟩
      · refine g_if_eq (tgt := 263) C (by decide) dX8_succeeds_245 (by decide) (fun _ => ?_) (fun c9 => absurd c9 (by decide))
        refine g_iconst (a := 0) C dX8_succeeds_263 rfl ?_
        refine g_zret C G hr hlk (by decide) (Nat.le_of_ble_eq_true rfl) (Nat.le_of_ble_eq_true rfl) dX8_succeeds_264 ?_
        have hn9 : ¬ cmOK kd c2 c3 c4 c5 ly f := fun q => by
          have q2 := (cmOK_5 e_48).mp q
          first | omega | (have e9 := None.1; have q3 := q2.2.2; omega)
        exact ⟨_, _, _, _, hM, hN, hK, fun q q1 q2 q3 => rfl, hMr, by omega, Or.inr ⟨fun q => hn9 (hGi.mp q), rfl, rfl, rfl⟩⟩
    · refine g_if_eq (tgt := 263) C (by decide) dX8_succeeds_237 (by decide) (fun _ => ?_) (fun c9 => absurd c9 (by decide))
      refine g_iconst (a := 0) C dX8_succeeds_263 rfl ?_
      refine g_zret C G hr hlk (by decide) (Nat.le_of_ble_eq_true rfl) (Nat.le_of_ble_eq_true rfl) dX8_succeeds_264 ?_
      have hn9 : ¬ cmOK kd c2 c3 c4 c5 ly f := fun q => by
        have q2 := (cmOK_5 e_48).mp q
        first | omega | (have e9 := None.1; have q3 := q2.2.2; omega)
      exact ⟨_, _, _, _, hM, hN, hK, fun q q1 q2 q3 => rfl, hMr, by omega, Or.inr ⟨fun q => hn9 (hGi.mp q), rfl, rfl, rfl⟩⟩
  by_cases e_63 : kd = 6
  · refine g_tswIn (v := 6) (off := 237) (tgt := 265) C dX8_succeeds_28 e_63 (by decide) (by decide) (by decide) (by decide) (by decide) ?_
    refine g_aload_n C dX8_succeeds_265 rfl hl 3 rfl ?_
    refine g_iload_n C dX8_succeeds_266 rfl hl 2 rfl ?_
    refine g_ci C G (g_runV (As := [.int (iz c2)]) (rest := []) (pos := 192) C G (c_X8_isLayer l κ B n ad g ly th mk tx rl a0 wr s0 s1 rm c2 hn8 hM (by omega) (by omega)) (cwV 1 C.1.2.2.2.2 gX8_succeeds_X8_isLayer rfl rfl rfl (by decide +kernel) ⟨Nat.le_of_ble_eq_true rfl, Nat.le_of_ble_eq_true rfl⟩) (by omega) hM (T := TX8) (N := 17) rfl rfl hl rfl (Nat.le_of_ble_eq_true rfl) dX8_succeeds_267 ⟨Nat.le_of_ble_eq_true rfl, Nat.le_of_ble_eq_true rfl⟩) (fun z_65 g9 H locs hw G => ?_)
    obtain ⟨hg9, hw⟩ := hw
    replace hg9 := hg9.symm
    subst hg9
    rcases hw with ⟨b_64, rfl⟩ | ⟨b_64, rfl⟩
    · refine g_if_eq (tgt := 291) C (by decide) dX8_succeeds_270 (by decide) (fun c9 => absurd c9 (by decide)) (fun _ => ?_)
      refine g_iload_n C dX8_succeeds_273 rfl hl 1 rfl ?_
      refine g_if_ne (tgt := 291) C (by omega) dX8_succeeds_274 (by decide) (fun c_66 => ?_) (fun c_66 => ?_)
      · refine g_iconst (a := 0) C dX8_succeeds_291 rfl ?_
        refine g_zret C G hr hlk (by decide) (Nat.le_of_ble_eq_true rfl) (Nat.le_of_ble_eq_true rfl) dX8_succeeds_292 ?_
        have hn9 : ¬ cmOK kd c2 c3 c4 c5 ly f := fun q => by
          have q2 := (cmOK_6 e_63).mp q
          first | omega | (have e9 := None.1; have q3 := q2.2.2; omega)
        exact ⟨_, _, _, _, hM, hN, hK, fun q q1 q2 q3 => rfl, hMr, by omega, Or.inr ⟨fun q => hn9 (hGi.mp q), rfl, rfl, rfl⟩⟩
      · refine g_aload_n C dX8_succeeds_277 rfl hl 3 rfl ?_
        refine g_iload_n C dX8_succeeds_278 rfl hl 2 rfl ?_
        refine g_ci C G (g_runV (As := [.int (iz c2)]) (rest := []) (pos := 192) C G (c_X8_turns l κ B n ad g ly th mk tx rl a0 wr s0 s1 rm f c2 hn8 hM hN hok (by omega)) (cwV 1 C.1.2.2.2.2 gX8_succeeds_X8_turns rfl rfl rfl (by decide +kernel) ⟨Nat.le_of_ble_eq_true rfl, Nat.le_of_ble_eq_true rfl⟩) (by omega) hM (T := TX8) (N := 17) rfl rfl hl rfl (Nat.le_of_ble_eq_true rfl) dX8_succeeds_279 ⟨Nat.le_of_ble_eq_true rfl, Nat.le_of_ble_eq_true rfl⟩) (fun z_67 g9 H locs hw G => ?_)
        obtain ⟨hg9, h_68⟩ := hw
        replace hg9 := hg9.symm
        subst hg9
        refine g_iload C dX8_succeeds_282 hl 0 rfl ?_
        refine g_icmp_ne (tgt := 291) C (by omega) (by omega) dX8_succeeds_284 (by decide) (fun c_69 => ?_) (fun c_69 => ?_)
        · refine g_iconst (a := 0) C dX8_succeeds_291 rfl ?_
          refine g_zret C G hr hlk (by decide) (Nat.le_of_ble_eq_true rfl) (Nat.le_of_ble_eq_true rfl) dX8_succeeds_292 ?_
          have hn9 : ¬ cmOK kd c2 c3 c4 c5 ly f := fun q => by
            have q2 := (cmOK_6 e_63).mp q
            first | omega | (have e9 := h_68.1; have q3 := q2.2.2; omega)
          exact ⟨_, _, _, _, hM, hN, hK, fun q q1 q2 q3 => rfl, hMr, by omega, Or.inr ⟨fun q => hn9 (hGi.mp q), rfl, rfl, rfl⟩⟩
        · refine g_iconst (a := 1) C dX8_succeeds_287 rfl ?_
          refine g_goto (tgt := 292) C dX8_succeeds_288 (by decide) ?_
          refine g_zret C G hr hlk (by decide) (Nat.le_of_ble_eq_true rfl) (Nat.le_of_ble_eq_true rfl) dX8_succeeds_292 ?_
          have hb9 : cmOK kd c2 c3 c4 c5 ly f := (cmOK_6 e_63).mpr ⟨by omega, by omega, by rw [← h_68.1]; omega⟩
          have hp9 := (hQi.trans (cmP_5 (by omega)))
          exact ⟨_, _, _, _, hM, hN, hK, fun q q1 q2 q3 => rfl, hMr, by omega, Or.inl ⟨hGi.mpr hb9, by rw [hp9], by rw [hp9]; exact sim.rf, rfl⟩⟩
    · refine g_if_eq (tgt := 291) C (by decide) dX8_succeeds_270 (by decide) (fun _ => ?_) (fun c9 => absurd c9 (by decide))
      refine g_iconst (a := 0) C dX8_succeeds_291 rfl ?_
      refine g_zret C G hr hlk (by decide) (Nat.le_of_ble_eq_true rfl) (Nat.le_of_ble_eq_true rfl) dX8_succeeds_292 ?_
      have hn9 : ¬ cmOK kd c2 c3 c4 c5 ly f := fun q => by
        have q2 := (cmOK_6 e_63).mp q
        first | omega | (have e9 := None.1; have q3 := q2.2.2; omega)
      exact ⟨_, _, _, _, hM, hN, hK, fun q q1 q2 q3 => rfl, hMr, by omega, Or.inr ⟨fun q => hn9 (hGi.mp q), rfl, rfl, rfl⟩⟩
  by_cases e_70 : kd = 7
  · refine g_tswIn (v := 7) (off := 265) (tgt := 293) C dX8_succeeds_28 e_70 (by decide) (by decide) (by decide) (by decide) (by decide) ?_
    refine g_aload_n C dX8_succeeds_293 rfl hl 3 rfl ?_
    refine g_iload_n C dX8_succeeds_294 rfl hl 2 rfl ?_
    refine g_ci C G (g_runV (As := [.int (iz c2)]) (rest := []) (pos := 192) C G (c_X8_isLayer l κ B n ad g ly th mk tx rl a0 wr s0 s1 rm c2 hn8 hM (by omega) (by omega)) (cwV 1 C.1.2.2.2.2 gX8_succeeds_X8_isLayer rfl rfl rfl (by decide +kernel) ⟨Nat.le_of_ble_eq_true rfl, Nat.le_of_ble_eq_true rfl⟩) (by omega) hM (T := TX8) (N := 17) rfl rfl hl rfl (Nat.le_of_ble_eq_true rfl) dX8_succeeds_295 ⟨Nat.le_of_ble_eq_true rfl, Nat.le_of_ble_eq_true rfl⟩) (fun z_72 g9 H locs hw G => ?_)
    obtain ⟨hg9, hw⟩ := hw
    replace hg9 := hg9.symm
    subst hg9
    rcases hw with ⟨b_71, rfl⟩ | ⟨b_71, rfl⟩
    · refine g_if_eq (tgt := 324) C (by decide) dX8_succeeds_298 (by decide) (fun c9 => absurd c9 (by decide)) (fun _ => ?_)
      refine g_aload_n C dX8_succeeds_301 rfl hl 3 rfl ?_
      refine g_iload_n C dX8_succeeds_302 rfl hl 1 rfl ?_
      refine g_ci C G (g_runV (As := [.int (iz c3)]) (rest := []) (pos := 192) C G (c_X8_isLayer l κ B n ad g ly th mk tx rl a0 wr s0 s1 rm c3 hn8 hM (by omega) (by omega)) (cwV 1 C.1.2.2.2.2 gX8_succeeds_X8_isLayer rfl rfl rfl (by decide +kernel) ⟨Nat.le_of_ble_eq_true rfl, Nat.le_of_ble_eq_true rfl⟩) (by omega) hM (T := TX8) (N := 17) rfl rfl hl rfl (Nat.le_of_ble_eq_true rfl) dX8_succeeds_303 ⟨Nat.le_of_ble_eq_true rfl, Nat.le_of_ble_eq_true rfl⟩) (fun z_74 g9 H locs hw G => ?_)
      obtain ⟨hg9, hw⟩ := hw
      replace hg9 := hg9.symm
      subst hg9
      rcases hw with ⟨b_73, rfl⟩ | ⟨b_73, rfl⟩
      · refine g_if_eq (tgt := 324) C (by decide) dX8_succeeds_306 (by decide) (fun c9 => absurd c9 (by decide)) (fun _ => ?_)
        refine g_aload_n C dX8_succeeds_309 rfl hl 3 rfl ?_
        refine g_iload_n C dX8_succeeds_310 rfl hl 2 rfl ?_
        refine g_iload_n C dX8_succeeds_311 rfl hl 1 rfl ?_
        refine g_ci C G (g_runV (As := [.int (iz c2), .int (iz c3)]) (rest := []) (pos := 192) C G (c_X8_turnedBy l κ B n ad g ly th mk tx rl a0 wr s0 s1 rm f M9 c2 c3 hn8 hM hN hK hok (by omega) (by omega) (by omega) hMr) (cwV 2 C.1.2.2.2.2 gX8_succeeds_X8_turnedBy rfl rfl rfl (by decide +kernel) ⟨Nat.le_of_ble_eq_true rfl, Nat.le_of_ble_eq_true rfl⟩) (by omega) hM (T := TX8) (N := 17) rfl rfl hl rfl (Nat.le_of_ble_eq_true rfl) dX8_succeeds_312 ⟨Nat.le_of_ble_eq_true rfl, Nat.le_of_ble_eq_true rfl⟩) (fun z_78 g_77 H locs hw9 G => ?_)
        obtain ⟨V_75, m_76, hc_79, hc_80, hc_81, hf_82, hVr_83, hmb_84, hz_85, hzr_86⟩ := hw9
        refine g_iload C dX8_succeeds_315 hl 0 rfl ?_
        refine g_icmp_ne (tgt := 324) C (by omega) (by omega) dX8_succeeds_317 (by decide) (fun c_87 => ?_) (fun c_87 => ?_)
        · refine g_iconst (a := 0) C dX8_succeeds_324 rfl ?_
          refine g_zret C G hr hlk (by decide) (Nat.le_of_ble_eq_true rfl) (Nat.le_of_ble_eq_true rfl) dX8_succeeds_325 ?_
          have hn9 : ¬ cmOK kd c2 c3 c4 c5 ly f := fun q => by
            have q2 := (cmOK_7 e_70).mp q
            first | omega | exact absurd (hz_85.uniq q2.2.2) (by omega)
          exact ⟨_, _, _, _, hc_79, hc_80, hc_81, fun q q1 q2 q3 => (hf_82 q (by omega) (by omega) (by omega)), hVr_83, by omega, Or.inr ⟨fun q => hn9 (hGi.mp q), rfl, rfl, rfl⟩⟩
        · refine g_iconst (a := 1) C dX8_succeeds_320 rfl ?_
          refine g_goto (tgt := 325) C dX8_succeeds_321 (by decide) ?_
          refine g_zret C G hr hlk (by decide) (Nat.le_of_ble_eq_true rfl) (Nat.le_of_ble_eq_true rfl) dX8_succeeds_325 ?_
          have hb9 : cmOK kd c2 c3 c4 c5 ly f := (cmOK_7 e_70).mpr ⟨by omega, by omega, (show (z_78 : Int) = 10 * c4 + c5 by omega) ▸ hz_85⟩
          have hp9 := (hQi.trans (cmP_5 (by omega)))
          exact ⟨_, _, _, _, hc_79, hc_80, hc_81, fun q q1 q2 q3 => (hf_82 q (by omega) (by omega) (by omega)), hVr_83, by omega, Or.inl ⟨hGi.mpr hb9, by rw [hp9], by rw [hp9]; exact sim.rf, rfl⟩⟩
      · refine g_if_eq (tgt := 324) C (by decide) dX8_succeeds_306 (by decide) (fun _ => ?_) (fun c9 => absurd c9 (by decide))
        refine g_iconst (a := 0) C dX8_succeeds_324 rfl ?_
        refine g_zret C G hr hlk (by decide) (Nat.le_of_ble_eq_true rfl) (Nat.le_of_ble_eq_true rfl) dX8_succeeds_325 ?_
        have hn9 : ¬ cmOK kd c2 c3 c4 c5 ly f := fun q => by
          have q2 := (cmOK_7 e_70).mp q
          first | omega | exact absurd (None.uniq q2.2.2) (by omega)
        exact ⟨_, _, _, _, hM, hN, hK, fun q q1 q2 q3 => rfl, hMr, by omega, Or.inr ⟨fun q => hn9 (hGi.mp q), rfl, rfl, rfl⟩⟩
    · refine g_if_eq (tgt := 324) C (by decide) dX8_succeeds_298 (by decide) (fun _ => ?_) (fun c9 => absurd c9 (by decide))
      refine g_iconst (a := 0) C dX8_succeeds_324 rfl ?_
      refine g_zret C G hr hlk (by decide) (Nat.le_of_ble_eq_true rfl) (Nat.le_of_ble_eq_true rfl) dX8_succeeds_325 ?_
      have hn9 : ¬ cmOK kd c2 c3 c4 c5 ly f := fun q => by
        have q2 := (cmOK_7 e_70).mp q
        first | omega | exact absurd (None.uniq q2.2.2) (by omega)
      exact ⟨_, _, _, _, hM, hN, hK, fun q q1 q2 q3 => rfl, hMr, by omega, Or.inr ⟨fun q => hn9 (hGi.mp q), rfl, rfl, rfl⟩⟩
  by_cases e_88 : kd = 8
  · refine g_tswIn (v := 8) (off := 298) (tgt := 326) C dX8_succeeds_28 e_88 (by decide) (by decide) (by decide) (by decide) (by decide) ?_
    refine g_iload_n C dX8_succeeds_326 rfl hl 4 rfl ?_
    refine g_sipush (a := 1000) C dX8_succeeds_327 (by decide) ?_
    refine g_irem C (by omega) (by decide) (by decide) dX8_succeeds_330 ?_
    rw [show (Int.tmod grp 1000 : Int) = grp % 1000 from (tmod_pos (by omega))]
    refine g_if_ne (tgt := 346) C (by omega) dX8_succeeds_331 (by decide) (fun c_89 => ?_) (fun c_89 => ?_)
    · refine g_iconst (a := 0) C dX8_succeeds_346 rfl ?_
      refine g_zret C G hr hlk (by decide) (Nat.le_of_ble_eq_true rfl) (Nat.le_of_ble_eq_true rfl) dX8_succeeds_347 ?_
      have hn9 : ¬ cmOK kd c2 c3 c4 c5 ly f := fun q => by
        have q2 := (cmOK_8 e_88).mp q
        first | omega | (have e9 := None.1; have q3 := q2.2.2; omega)
      exact ⟨_, _, _, _, hM, hN, hK, fun q q1 q2 q3 => rfl, hMr, by omega, Or.inr ⟨fun q => hn9 (hGi.mp q), rfl, rfl, rfl⟩⟩
    · refine g_aload_n C dX8_succeeds_334 rfl hl 3 rfl ?_
      refine g_ci C G (g_runV (As := []) (rest := []) (pos := 192) C G (c_X8_fitting l κ B n ad g ly th mk tx rl a0 wr s0 s1 rm f hn8 hM hN hok) (cwV 0 C.1.2.2.2.2 gX8_succeeds_X8_fitting rfl rfl rfl (by decide +kernel) ⟨Nat.le_of_ble_eq_true rfl, Nat.le_of_ble_eq_true rfl⟩) (by omega) hM (T := TX8) (N := 17) rfl rfl hl rfl (Nat.le_of_ble_eq_true rfl) dX8_succeeds_335 ⟨Nat.le_of_ble_eq_true rfl, Nat.le_of_ble_eq_true rfl⟩) (fun z_90 g9 H locs hw G => ?_)
      obtain ⟨hg9, h_91⟩ := hw
      replace hg9 := hg9.symm
      subst hg9
      refine g_iload_n C dX8_succeeds_338 rfl hl 2 rfl ?_
      refine g_icmp_lt (tgt := 346) C (by omega) (by omega) dX8_succeeds_339 (by decide) (fun c_92 => ?_) (fun c_92 => ?_)
      · refine g_iconst (a := 0) C dX8_succeeds_346 rfl ?_
        refine g_zret C G hr hlk (by decide) (Nat.le_of_ble_eq_true rfl) (Nat.le_of_ble_eq_true rfl) dX8_succeeds_347 ?_
        have hn9 : ¬ cmOK kd c2 c3 c4 c5 ly f := fun q => by
          have q2 := (cmOK_8 e_88).mp q
          first | omega | (have e9 := h_91.1; have q3 := q2.2.2; omega)
        exact ⟨_, _, _, _, hM, hN, hK, fun q q1 q2 q3 => rfl, hMr, by omega, Or.inr ⟨fun q => hn9 (hGi.mp q), rfl, rfl, rfl⟩⟩
      · refine g_iconst (a := 1) C dX8_succeeds_342 rfl ?_
        refine g_goto (tgt := 347) C dX8_succeeds_343 (by decide) ?_
        refine g_zret C G hr hlk (by decide) (Nat.le_of_ble_eq_true rfl) (Nat.le_of_ble_eq_true rfl) dX8_succeeds_347 ?_
        have hb9 : cmOK kd c2 c3 c4 c5 ly f := (cmOK_8 e_88).mpr ⟨by omega, by omega, by rw [← h_91.1]; omega⟩
        have hp9 := (hQi.trans (cmP_5 (by omega)))
        exact ⟨_, _, _, _, hM, hN, hK, fun q q1 q2 q3 => rfl, hMr, by omega, Or.inl ⟨hGi.mpr hb9, by rw [hp9], by rw [hp9]; exact sim.rf, rfl⟩⟩
  by_cases e_93 : kd = 9
  · refine g_tswIn (v := 9) (off := 320) (tgt := 348) C dX8_succeeds_28 e_93 (by decide) (by decide) (by decide) (by decide) (by decide) ?_
    refine g_aload_n C dX8_succeeds_348 rfl hl 3 rfl ?_
    refine g_iload_n C dX8_succeeds_349 rfl hl 2 rfl ?_
    refine g_ci C G (g_runV (As := [.int (iz c2)]) (rest := []) (pos := 192) C G (c_X8_isLayer l κ B n ad g ly th mk tx rl a0 wr s0 s1 rm c2 hn8 hM (by omega) (by omega)) (cwV 1 C.1.2.2.2.2 gX8_succeeds_X8_isLayer rfl rfl rfl (by decide +kernel) ⟨Nat.le_of_ble_eq_true rfl, Nat.le_of_ble_eq_true rfl⟩) (by omega) hM (T := TX8) (N := 17) rfl rfl hl rfl (Nat.le_of_ble_eq_true rfl) dX8_succeeds_350 ⟨Nat.le_of_ble_eq_true rfl, Nat.le_of_ble_eq_true rfl⟩) (fun z_95 g9 H locs hw G => ?_)
    obtain ⟨hg9, hw⟩ := hw
    replace hg9 := hg9.symm
    subst hg9
    rcases hw with ⟨b_94, rfl⟩ | ⟨b_94, rfl⟩
    · refine g_if_eq (tgt := 374) C (by decide) dX8_succeeds_353 (by decide) (fun c9 => absurd c9 (by decide)) (fun _ => ?_)
      refine g_iload_n C dX8_succeeds_356 rfl hl 1 rfl ?_
      refine g_if_ne (tgt := 374) C (by omega) dX8_succeeds_357 (by decide) (fun c_96 => ?_) (fun c_96 => ?_)
      · refine g_iconst (a := 0) C dX8_succeeds_374 rfl ?_
        refine g_zret C G hr hlk (by decide) (Nat.le_of_ble_eq_true rfl) (Nat.le_of_ble_eq_true rfl) dX8_succeeds_375 ?_
        have hn9 : ¬ cmOK kd c2 c3 c4 c5 ly f := fun q => by
          have q2 := (cmOK_9 e_93).mp q
          first | omega | (have e9 := None.1; have q3 := q2.2.2; omega)
        exact ⟨_, _, _, _, hM, hN, hK, fun q q1 q2 q3 => rfl, hMr, by omega, Or.inr ⟨fun q => hn9 (hGi.mp q), rfl, rfl, rfl⟩⟩
      · refine g_aload_n C dX8_succeeds_360 rfl hl 3 rfl ?_
        refine g_iload_n C dX8_succeeds_361 rfl hl 2 rfl ?_
        refine g_ci C G (g_runV (As := [.int (iz c2)]) (rest := []) (pos := 192) C G (c_X8_lobes l κ B n ad g ly th mk tx rl a0 wr s0 s1 rm f c2 hn8 hM hN hok (by omega)) (cwV 1 C.1.2.2.2.2 gX8_succeeds_X8_lobes rfl rfl rfl (by decide +kernel) ⟨Nat.le_of_ble_eq_true rfl, Nat.le_of_ble_eq_true rfl⟩) (by omega) hM (T := TX8) (N := 17) rfl rfl hl rfl (Nat.le_of_ble_eq_true rfl) dX8_succeeds_362 ⟨Nat.le_of_ble_eq_true rfl, Nat.le_of_ble_eq_true rfl⟩) (fun z_97 g9 H locs hw G => ?_)
        obtain ⟨hg9, h_98⟩ := hw
        replace hg9 := hg9.symm
        subst hg9
        refine g_iload C dX8_succeeds_365 hl 0 rfl ?_
        refine g_icmp_ne (tgt := 374) C (by omega) (by omega) dX8_succeeds_367 (by decide) (fun c_99 => ?_) (fun c_99 => ?_)
        · refine g_iconst (a := 0) C dX8_succeeds_374 rfl ?_
          refine g_zret C G hr hlk (by decide) (Nat.le_of_ble_eq_true rfl) (Nat.le_of_ble_eq_true rfl) dX8_succeeds_375 ?_
          have hn9 : ¬ cmOK kd c2 c3 c4 c5 ly f := fun q => by
            have q2 := (cmOK_9 e_93).mp q
            first | omega | (have e9 := h_98.1; have q3 := q2.2.2; omega)
          exact ⟨_, _, _, _, hM, hN, hK, fun q q1 q2 q3 => rfl, hMr, by omega, Or.inr ⟨fun q => hn9 (hGi.mp q), rfl, rfl, rfl⟩⟩
        · refine g_iconst (a := 1) C dX8_succeeds_370 rfl ?_
          refine g_goto (tgt := 375) C dX8_succeeds_371 (by decide) ?_
          refine g_zret C G hr hlk (by decide) (Nat.le_of_ble_eq_true rfl) (Nat.le_of_ble_eq_true rfl) dX8_succeeds_375 ?_
          have hb9 : cmOK kd c2 c3 c4 c5 ly f := (cmOK_9 e_93).mpr ⟨by omega, by omega, by rw [← h_98.1]; omega⟩
          have hp9 := (hQi.trans (cmP_5 (by omega)))
          exact ⟨_, _, _, _, hM, hN, hK, fun q q1 q2 q3 => rfl, hMr, by omega, Or.inl ⟨hGi.mpr hb9, by rw [hp9], by rw [hp9]; exact sim.rf, rfl⟩⟩
    · refine g_if_eq (tgt := 374) C (by decide) dX8_succeeds_353 (by decide) (fun _ => ?_) (fun c9 => absurd c9 (by decide))
      refine g_iconst (a := 0) C dX8_succeeds_374 rfl ?_
      refine g_zret C G hr hlk (by decide) (Nat.le_of_ble_eq_true rfl) (Nat.le_of_ble_eq_true rfl) dX8_succeeds_375 ?_
      have hn9 : ¬ cmOK kd c2 c3 c4 c5 ly f := fun q => by
        have q2 := (cmOK_9 e_93).mp q
        first | omega | (have e9 := None.1; have q3 := q2.2.2; omega)
      exact ⟨_, _, _, _, hM, hN, hK, fun q q1 q2 q3 => rfl, hMr, by omega, Or.inr ⟨fun q => hn9 (hGi.mp q), rfl, rfl, rfl⟩⟩
  refine g_tswOut (tgt := 376) C (by omega) dX8_succeeds_28 (by omega) (by decide) ?_
  refine g_iconst (a := 0) C dX8_succeeds_376 rfl ?_
  refine g_zret C G hr hlk (by decide) (Nat.le_of_ble_eq_true rfl) (Nat.le_of_ble_eq_true rfl) dX8_succeeds_377 ?_
  exact ⟨_, _, _, _, hM, hN, hK, fun q q1 q2 q3 => rfl, hMr, by omega, Or.inr ⟨fun q => (cmOK_no (by omega) (by omega) (hGi.mp q)), rfl, rfl, rfl⟩⟩
theorem fwX8_runScript_31 : gFldW wsX8_runScript RX8 31 8 2 .int false := ⟨RX8, TX8, 17, tyX8, rfl, by decide, by decide +kernel, by decide +kernel, tyX8_ok, nmX8, rfl, by decide +kernel, by decide +kernel⟩
theorem fX8_runScript_25 : gFld wsX8_runScript RX8 25 8 15 := ⟨RX8, TX8, 17, rfl, by decide, by decide +kernel, by decide +kernel⟩
set_option maxHeartbeats 4000000 in
set_option maxRecDepth 100000 in
theorem c_X8_runScript (l : Launch) (κ : gKap) (B n : Nat) (ad : Nat → Nat) (g : Nat → va_E) (ly : Int) (th : Int) (mk : Int) (tx : Int) (rl : Int) (a0 : Int) (wr : Int) (s0 : Int) (s1 : Int) (rm : Int) (f : Int → Int) (M9 : Int → Int) (X9 : Int → Int) (q9 : Int → Int) (pa : Int → Int) (be : Int → Int) (sv : Int → Int) (m9 : Int) (sc : Int) (hn8 : 200 ≤ n) (hM : g 192 = oM ad ly th mk tx rl a0 wr s0 s1 rm) (hN : g 193 = aI κ 42 f) (hK : g 194 = aI κ 28896 M9) (hT : g 195 = aI κ 100 X9) (hRd : g 196 = aI κ 42 q9) (hPa : g 197 = aI κ 602 pa) (hBe : g 198 = aI κ 43 be) (hSv : g 199 = aI κ 86 sv) (hok : okPl ly f) (hmk : 0 ≤ mk ∧ mk ≤ 800000000) (hMr : ∀ i, 0 ≤ i → i < 28896 → 0 ≤ M9 i ∧ M9 i ≤ mk) (hinq : inV q9) (hm9i : inI m9) (hsc : inJ sc) : Met l yX8_runScript wsX8_runScript ({ frames := 8, cells := 0, slots := 0, locals := 194 }) (gPre κ B n ad g [.ref (ad 192), .int (iz m9), .long (jz sc)]) (gQi κ B n ad (fun z g' => ((¬ ((1 ≤ m9 ∧ m9 ≤ 3) ∧ 0 ≤ sc ∧ sc < gu m9) ∧ jkM κ ad g' ly 1 tx s0 s1 rm (mk + 1000) f X9 pa sv) ∨ (((1 ≤ m9 ∧ m9 ≤ 3) ∧ 0 ≤ sc ∧ sc < gu m9) ∧ z = rsF (scG m9 sc) m9 3 0 ly f ∧ ∃ F8, jkM κ ad g' ly 0 tx s0 s1 rm (mk + 1000) (brF (stF be 0 ly f) 0 F8) X9 pa sv)) ∧ frM g g')) 0 0 (gFree B) := by
  refine g_met RX8 (cc := cX8_runScript) (maxL := 8) (ret := (some .int)) (by decide) rfl rfl (Nat.le_of_ble_eq_true rfl) ?_
  intro p e s m args below meth c C hr hlk hnm G ls hl
  have hl : lv_has ls 8 [(0, .ref (ad 192)), (1, .int (iz m9)), (2, .long (jz sc))] := hl
  obtain ⟨hn6, hv0, hv25, hlay, hsee⟩ := id hok
  refine g_aload_n C dX8_runScript_0 rfl hl 0 rfl ?_
  refine g_iconst (a := 0) C dX8_runScript_1 rfl ?_
  refine g_put C G (pos := 192) (fs' := [.ref (ad 193), .int (iz ly), .int (iz 0), .ref (ad 194), .int (iz mk), .ref (ad 195), .int (iz tx), .ref (ad 196), .int (iz rl), .int (iz a0), .int (iz wr), .int (iz s0), .int (iz s1), .ref (ad 197), .int (iz rm), .ref (ad 198), .ref (ad 199)]) fwX8_runScript_31 (by omega) hM (Nat.le_of_ble_eq_true rfl) rfl rfl rfl dX8_runScript_2 (fun H locs G => ?_)
  obtain ⟨g_1, hg_2⟩ : ∃ g9, g9 = va_up g 192 (.inr (8, [.ref (ad 193), .int (iz ly), .int (iz 0), .ref (ad 194), .int (iz mk), .ref (ad 195), .int (iz tx), .ref (ad 196), .int (iz rl), .int (iz a0), .int (iz wr), .int (iz s0), .int (iz s1), .ref (ad 197), .int (iz rm), .ref (ad 198), .ref (ad 199)])) := ⟨_, rfl⟩
  rw [← hg_2] at G
  have hc_3 : g_1 192 = .inr (8, [.ref (ad 193), .int (iz ly), .int (iz 0), .ref (ad 194), .int (iz mk), .ref (ad 195), .int (iz tx), .ref (ad 196), .int (iz rl), .int (iz a0), .int (iz wr), .int (iz s0), .int (iz s1), .ref (ad 197), .int (iz rm), .ref (ad 198), .ref (ad 199)]) := by rw [hg_2]; exact gu_self _ _ _
  have hc_4 : g_1 193 = aI κ 42 f := by rw [hg_2, gu_ne (by decide)]; exact hN
  have hc_5 : g_1 194 = aI κ 28896 M9 := by rw [hg_2, gu_ne (by decide)]; exact hK
  have hc_6 : g_1 195 = aI κ 100 X9 := by rw [hg_2, gu_ne (by decide)]; exact hT
  have hc_7 : g_1 196 = aI κ 42 q9 := by rw [hg_2, gu_ne (by decide)]; exact hRd
  have hc_8 : g_1 197 = aI κ 602 pa := by rw [hg_2, gu_ne (by decide)]; exact hPa
  have hc_9 : g_1 198 = aI κ 43 be := by rw [hg_2, gu_ne (by decide)]; exact hBe
  have hc_10 : g_1 199 = aI κ 86 sv := by rw [hg_2, gu_ne (by decide)]; exact hSv
  have jn_30_n_11 : ∀ (un0 : Int), un0 = gun m9 → ∀ (H : Heap) (locs : List Loc), gG κ B n ad s g_1 H locs → ∀ (ls : Array Slot), lv_has ls 8 [(0, .ref (ad 192)), (1, .int (iz m9)), (2, .long (jz sc))] → W p l e ({ frames := 8, cells := 0, slots := 0, locals := 194 }) s m args below meth c H locs 0 0 (MQ below (gQi κ B n ad (fun z g' => ((¬ ((1 ≤ m9 ∧ m9 ≤ 3) ∧ 0 ≤ sc ∧ sc < gu m9) ∧ jkM κ ad g' ly 1 tx s0 s1 rm (mk + 1000) f X9 pa sv) ∨ (((1 ≤ m9 ∧ m9 ≤ 3) ∧ 0 ≤ sc ∧ sc < gu m9) ∧ z = rsF (scG m9 sc) m9 3 0 ly f ∧ ∃ F8, jkM κ ad g' ly 0 tx s0 s1 rm (mk + 1000) (brF (stF be 0 ly f) 0 F8) X9 pa sv)) ∧ frM g g')) args s 0 0 (gFree B)) (F0 m 30 ls (.long (jz un0) :: [])) := by
    intro un0 hj_12 H locs G ls hl
    have hj_un := hj_12
    have hgu9 : 100000 ≤ un0 ∧ un0 ≤ 1000000000000000 := by rw [hj_un]; unfold gun; repeat' split <;> omega
    refine lv_lstore (lv' := [(4, .long (jz un0)), (0, .ref (ad 192)), (1, .int (iz m9)), (2, .long (jz sc))]) C.1.1 C.1.2.1 dX8_runScript_30 hl (by decide) rfl (fun ls hl => ?_)
    refine g_iload_n C dX8_runScript_32 rfl hl 2 rfl ?_
    refine g_i2l C (by omega) dX8_runScript_33 ?_
    refine g_lconst (a := 1) C dX8_runScript_34 (by decide) ?_
    refine g_ldc2 (a := 3) C (by decide +kernel) dX8_runScript_35 ?_
    refine g_ci C G (g_runS (As := [.long (jz m9), .long (jz 1), .long (jz 3)]) (rest := []) C G (c_X8_in l κ B n ad g_1 m9 1 3 (by omega) (by omega) (by omega)) (va_cwS 3 C.1.2.2.2.2 gX8_runScript_X8_in rfl rfl rfl (by decide +kernel) ⟨Nat.le_of_ble_eq_true rfl, Nat.le_of_ble_eq_true rfl⟩) rfl hl rfl (Nat.le_of_ble_eq_true rfl) dX8_runScript_38 ⟨Nat.le_of_ble_eq_true rfl, Nat.le_of_ble_eq_true rfl⟩) (fun z_14 g9 H locs hw G => ?_)
    obtain ⟨hg9, hw⟩ := hw
    replace hg9 := hg9.symm
    subst hg9
    rcases hw with ⟨b_13, rfl⟩ | ⟨b_13, rfl⟩
    · refine g_if_eq (tgt := 57) C (by decide) dX8_runScript_41 (by decide) (fun c9 => absurd c9 (by decide)) (fun _ => ?_)
      refine g_lload_n C dX8_runScript_44 rfl hl 3 rfl ?_
      refine g_lconst (a := 0) C dX8_runScript_45 (by decide) ?_
      refine g_lcmp C (by omega) (by decide) dX8_runScript_46 (fun z_15 h_16 => ?_)
      refine g_if_lt (tgt := 57) C (by omega) dX8_runScript_47 (by decide) (fun c_17 => ?_) (fun c_17 => ?_)
      · have hbad9 : ¬ ((1 ≤ m9 ∧ m9 ≤ 3) ∧ 0 ≤ sc ∧ sc < gu m9) := fun q => by have hgn : un0 = gu m9 := by {rw [hj_un]; exact gun_gu (by omega)}; omega
        refine g_aload_n C dX8_runScript_57 rfl hl 1 rfl ?_
        refine g_iconst (a := 1) C dX8_runScript_58 rfl ?_
        refine g_ci C G (g_runV (As := [.int (iz 1)]) (rest := []) (pos := 192) C G (c_X8_refused l κ B n ad g_1 ly 0 mk tx rl a0 wr s0 s1 rm 1 hn8 hc_3) (cwV 1 C.1.2.2.2.2 gX8_runScript_X8_refused rfl rfl rfl (by decide +kernel) ⟨Nat.le_of_ble_eq_true rfl, Nat.le_of_ble_eq_true rfl⟩) (by omega) hc_3 (T := TX8) (N := 17) rfl rfl hl rfl (Nat.le_of_ble_eq_true rfl) dX8_runScript_59 ⟨Nat.le_of_ble_eq_true rfl, Nat.le_of_ble_eq_true rfl⟩) (fun z_18 g9 H locs hw G => ?_)
        obtain ⟨hw, h_19⟩ := hw
        subst hw
        obtain ⟨g_20, hg_21⟩ : ∃ g9, g9 = va_up g_1 192 (.inr (8, [.ref (ad 193), .int (iz ly), .int (iz 1), .ref (ad 194), .int (iz mk), .ref (ad 195), .int (iz tx), .ref (ad 196), .int (iz rl), .int (iz a0), .int (iz wr), .int (iz s0), .int (iz s1), .ref (ad 197), .int (iz rm), .ref (ad 198), .ref (ad 199)])) := ⟨_, rfl⟩
        rw [← hg_21] at G
        have hc_22 : g_20 192 = .inr (8, [.ref (ad 193), .int (iz ly), .int (iz 1), .ref (ad 194), .int (iz mk), .ref (ad 195), .int (iz tx), .ref (ad 196), .int (iz rl), .int (iz a0), .int (iz wr), .int (iz s0), .int (iz s1), .ref (ad 197), .int (iz rm), .ref (ad 198), .ref (ad 199)]) := by rw [hg_21]; exact gu_self _ _ _
        have hc_23 : g_20 193 = aI κ 42 f := by rw [hg_21, gu_ne (by decide)]; exact hc_4
        have hc_24 : g_20 194 = aI κ 28896 M9 := by rw [hg_21, gu_ne (by decide)]; exact hc_5
        have hc_25 : g_20 195 = aI κ 100 X9 := by rw [hg_21, gu_ne (by decide)]; exact hc_6
        have hc_26 : g_20 196 = aI κ 42 q9 := by rw [hg_21, gu_ne (by decide)]; exact hc_7
        have hc_27 : g_20 197 = aI κ 602 pa := by rw [hg_21, gu_ne (by decide)]; exact hc_8
        have hc_28 : g_20 198 = aI κ 43 be := by rw [hg_21, gu_ne (by decide)]; exact hc_9
        have hc_29 : g_20 199 = aI κ 86 sv := by rw [hg_21, gu_ne (by decide)]; exact hc_10
        refine g_iret C G hr hlk (Nat.le_of_ble_eq_true rfl) (Nat.le_of_ble_eq_true rfl) dX8_runScript_62 ?_
        exact ⟨Or.inl ⟨hbad9, ⟨_, _, _, _, _, _, _, hc_22, hc_23, hc_24, hc_25, hc_26, hc_27, hc_28, hc_29, by omega, hMr, hinq⟩⟩, fun q hq => (((congrFun hg_21 q).trans (gu_ne (by omega))).trans ((congrFun hg_2 q).trans (gu_ne (by omega))))⟩
      · refine g_lload_n C dX8_runScript_50 rfl hl 3 rfl ?_
        refine g_lload C dX8_runScript_51 hl 0 rfl ?_
        refine g_lcmp C (by omega) (by omega) dX8_runScript_53 (fun z_30 h_31 => ?_)
        refine g_if_lt (tgt := 63) C (by omega) dX8_runScript_54 (by decide) (fun c_32 => ?_) (fun c_32 => ?_)
        · have hgn : un0 = gu m9 := by rw [hj_un]; exact gun_gu (by omega)
          refine g_aload_n C dX8_runScript_63 rfl hl 1 rfl ?_
          refine g_aload_n C dX8_runScript_64 rfl hl 1 rfl ?_
          refine g_get C G (pos := 192) fX8_runScript_25 (by omega) hc_3 rfl dX8_runScript_65 ?_
          refine g_iconst (a := 0) C dX8_runScript_68 rfl ?_
          refine g_cv C G (g_runV (As := [.ref (ad 198), .int (iz 0)]) (rest := []) (pos := 192) C G (c_X8_store l κ B n ad g_1 ly 0 mk tx rl a0 wr s0 s1 rm f 198 43 be 0 hn8 hc_3 hc_4 (by omega) hc_9 (by omega)) (cwV 2 C.1.2.2.2.2 gX8_runScript_X8_store rfl rfl rfl (by decide +kernel) ⟨Nat.le_of_ble_eq_true rfl, Nat.le_of_ble_eq_true rfl⟩) (by omega) hc_3 (T := TX8) (N := 17) rfl rfl hl rfl (Nat.le_of_ble_eq_true rfl) dX8_runScript_69 ⟨Nat.le_of_ble_eq_true rfl, Nat.le_of_ble_eq_true rfl⟩) (fun g9 H locs hw G => ?_)
          subst hw
          obtain ⟨g_33, hg_34⟩ : ∃ g9, g9 = va_up g_1 198 (aI κ 43 (stF be 0 ly f)) := ⟨_, rfl⟩
          rw [← hg_34] at G
          have hc_35 : g_33 192 = .inr (8, [.ref (ad 193), .int (iz ly), .int (iz 0), .ref (ad 194), .int (iz mk), .ref (ad 195), .int (iz tx), .ref (ad 196), .int (iz rl), .int (iz a0), .int (iz wr), .int (iz s0), .int (iz s1), .ref (ad 197), .int (iz rm), .ref (ad 198), .ref (ad 199)]) := by rw [hg_34, gu_ne (by decide)]; exact hc_3
          have hc_36 : g_33 193 = aI κ 42 f := by rw [hg_34, gu_ne (by decide)]; exact hc_4
          have hc_37 : g_33 194 = aI κ 28896 M9 := by rw [hg_34, gu_ne (by decide)]; exact hc_5
          have hc_38 : g_33 195 = aI κ 100 X9 := by rw [hg_34, gu_ne (by decide)]; exact hc_6
          have hc_39 : g_33 196 = aI κ 42 q9 := by rw [hg_34, gu_ne (by decide)]; exact hc_7
          have hc_40 : g_33 197 = aI κ 602 pa := by rw [hg_34, gu_ne (by decide)]; exact hc_8
          have hc_41 : g_33 198 = aI κ 43 (stF be 0 ly f) := by rw [hg_34]; exact gu_self _ _ _
          have hc_42 : g_33 199 = aI κ 86 sv := by rw [hg_34, gu_ne (by decide)]; exact hc_10
          refine g_bipush (a := (-9)) C dX8_runScript_72 (by decide) ?_
          refine lv_istore (lv' := [(6, .int (iz (-9))), (4, .long (jz un0)), (0, .ref (ad 192)), (1, .int (iz m9)), (2, .long (jz sc))]) C.1.1 C.1.2.1 dX8_runScript_74 hl (by decide) rfl (fun ls hl => ?_)
          refine g_iconst (a := 0) C dX8_runScript_76 rfl ?_
          refine lv_istore (lv' := [(7, .int (iz 0)), (6, .int (iz (-9))), (4, .long (jz un0)), (0, .ref (ad 192)), (1, .int (iz m9)), (2, .long (jz sc))]) C.1.1 C.1.2.1 dX8_runScript_77 hl (by decide) rfl (fun ls hl => ?_)
          have hfL : frM g g_33 := fun q hq => (((congrFun hg_34 q).trans (gu_ne (by omega))).trans ((congrFun hg_2 q).trans (gu_ne (by omega))))
          have lp_79_n_44 : ∀ (k_43 : Nat) (fo : Int) (k : Int) (un : Int) (l9 : Int) (mm : Int) (V : Int → Int) (F9 : Int → Int) (gv : Nat → va_E), (m9 - k).toNat < k_43 → (0 ≤ k ∧ k ≤ m9) → (fo = -9 ∨ (0 ≤ fo ∧ fo ≤ 3)) → (un = gu (m9 - k)) → (fo = -9 → okPl l9 F9 ∧ rsF (scG m9 sc) m9 (3 - k).toNat k l9 F9 = rsF (scG m9 sc) m9 3 0 ly f) → (fo ≠ -9 → fo = rsF (scG m9 sc) m9 3 0 ly f) → (mk ≤ mm ∧ mm ≤ mk + 200 * k) → (gv 192 = oM ad l9 0 mm tx rl a0 wr s0 s1 rm) → (gv 193 = aI κ 42 F9) → (gv 194 = aI κ 28896 V) → (∀ q, q ≠ 192 → q ≠ 193 → q ≠ 194 → gv q = g_33 q) → (∀ i, 0 ≤ i → i < 28896 → 0 ≤ V i ∧ V i ≤ mm) → ∀ (H : Heap) (locs : List Loc), gG κ B n ad s gv H locs → ∀ (ls : Array Slot), lv_has ls 8 [(0, .ref (ad 192)), (1, .int (iz m9)), (2, .long (jz sc)), (4, .long (jz un)), (6, .int (iz fo)), (7, .int (iz k))] → W p l e ({ frames := 8, cells := 0, slots := 0, locals := 194 }) s m args below meth c H locs 0 0 (MQ below (gQi κ B n ad (fun z g' => ((¬ ((1 ≤ m9 ∧ m9 ≤ 3) ∧ 0 ≤ sc ∧ sc < gu m9) ∧ jkM κ ad g' ly 1 tx s0 s1 rm (mk + 1000) f X9 pa sv) ∨ (((1 ≤ m9 ∧ m9 ≤ 3) ∧ 0 ≤ sc ∧ sc < gu m9) ∧ z = rsF (scG m9 sc) m9 3 0 ly f ∧ ∃ F8, jkM κ ad g' ly 0 tx s0 s1 rm (mk + 1000) (brF (stF be 0 ly f) 0 F8) X9 pa sv)) ∧ frM g g')) args s 0 0 (gFree B)) (F0 m 79 ls []) := by
            intro k_43
            induction k_43 with
            | zero => intro fo k un l9 mm V F9 gv hm; exact absurd hm (Nat.not_lt_zero _)
            | succ k_43 ih_lp_79_n_44 =>
              intro fo k un l9 mm V F9 gv hm hk hfo hun hR0 hR1 hmb hm9 hn9 hk9 hfr hVr H locs G ls hl
              have hc_45 : gv 195 = aI κ 100 X9 := (hfr 195 (by decide) (by decide) (by decide)).trans hc_38
              have hc_46 : gv 196 = aI κ 42 q9 := (hfr 196 (by decide) (by decide) (by decide)).trans hc_39
              have hc_47 : gv 197 = aI κ 602 pa := (hfr 197 (by decide) (by decide) (by decide)).trans hc_40
              have hc_48 : gv 198 = aI κ 43 (stF be 0 ly f) := (hfr 198 (by decide) (by decide) (by decide)).trans hc_41
              have hc_49 : gv 199 = aI κ 86 sv := (hfr 199 (by decide) (by decide) (by decide)).trans hc_42
              refine g_iload C dX8_runScript_79 hl 5 rfl ?_
              refine g_iload_n C dX8_runScript_81 rfl hl 1 rfl ?_
              refine g_icmp_ge (tgt := 131) C (by omega) (by omega) dX8_runScript_82 (by decide) (fun c_50 => ?_) (fun c_50 => ?_)
              · refine g_aload_n C dX8_runScript_131 rfl hl 0 rfl ?_
                refine g_aload_n C dX8_runScript_132 rfl hl 0 rfl ?_
                refine g_get C G (pos := 192) fX8_runScript_25 (by omega) hm9 rfl dX8_runScript_133 ?_
                refine g_iconst (a := 0) C dX8_runScript_136 rfl ?_
                refine g_cv C G (g_runV (As := [.ref (ad 198), .int (iz 0)]) (rest := []) (pos := 192) C G (c_X8_bring l κ B n ad gv l9 0 mm tx rl a0 wr s0 s1 rm F9 198 43 (stF be 0 ly f) 0 hn8 hm9 hn9 (by omega) hc_48 (by omega)) (cwV 2 C.1.2.2.2.2 gX8_runScript_X8_bring rfl rfl rfl (by decide +kernel) ⟨Nat.le_of_ble_eq_true rfl, Nat.le_of_ble_eq_true rfl⟩) (by omega) hm9 (T := TX8) (N := 17) rfl rfl hl rfl (Nat.le_of_ble_eq_true rfl) dX8_runScript_137 ⟨Nat.le_of_ble_eq_true rfl, Nat.le_of_ble_eq_true rfl⟩) (fun g_51 H locs hgs_52 G => ?_)
                have hc_53 : g_51 192 = .inr (8, [.ref (ad 193), .int (iz ((stF be 0 ly f) 0)), .int (iz 0), .ref (ad 194), .int (iz mm), .ref (ad 195), .int (iz tx), .ref (ad 196), .int (iz rl), .int (iz a0), .int (iz wr), .int (iz s0), .int (iz s1), .ref (ad 197), .int (iz rm), .ref (ad 198), .ref (ad 199)]) := by rw [hgs_52, gu_ne (by decide)]; exact gu_self _ _ _
                have hc_54 : g_51 193 = aI κ 42 (brF (stF be 0 ly f) 0 F9) := by rw [hgs_52]; exact gu_self _ _ _
                have hc_55 : g_51 194 = aI κ 28896 V := by rw [hgs_52, gu_ne (by decide), gu_ne (by decide)]; exact hk9
                have hc_56 : g_51 195 = aI κ 100 X9 := by rw [hgs_52, gu_ne (by decide), gu_ne (by decide)]; exact hc_45
                have hc_57 : g_51 196 = aI κ 42 q9 := by rw [hgs_52, gu_ne (by decide), gu_ne (by decide)]; exact hc_46
                have hc_58 : g_51 197 = aI κ 602 pa := by rw [hgs_52, gu_ne (by decide), gu_ne (by decide)]; exact hc_47
                have hc_59 : g_51 198 = aI κ 43 (stF be 0 ly f) := by rw [hgs_52, gu_ne (by decide), gu_ne (by decide)]; exact hc_48
                have hc_60 : g_51 199 = aI κ 86 sv := by rw [hgs_52, gu_ne (by decide), gu_ne (by decide)]; exact hc_49
                refine g_iload C dX8_runScript_140 hl 4 rfl ?_
                refine g_iret C G hr hlk (Nat.le_of_ble_eq_true rfl) (Nat.le_of_ble_eq_true rfl) dX8_runScript_142 ?_
                have hzz : fo = rsF (scG m9 sc) m9 3 0 ly f := by
                  by_cases hq : fo = -9
                  · have hRR := (hR0 hq).2
                    rw [rsF_end (by omega)] at hRR
                    exact hq.trans hRR
                  · exact hR1 hq
                exact ⟨Or.inr ⟨⟨by omega, by omega, by rw [← hgn]; omega⟩, hzz, _, ⟨_, _, _, _, _, _, _, hc_53, hc_54, hc_55, hc_56, hc_57, hc_58, hc_59, hc_60, by omega, hVr, hinq⟩⟩, fun q hq => (((congrFun hgs_52 q).trans ((gu_ne (by omega)).trans (gu_ne (by omega)))).trans ((hfr q (by omega) (by omega) (by omega)).trans (hfL q (by omega))))⟩
              · refine g_iload C dX8_runScript_85 hl 4 rfl ?_
                refine g_bipush (a := (-9)) C dX8_runScript_87 (by decide) ?_
                refine g_icmp_ne (tgt := 131) C (by omega) (by omega) dX8_runScript_89 (by decide) (fun c_61 => ?_) (fun c_61 => ?_)
                · refine g_aload_n C dX8_runScript_131 rfl hl 0 rfl ?_
                  refine g_aload_n C dX8_runScript_132 rfl hl 0 rfl ?_
                  refine g_get C G (pos := 192) fX8_runScript_25 (by omega) hm9 rfl dX8_runScript_133 ?_
                  refine g_iconst (a := 0) C dX8_runScript_136 rfl ?_
                  refine g_cv C G (g_runV (As := [.ref (ad 198), .int (iz 0)]) (rest := []) (pos := 192) C G (c_X8_bring l κ B n ad gv l9 0 mm tx rl a0 wr s0 s1 rm F9 198 43 (stF be 0 ly f) 0 hn8 hm9 hn9 (by omega) hc_48 (by omega)) (cwV 2 C.1.2.2.2.2 gX8_runScript_X8_bring rfl rfl rfl (by decide +kernel) ⟨Nat.le_of_ble_eq_true rfl, Nat.le_of_ble_eq_true rfl⟩) (by omega) hm9 (T := TX8) (N := 17) rfl rfl hl rfl (Nat.le_of_ble_eq_true rfl) dX8_runScript_137 ⟨Nat.le_of_ble_eq_true rfl, Nat.le_of_ble_eq_true rfl⟩) (fun g_62 H locs hgs_63 G => ?_)
                  have hc_64 : g_62 192 = .inr (8, [.ref (ad 193), .int (iz ((stF be 0 ly f) 0)), .int (iz 0), .ref (ad 194), .int (iz mm), .ref (ad 195), .int (iz tx), .ref (ad 196), .int (iz rl), .int (iz a0), .int (iz wr), .int (iz s0), .int (iz s1), .ref (ad 197), .int (iz rm), .ref (ad 198), .ref (ad 199)]) := by rw [hgs_63, gu_ne (by decide)]; exact gu_self _ _ _
                  have hc_65 : g_62 193 = aI κ 42 (brF (stF be 0 ly f) 0 F9) := by rw [hgs_63]; exact gu_self _ _ _
                  have hc_66 : g_62 194 = aI κ 28896 V := by rw [hgs_63, gu_ne (by decide), gu_ne (by decide)]; exact hk9
                  have hc_67 : g_62 195 = aI κ 100 X9 := by rw [hgs_63, gu_ne (by decide), gu_ne (by decide)]; exact hc_45
                  have hc_68 : g_62 196 = aI κ 42 q9 := by rw [hgs_63, gu_ne (by decide), gu_ne (by decide)]; exact hc_46
                  have hc_69 : g_62 197 = aI κ 602 pa := by rw [hgs_63, gu_ne (by decide), gu_ne (by decide)]; exact hc_47
                  have hc_70 : g_62 198 = aI κ 43 (stF be 0 ly f) := by rw [hgs_63, gu_ne (by decide), gu_ne (by decide)]; exact hc_48
                  have hc_71 : g_62 199 = aI κ 86 sv := by rw [hgs_63, gu_ne (by decide), gu_ne (by decide)]; exact hc_49
                  refine g_iload C dX8_runScript_140 hl 4 rfl ?_
                  refine g_iret C G hr hlk (Nat.le_of_ble_eq_true rfl) (Nat.le_of_ble_eq_true rfl) dX8_runScript_142 ?_
                  have hzz : fo = rsF (scG m9 sc) m9 3 0 ly f := by
                    by_cases hq : fo = -9
                    · have hRR := (hR0 hq).2
                      rw [rsF_end (by omega)] at hRR
                      exact hq.trans hRR
                    · exact hR1 hq
                  exact ⟨Or.inr ⟨⟨by omega, by omega, by rw [← hgn]; omega⟩, hzz, _, ⟨_, _, _, _, _, _, _, hc_64, hc_65, hc_66, hc_67, hc_68, hc_69, hc_70, hc_71, by omega, hVr, hinq⟩⟩, fun q hq => (((congrFun hgs_63 q).trans ((gu_ne (by omega)).trans (gu_ne (by omega)))).trans ((hfr q (by omega) (by omega) (by omega)).trans (hfL q (by omega))))⟩
                · have hgs := gu_step (i := m9 - 1 - k) (by omega)
                  rw [show m9 - 1 - k + 1 = m9 - k by omega] at hgs
                  have hgp := gu_pos (m9 - 1 - k)
                  have hgJ := gu_J (m9 - 1 - k)
                  have hgJ2 := gu_J (m9 - k)
                  have hRR := hR0 (by omega)
                  refine g_lload C dX8_runScript_92 hl 3 rfl ?_
                  refine g_ldc2 (a := 100000) C (by decide +kernel) dX8_runScript_94 ?_
                  refine g_ldiv C (by omega) (by decide) (by decide) dX8_runScript_97 ?_
                  rw [show (Int.tdiv un 100000 : Int) = gu (m9 - 1 - k) from (by rw [tdiv_pos (by omega)]; omega)]
                  refine lv_lstore (lv' := [(4, .long (jz (gu (m9 - 1 - k)))), (0, .ref (ad 192)), (1, .int (iz m9)), (2, .long (jz sc)), (6, .int (iz fo)), (7, .int (iz k))]) C.1.1 C.1.2.1 dX8_runScript_98 hl (by decide) rfl (fun ls hl => ?_)
                  refine g_aload_n C dX8_runScript_100 rfl hl 1 rfl ?_
                  refine g_lload_n C dX8_runScript_101 rfl hl 3 rfl ?_
                  refine g_lload C dX8_runScript_102 hl 0 rfl ?_
                  refine g_ldiv C (by omega) (by omega) (by omega) dX8_runScript_104 ?_
                  rw [show (Int.tdiv sc (gu (m9 - 1 - k)) : Int) = sc / gu (m9 - 1 - k) from (tdiv_pos (by omega))]
                  have hq0 := Int.ediv_nonneg (a := sc) (b := gu (m9 - 1 - k)) (by omega) (by omega)
                  have hq1 := Int.ediv_le_self (a := sc) (gu (m9 - 1 - k)) (by omega)
                  refine g_ldc2 (a := 100000) C (by decide +kernel) dX8_runScript_105 ?_
                  refine g_lrem C (by omega) (by decide) (by decide) dX8_runScript_108 ?_
                  rw [show (Int.tmod (sc / gu (m9 - 1 - k)) 100000 : Int) = scG m9 sc k from (by rw [tmod_pos (by omega)]; rfl)]
                  have hgr9 := scG_rg (m9 := m9) (sc := sc) (i := k)
                  refine g_l2i C dX8_runScript_109 ?_
                  refine g_ci C G (g_runV (As := [.int (iz (scG m9 sc k))]) (rest := []) (pos := 192) C G (c_X8_succeeds l κ B n ad gv l9 0 mm tx rl a0 wr s0 s1 rm F9 V (scG m9 sc k) hn8 hm9 hn9 hk9 hRR.1 hgr9 (by omega) hVr) (cwV 1 C.1.2.2.2.2 gX8_runScript_X8_succeeds rfl rfl rfl (by decide +kernel) ⟨Nat.le_of_ble_eq_true rfl, Nat.le_of_ble_eq_true rfl⟩) (by omega) hm9 (T := TX8) (N := 17) rfl rfl hl rfl (Nat.le_of_ble_eq_true rfl) dX8_runScript_110 ⟨Nat.le_of_ble_eq_true rfl, Nat.le_of_ble_eq_true rfl⟩) (fun z_77 g_76 H locs hw9 G => ?_)
                  obtain ⟨V_72, m_73, l_74, f_75, hc_78, hc_79, hc_80, hf_81, hVr_82, hmb_83, hw9⟩ := hw9
                  have hc_84 : g_76 195 = aI κ 100 X9 := (hf_81 195 (by decide) (by decide) (by decide)).trans hc_45
                  have hc_85 : g_76 196 = aI κ 42 q9 := (hf_81 196 (by decide) (by decide) (by decide)).trans hc_46
                  have hc_86 : g_76 197 = aI κ 602 pa := (hf_81 197 (by decide) (by decide) (by decide)).trans hc_47
                  have hc_87 : g_76 198 = aI κ 43 (stF be 0 ly f) := (hf_81 198 (by decide) (by decide) (by decide)).trans hc_48
                  have hc_88 : g_76 199 = aI κ 86 sv := (hf_81 199 (by decide) (by decide) (by decide)).trans hc_49
                  rcases hw9 with ⟨hy1, hy2, hy3, rfl⟩ | ⟨hy1, hy2, hy3, rfl⟩
                  · have hrs1 := (rsF_yes (G9 := scG m9 sc) (m9 := m9) (k := k) (nl := l9) (v := F9) (by omega) (by omega) hy1).symm.trans hRR.2
                    have hok7 := cmQ_okP hRR.1 hgr9 hy1
                    rw [← hy2] at hrs1 hok7
                    have hy3b := hy3
                    have hok8 : okPl l_74 f_75 := okPl.sim hok7 hy3.symm
                    have hrs2 := hrs1.symm
                    refine g_if_eq (tgt := 121) C (by decide) dX8_runScript_113 (by decide) (fun c9 => absurd c9 (by decide)) (fun _ => ?_)
                    refine g_bipush (a := (-9)) C dX8_runScript_116 (by decide) ?_
                    refine g_goto (tgt := 123) C dX8_runScript_118 (by decide) ?_
                    refine lv_istore (lv' := [(6, .int (iz (-9))), (4, .long (jz (gu (m9 - 1 - k)))), (0, .ref (ad 192)), (1, .int (iz m9)), (2, .long (jz sc)), (7, .int (iz k))]) C.1.1 C.1.2.1 dX8_runScript_123 hl (by decide) rfl (fun ls hl => ?_)
                    refine lv_iinc (v := iz (k + 1)) (lv' := [(7, .int (iz (k + 1))), (6, .int (iz (-9))), (4, .long (jz (gu (m9 - 1 - k)))), (0, .ref (ad 192)), (1, .int (iz m9)), (2, .long (jz sc))]) C.1.1 C.1.2.1 dX8_runScript_125 hl (k := 5) rfl (g_inc (by omega)) (by decide) rfl (fun ls hl => ?_)
                    refine g_goto (tgt := 79) C dX8_runScript_128 (by decide) ?_
                    exact ih_lp_79_n_44 (-9) (k + 1) (gu (m9 - 1 - k)) l_74 m_73 V_72 f_75 g_76 (by omega) (by omega) (by omega) (by rw [show m9 - (k + 1) = m9 - 1 - k by omega]) (fun _ => ⟨hok8, by rw [rsF_sim scG_all _ _ _ _ _ (hok7) (hy3b), ← hrs2]⟩) (fun q => absurd rfl q) (by omega) hc_78 hc_79 hc_80 (fun q q1 q2 q3 => ((hf_81 q q1 q2 q3).trans (hfr q q1 q2 q3))) hVr_82 _ _ G _ (lv_sub hl [3, 4, 5, 2, 1, 0] rfl)
                  · have hrs2 := (rsF_no (G9 := scG m9 sc) (m9 := m9) (k := k) (nl := l9) (v := F9) (by omega) (by omega) hy1).symm.trans hRR.2
                    replace hrs2 := hrs2.symm
                    refine g_if_eq (tgt := 121) C (by decide) dX8_runScript_113 (by decide) (fun _ => ?_) (fun c9 => absurd c9 (by decide))
                    refine g_iload C dX8_runScript_121 hl 5 rfl ?_
                    refine lv_istore (lv' := [(6, .int (iz k)), (4, .long (jz (gu (m9 - 1 - k)))), (0, .ref (ad 192)), (1, .int (iz m9)), (2, .long (jz sc)), (7, .int (iz k))]) C.1.1 C.1.2.1 dX8_runScript_123 hl (by decide) rfl (fun ls hl => ?_)
                    refine lv_iinc (v := iz (k + 1)) (lv' := [(7, .int (iz (k + 1))), (6, .int (iz k)), (4, .long (jz (gu (m9 - 1 - k)))), (0, .ref (ad 192)), (1, .int (iz m9)), (2, .long (jz sc))]) C.1.1 C.1.2.1 dX8_runScript_125 hl (k := 5) rfl (g_inc (by omega)) (by decide) rfl (fun ls hl => ?_)
                    refine g_goto (tgt := 79) C dX8_runScript_128 (by decide) ?_
                    exact ih_lp_79_n_44 k (k + 1) (gu (m9 - 1 - k)) l_74 m_73 V_72 f_75 g_76 (by omega) (by omega) (by omega) (by rw [show m9 - (k + 1) = m9 - 1 - k by omega]) (fun q => by exfalso; omega) (fun _ => hrs2.symm) (by omega) hc_78 hc_79 hc_80 (fun q q1 q2 q3 => ((hf_81 q q1 q2 q3).trans (hfr q q1 q2 q3))) hVr_82 _ _ G _ (lv_sub hl [3, 4, 5, 2, 1, 0] rfl)
          exact lp_79_n_44 _ (-9) 0 un0 ly mk M9 f g_33 (Nat.lt_succ_self _) (by omega) (by omega) (by rw [Int.sub_zero, hgn]) (fun _ => ⟨hok, rfl⟩) (fun q => absurd rfl q) (by omega) hc_35 hc_36 hc_37 (fun q q1 q2 q3 => rfl) hMr _ _ G _ (lv_sub hl [3, 4, 5, 2, 1, 0] rfl)
        · have hbad9 : ¬ ((1 ≤ m9 ∧ m9 ≤ 3) ∧ 0 ≤ sc ∧ sc < gu m9) := fun q => by have hgn : un0 = gu m9 := by {rw [hj_un]; exact gun_gu (by omega)}; omega
          refine g_aload_n C dX8_runScript_57 rfl hl 1 rfl ?_
          refine g_iconst (a := 1) C dX8_runScript_58 rfl ?_
          refine g_ci C G (g_runV (As := [.int (iz 1)]) (rest := []) (pos := 192) C G (c_X8_refused l κ B n ad g_1 ly 0 mk tx rl a0 wr s0 s1 rm 1 hn8 hc_3) (cwV 1 C.1.2.2.2.2 gX8_runScript_X8_refused rfl rfl rfl (by decide +kernel) ⟨Nat.le_of_ble_eq_true rfl, Nat.le_of_ble_eq_true rfl⟩) (by omega) hc_3 (T := TX8) (N := 17) rfl rfl hl rfl (Nat.le_of_ble_eq_true rfl) dX8_runScript_59 ⟨Nat.le_of_ble_eq_true rfl, Nat.le_of_ble_eq_true rfl⟩) (fun z_89 g9 H locs hw G => ?_)
          obtain ⟨hw, h_90⟩ := hw
          subst hw
          obtain ⟨g_91, hg_92⟩ : ∃ g9, g9 = va_up g_1 192 (.inr (8, [.ref (ad 193), .int (iz ly), .int (iz 1), .ref (ad 194), .int (iz mk), .ref (ad 195), .int (iz tx), .ref (ad 196), .int (iz rl), .int (iz a0), .int (iz wr), .int (iz s0), .int (iz s1), .ref (ad 197), .int (iz rm), .ref (ad 198), .ref (ad 199)])) := ⟨_, rfl⟩
          rw [← hg_92] at G
          have hc_93 : g_91 192 = .inr (8, [.ref (ad 193), .int (iz ly), .int (iz 1), .ref (ad 194), .int (iz mk), .ref (ad 195), .int (iz tx), .ref (ad 196), .int (iz rl), .int (iz a0), .int (iz wr), .int (iz s0), .int (iz s1), .ref (ad 197), .int (iz rm), .ref (ad 198), .ref (ad 199)]) := by rw [hg_92]; exact gu_self _ _ _
          have hc_94 : g_91 193 = aI κ 42 f := by rw [hg_92, gu_ne (by decide)]; exact hc_4
          have hc_95 : g_91 194 = aI κ 28896 M9 := by rw [hg_92, gu_ne (by decide)]; exact hc_5
          have hc_96 : g_91 195 = aI κ 100 X9 := by rw [hg_92, gu_ne (by decide)]; exact hc_6
          have hc_97 : g_91 196 = aI κ 42 q9 := by rw [hg_92, gu_ne (by decide)]; exact hc_7
          have hc_98 : g_91 197 = aI κ 602 pa := by rw [hg_92, gu_ne (by decide)]; exact hc_8
          have hc_99 : g_91 198 = aI κ 43 be := by rw [hg_92, gu_ne (by decide)]; exact hc_9
          have hc_100 : g_91 199 = aI κ 86 sv := by rw [hg_92, gu_ne (by decide)]; exact hc_10
          refine g_iret C G hr hlk (Nat.le_of_ble_eq_true rfl) (Nat.le_of_ble_eq_true rfl) dX8_runScript_62 ?_
          exact ⟨Or.inl ⟨hbad9, ⟨_, _, _, _, _, _, _, hc_93, hc_94, hc_95, hc_96, hc_97, hc_98, hc_99, hc_100, by omega, hMr, hinq⟩⟩, fun q hq => (((congrFun hg_92 q).trans (gu_ne (by omega))).trans ((congrFun hg_2 q).trans (gu_ne (by omega))))⟩
    · refine g_if_eq (tgt := 57) C (by decide) dX8_runScript_41 (by decide) (fun _ => ?_) (fun c9 => absurd c9 (by decide))
      have hbad9 : ¬ ((1 ≤ m9 ∧ m9 ≤ 3) ∧ 0 ≤ sc ∧ sc < gu m9) := fun q => by have hgn : un0 = gu m9 := by {rw [hj_un]; exact gun_gu (by omega)}; omega
      refine g_aload_n C dX8_runScript_57 rfl hl 1 rfl ?_
      refine g_iconst (a := 1) C dX8_runScript_58 rfl ?_
      refine g_ci C G (g_runV (As := [.int (iz 1)]) (rest := []) (pos := 192) C G (c_X8_refused l κ B n ad g_1 ly 0 mk tx rl a0 wr s0 s1 rm 1 hn8 hc_3) (cwV 1 C.1.2.2.2.2 gX8_runScript_X8_refused rfl rfl rfl (by decide +kernel) ⟨Nat.le_of_ble_eq_true rfl, Nat.le_of_ble_eq_true rfl⟩) (by omega) hc_3 (T := TX8) (N := 17) rfl rfl hl rfl (Nat.le_of_ble_eq_true rfl) dX8_runScript_59 ⟨Nat.le_of_ble_eq_true rfl, Nat.le_of_ble_eq_true rfl⟩) (fun z_101 g9 H locs hw G => ?_)
      obtain ⟨hw, h_102⟩ := hw
      subst hw
      obtain ⟨g_103, hg_104⟩ : ∃ g9, g9 = va_up g_1 192 (.inr (8, [.ref (ad 193), .int (iz ly), .int (iz 1), .ref (ad 194), .int (iz mk), .ref (ad 195), .int (iz tx), .ref (ad 196), .int (iz rl), .int (iz a0), .int (iz wr), .int (iz s0), .int (iz s1), .ref (ad 197), .int (iz rm), .ref (ad 198), .ref (ad 199)])) := ⟨_, rfl⟩
      rw [← hg_104] at G
      have hc_105 : g_103 192 = .inr (8, [.ref (ad 193), .int (iz ly), .int (iz 1), .ref (ad 194), .int (iz mk), .ref (ad 195), .int (iz tx), .ref (ad 196), .int (iz rl), .int (iz a0), .int (iz wr), .int (iz s0), .int (iz s1), .ref (ad 197), .int (iz rm), .ref (ad 198), .ref (ad 199)]) := by rw [hg_104]; exact gu_self _ _ _
      have hc_106 : g_103 193 = aI κ 42 f := by rw [hg_104, gu_ne (by decide)]; exact hc_4
      have hc_107 : g_103 194 = aI κ 28896 M9 := by rw [hg_104, gu_ne (by decide)]; exact hc_5
      have hc_108 : g_103 195 = aI κ 100 X9 := by rw [hg_104, gu_ne (by decide)]; exact hc_6
      have hc_109 : g_103 196 = aI κ 42 q9 := by rw [hg_104, gu_ne (by decide)]; exact hc_7
      have hc_110 : g_103 197 = aI κ 602 pa := by rw [hg_104, gu_ne (by decide)]; exact hc_8
      have hc_111 : g_103 198 = aI κ 43 be := by rw [hg_104, gu_ne (by decide)]; exact hc_9
      have hc_112 : g_103 199 = aI κ 86 sv := by rw [hg_104, gu_ne (by decide)]; exact hc_10
      refine g_iret C G hr hlk (Nat.le_of_ble_eq_true rfl) (Nat.le_of_ble_eq_true rfl) dX8_runScript_62 ?_
      exact ⟨Or.inl ⟨hbad9, ⟨_, _, _, _, _, _, _, hc_105, hc_106, hc_107, hc_108, hc_109, hc_110, hc_111, hc_112, by omega, hMr, hinq⟩⟩, fun q hq => (((congrFun hg_104 q).trans (gu_ne (by omega))).trans ((congrFun hg_2 q).trans (gu_ne (by omega))))⟩
  refine g_iload_n C dX8_runScript_5 rfl hl 1 rfl ?_
  refine g_iconst (a := 1) C dX8_runScript_6 rfl ?_
  refine g_icmp_ne (tgt := 16) C (by omega) (by decide) dX8_runScript_7 (by decide) (fun c_113 => ?_) (fun c_113 => ?_)
  · refine g_iload_n C dX8_runScript_16 rfl hl 1 rfl ?_
    refine g_iconst (a := 2) C dX8_runScript_17 rfl ?_
    refine g_icmp_ne (tgt := 27) C (by omega) (by decide) dX8_runScript_18 (by decide) (fun c_114 => ?_) (fun c_114 => ?_)
    · refine g_ldc2 (a := 1000000000000000) C (by decide +kernel) dX8_runScript_27 ?_
      exact jn_30_n_11 1000000000000000 (by unfold gun; rw [if_neg (by omega), if_neg (by omega)]) _ _ G _ (lv_sub hl [0, 1, 2] rfl)
    · refine g_ldc2 (a := 10000000000) C (by decide +kernel) dX8_runScript_21 ?_
      refine g_goto (tgt := 30) C dX8_runScript_24 (by decide) ?_
      exact jn_30_n_11 10000000000 (by unfold gun; rw [if_neg (by omega), if_pos (by omega)]) _ _ G _ (lv_sub hl [0, 1, 2] rfl)
  · refine g_ldc2 (a := 100000) C (by decide +kernel) dX8_runScript_10 ?_
    refine g_goto (tgt := 30) C dX8_runScript_13 (by decide) ?_
    exact jn_30_n_11 100000 (by unfold gun; rw [if_pos (by omega)]) _ _ G _ (lv_sub hl [0, 1, 2] rfl)
