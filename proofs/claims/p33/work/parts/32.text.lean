/-! ROSETTEPLATE (X7): save slots, text -/
theorem fX7_slotPlate_30 : gFld wsX7_slotPlate RX7 30 7 5 := ⟨RX7, TX7, 8, rfl, by decide, by decide +kernel, by decide +kernel⟩
set_option maxHeartbeats 4000000 in
set_option maxRecDepth 100000 in
theorem c_X7_slotPlate (l : Launch) (κ : gKap) (B n : Nat) (ad : Nat → Nat) (g : Nat → va_E) (tl : Int) (sl : Int) (hnn : 192 ≤ n) (hX : isX κ ad g tl) (hsl : inI sl) : Met l yX7_slotPlate wsX7_slotPlate ({ frames := 0, cells := 0, slots := 0, locals := 0 }) (gPre κ B n ad g [.ref (ad 0), .int (iz sl)]) (gQo κ B n ad (fun o g' => g' = g ∧ (((0 ≤ sl ∧ sl < 2) ∧ o = some (166 + 10 * (sl).toNat)) ∨ (¬ (0 ≤ sl ∧ sl < 2) ∧ o = none)))) 0 0 (gFree B) := by
  refine g_met RX7 (cc := cX7_slotPlate) (maxL := 2) (ret := (some (.object "RosettePlate$Plate"))) (by decide) rfl rfl (Nat.le_of_ble_eq_true rfl) ?_
  intro p e s m args below meth c C hr hlk hnm G ls hl
  have hl : lv_has ls 2 [(0, .ref (ad 0)), (1, .int (iz sl))] := hl
  refine g_iload_n C dX7_slotPlate_0 rfl hl 1 rfl ?_
  refine g_if_lt (tgt := 22) C (by omega) dX7_slotPlate_1 (by decide) (fun c_1 => ?_) (fun c_1 => ?_)
  · refine lv_null C.1.1 C.1.2.1 dX7_slotPlate_22 ?_
    refine g_aretN C G hr hlk (Nat.le_of_ble_eq_true rfl) (Nat.le_of_ble_eq_true rfl) dX7_slotPlate_23 ?_
    exact ⟨rfl, Or.inr ⟨by omega, rfl⟩⟩
  · refine g_iload_n C dX7_slotPlate_4 rfl hl 1 rfl ?_
    refine g_aload_n C dX7_slotPlate_5 rfl hl 0 rfl ?_
    refine g_get C G (pos := 0) fX7_slotPlate_30 (by omega) hX.1 rfl dX7_slotPlate_6 ?_
    refine g_alenPl C G (pos := 164) (by omega) hX.2 dX7_slotPlate_9 ?_
    show W p l e _ s m args below meth c _ _ _ _ _ (F0 m _ ls (.int (iz 2) :: _))
    refine g_icmp_ge (tgt := 22) C (by omega) (by decide) dX7_slotPlate_10 (by decide) (fun c_2 => ?_) (fun c_2 => ?_)
    · refine lv_null C.1.1 C.1.2.1 dX7_slotPlate_22 ?_
      refine g_aretN C G hr hlk (Nat.le_of_ble_eq_true rfl) (Nat.le_of_ble_eq_true rfl) dX7_slotPlate_23 ?_
      exact ⟨rfl, Or.inr ⟨by omega, rfl⟩⟩
    · refine g_aload_n C dX7_slotPlate_13 rfl hl 0 rfl ?_
      refine g_get C G (pos := 0) fX7_slotPlate_30 (by omega) hX.1 rfl dX7_slotPlate_14 ?_
      refine g_iload_n C dX7_slotPlate_17 rfl hl 1 rfl ?_
      refine g_aaloadPl C G (pos := 164) (by omega) hX.2 (by omega) (by omega) (by omega) (if_pos (by omega)) dX7_slotPlate_18 ?_
      refine g_goto (tgt := 23) C dX7_slotPlate_19 (by decide) ?_
      refine g_aret C G hr hlk (Nat.le_of_ble_eq_true rfl) (Nat.le_of_ble_eq_true rfl) dX7_slotPlate_23 ?_
      exact ⟨rfl, Or.inl ⟨by omega, rfl⟩⟩
theorem fX7_save_34 : gFld wsX7_save RX7 34 7 6 := ⟨RX7, TX7, 8, rfl, by decide, by decide +kernel, by decide +kernel⟩
theorem fX7_save_16 : gFld wsX7_save RX7 16 7 2 := ⟨RX7, TX7, 8, rfl, by decide, by decide +kernel, by decide +kernel⟩
theorem fX7_save_74 : gFld wsX7_save RX7 74 4 1 := ⟨RX4, TX4, 6, rfl, by decide, by decide +kernel, by decide +kernel⟩
set_option maxHeartbeats 4000000 in
set_option maxRecDepth 100000 in
theorem c_X7_save (l : Launch) (hlf : l.stackTraces = false) (κ : gKap) (B n : Nat) (ad : Nat → Nat) (g : Nat → va_E) (tl : Int) (nl : Int) (v : Int → Int) (F9 : Int → Int) (m0 : Int) (w0 : Int → Int) (m1 : Int) (w1 : Int → Int) (sl : Int) (hnn : 192 ≤ n) (hX : isX κ ad g tl) (hpl : isPl κ ad g 2 nl v) (hok : okPl nl v) (hin : inV v) (hF : g 165 = aZ κ 2 F9) (hp0 : isPl κ ad g 166 m0 w0) (hin0 : inV w0) (hp1 : isPl κ ad g 176 m1 w1) (hin1 : inV w1) (hsl : inI sl) : vx_Met l yX7_save wsX7_save ({ frames := 6, cells := 1, slots := 6, locals := 82 }) (gPreX κ B n ad g [.ref (ad 0), .int (iz sl)]) (gQi κ B n ad (fun z g' => (0 ≤ sl ∧ sl < 2) ∧ z = nl ∧ ∃ U9, isPl κ ad g' (166 + 10 * (sl).toNat) nl U9 ∧ sim nl U9 v ∧ inV U9 ∧ g' 165 = aZ κ 2 (vu F9 sl 1) ∧ ∀ q, q ≠ 165 → (q < 166 + 10 * (sl).toNat ∨ 166 + 10 * (sl).toNat + 10 ≤ q) → g' q = g q)) (gXX κ B n ad (fun E g9 => (E = "java/lang/IndexOutOfBoundsException" ∧ (¬ (0 ≤ sl ∧ sl < 2)) ∧ g9 = g))) 1 6 (gFree B) := by
  refine g_metX RX7 (cc := cX7_save) (maxL := 3) (ret := (some .int)) (by decide) rfl rfl (Nat.le_of_ble_eq_true rfl) ?_
  intro p e s m args below meth c C hr hlk hnt X G ls hl
  have hl : lv_has ls 3 [(0, .ref (ad 0)), (1, .int (iz sl))] := hl
  obtain ⟨hn6, hv0, hv25, hlay, hsee⟩ := id hok
  refine g_aload_n C dX7_save_0 rfl hl 0 rfl ?_
  refine g_iload_n C dX7_save_1 rfl hl 1 rfl ?_
  refine g_co C G (g_runV (As := [.int (iz sl)]) (rest := []) (pos := 0) C G (c_X7_slotPlate l κ B n ad g tl sl hnn ⟨hX.1, hX.2⟩ (by omega)) (cwV 1 C.1.2.2.2.2 gX7_save_X7_slotPlate rfl rfl rfl (by decide +kernel) ⟨Nat.le_of_ble_eq_true rfl, Nat.le_of_ble_eq_true rfl⟩) (by omega) hX.1 (T := TX7) (N := 8) rfl rfl hl rfl (Nat.le_of_ble_eq_true rfl) dX7_save_2 ⟨Nat.le_of_ble_eq_true rfl, Nat.le_of_ble_eq_true rfl⟩) (fun q_1 g9 H locs hw G => ?_) (fun g9 H locs hw G => ?_)
  · obtain ⟨hg9, ⟨b_2, hw⟩ | ⟨b_2, hw⟩⟩ := hw
    all_goals replace hg9 := hg9.symm
    all_goals subst hg9
    · cases hw
      by_cases e_3 : sl = 0
      · rw [show 166 + 10 * (sl).toNat = 166 by omega]
        refine lv_astore_n (lv' := [(2, .ref (ad 166)), (0, .ref (ad 0)), (1, .int (iz sl))]) C.1.1 C.1.2.1 dX7_save_5 rfl hl (by decide) rfl (fun ls hl => ?_)
        refine g_aload_n C dX7_save_6 rfl hl 0 rfl ?_
        refine lv_ifnull C.1.1 C.1.2.1 dX7_save_7 ?_
        refine g_iload_n C dX7_save_10 rfl hl 2 rfl ?_
        refine g_if_lt (tgt := 23) C (by omega) dX7_save_11 (by decide) (fun c_4 => ?_) (fun c_4 => ?_)
        · refine g_throwW C G X hlf hlk hnt hl (cls := "java/lang/IndexOutOfBoundsException") (text := "no such save slot") (ik := 116) (is := 339) (ic := 120) (by decide +kernel) (by decide +kernel : Cond.classLink RX7 116 _ ∈ wsX7_save) (by decide +kernel : Cond.initialized _ ∈ wsX7_save) (by decide +kernel) (by decide +kernel) (by decide +kernel) at_ioe (by decide +kernel) dX7_save_23 dX7_save_26 dX7_save_27 dX7_save_30 dX7_save_33 (Nat.le_of_ble_eq_true rfl) (Nat.le_of_ble_eq_true rfl) (Nat.le_of_ble_eq_true rfl) (Nat.le_of_ble_eq_true rfl) (Nat.le_of_ble_eq_true rfl) (Nat.le_of_ble_eq_true rfl) ?_
          exact ⟨rfl, by omega, rfl⟩
        · refine g_iload_n C dX7_save_14 rfl hl 2 rfl ?_
          refine g_aload_n C dX7_save_15 rfl hl 1 rfl ?_
          refine g_get C G (pos := 0) fX7_save_34 (by omega) hX.1 rfl dX7_save_16 ?_
          refine g_alenZ C G (pos := 165) (by omega) hF dX7_save_19 ?_
          show W p l e _ s m args below meth c _ _ _ _ _ (F0 m _ ls (.int (iz 2) :: _))
          refine g_icmp_lt (tgt := 34) C (by omega) (by decide) dX7_save_20 (by decide) (fun c_5 => ?_) (fun c_5 => ?_)
          · refine g_aload_n C dX7_save_34 rfl hl 0 rfl ?_
            refine g_aload_n C dX7_save_35 rfl hl 1 rfl ?_
            refine g_get C G (pos := 0) fX7_save_16 (by omega) hX.1 rfl dX7_save_36 ?_
            refine g_cv C G (g_runV (As := [.ref (ad 2)]) (rest := []) (pos := 166) C G (c_X4_become l κ B n ad g 166 m0 w0 2 nl v (by omega) hp0 (by omega) hpl (by omega) hn6 hv25 hin0 hin) (cwV 1 C.1.2.2.2.2 gX7_save_X4_become rfl rfl rfl (by decide +kernel) ⟨Nat.le_of_ble_eq_true rfl, Nat.le_of_ble_eq_true rfl⟩) (by omega) hp0.1 (T := TX4) (N := 6) rfl rfl hl rfl (Nat.le_of_ble_eq_true rfl) dX7_save_39 ⟨Nat.le_of_ble_eq_true rfl, Nat.le_of_ble_eq_true rfl⟩) (fun g_6 H locs hw9 G => ?_)
            obtain ⟨v_10, hpl_7, hfr_8, hx_9⟩ := hw9
            have hc_11 : g_6 0 = .inr (7, [.ref (ad 1), .int (iz tl), .ref (ad 2), .ref (ad 12), .ref (ad 22), .ref (ad 164), .ref (ad 165), .ref (ad 186)]) := (hfr_8 _ (by omega)).trans hX.1
            have hc_12 : g_6 164 = aPl κ 2 (fun j => if j < 2 then some (ad (166 + 10 * j)) else none) := (hfr_8 _ (by omega)).trans hX.2
            have hc_13 : g_6 165 = aZ κ 2 F9 := (hfr_8 _ (by omega)).trans hF
            have hpl_14 : isPl κ ad g_6 2 nl v := hpl.far (fun _ _ _ => hfr_8 _ (by omega))
            have hpl_15 : isPl κ ad g_6 176 m1 w1 := hp1.far (fun _ _ _ => hfr_8 _ (by omega))
            refine g_aload_n C dX7_save_42 rfl hl 1 rfl ?_
            refine g_get C G (pos := 0) fX7_save_34 (by omega) hc_11 rfl dX7_save_43 ?_
            refine g_iload_n C dX7_save_46 rfl hl 2 rfl ?_
            refine g_iconst (a := 1) C dX7_save_47 rfl ?_
            refine g_bastore C G (pos := 165) (by omega) hc_13 (by omega) (by omega) (by omega) (by decide) dX7_save_48 (fun H locs G => ?_)
            obtain ⟨g_16, hg_17⟩ : ∃ g9, g9 = va_up g_6 165 (aZ κ 2 (vu F9 sl 1)) := ⟨_, rfl⟩
            rw [← hg_17] at G
            have hc_18 : g_16 0 = .inr (7, [.ref (ad 1), .int (iz tl), .ref (ad 2), .ref (ad 12), .ref (ad 22), .ref (ad 164), .ref (ad 165), .ref (ad 186)]) := by rw [hg_17, gu_ne (by decide)]; exact hc_11
            have hc_19 : g_16 164 = aPl κ 2 (fun j => if j < 2 then some (ad (166 + 10 * j)) else none) := by rw [hg_17, gu_ne (by decide)]; exact hc_12
            have hc_20 : g_16 165 = aZ κ 2 (vu F9 sl 1) := by rw [hg_17]; exact gu_self _ _ _
            have hpl_21 : isPl κ ad g_16 2 nl v := by rw [hg_17]; exact hpl_14.out (by omega)
            have hpl_22 : isPl κ ad g_16 166 nl v_10 := by rw [hg_17]; exact hpl_7.out (by omega)
            have hpl_23 : isPl κ ad g_16 176 m1 w1 := by rw [hg_17]; exact hpl_15.out (by omega)
            refine g_aload_n C dX7_save_49 rfl hl 1 rfl ?_
            refine g_get C G (pos := 0) fX7_save_16 (by omega) hc_18 rfl dX7_save_50 ?_
            refine g_get C G (pos := 2) fX7_save_74 (by omega) hpl_21.1 rfl dX7_save_53 ?_
            refine vx_ret ?_
            refine g_iret C G hr hlk (Nat.le_of_ble_eq_true rfl) (Nat.le_of_ble_eq_true rfl) dX7_save_56 ?_
            exact ⟨by omega, rfl, v_10, hpl_22, hx_9.1, hx_9.2, hc_20, fun q q1 q2 => by
                rw [hg_17, gu_ne (by omega)]
                refine (hfr_8 _ (by omega)).trans ?_
                try rfl⟩
          · refine g_throwW C G X hlf hlk hnt hl (cls := "java/lang/IndexOutOfBoundsException") (text := "no such save slot") (ik := 116) (is := 339) (ic := 120) (by decide +kernel) (by decide +kernel : Cond.classLink RX7 116 _ ∈ wsX7_save) (by decide +kernel : Cond.initialized _ ∈ wsX7_save) (by decide +kernel) (by decide +kernel) (by decide +kernel) at_ioe (by decide +kernel) dX7_save_23 dX7_save_26 dX7_save_27 dX7_save_30 dX7_save_33 (Nat.le_of_ble_eq_true rfl) (Nat.le_of_ble_eq_true rfl) (Nat.le_of_ble_eq_true rfl) (Nat.le_of_ble_eq_true rfl) (Nat.le_of_ble_eq_true rfl) (Nat.le_of_ble_eq_true rfl) ?_
            exact ⟨rfl, by omega, rfl⟩
      · replace e_3 : sl = 1 := by omega
        rw [show 166 + 10 * (sl).toNat = 176 by omega]
        refine lv_astore_n (lv' := [(2, .ref (ad 176)), (0, .ref (ad 0)), (1, .int (iz sl))]) C.1.1 C.1.2.1 dX7_save_5 rfl hl (by decide) rfl (fun ls hl => ?_)
        refine g_aload_n C dX7_save_6 rfl hl 0 rfl ?_
        refine lv_ifnull C.1.1 C.1.2.1 dX7_save_7 ?_
        refine g_iload_n C dX7_save_10 rfl hl 2 rfl ?_
        refine g_if_lt (tgt := 23) C (by omega) dX7_save_11 (by decide) (fun c_24 => ?_) (fun c_24 => ?_)
        · refine g_throwW C G X hlf hlk hnt hl (cls := "java/lang/IndexOutOfBoundsException") (text := "no such save slot") (ik := 116) (is := 339) (ic := 120) (by decide +kernel) (by decide +kernel : Cond.classLink RX7 116 _ ∈ wsX7_save) (by decide +kernel : Cond.initialized _ ∈ wsX7_save) (by decide +kernel) (by decide +kernel) (by decide +kernel) at_ioe (by decide +kernel) dX7_save_23 dX7_save_26 dX7_save_27 dX7_save_30 dX7_save_33 (Nat.le_of_ble_eq_true rfl) (Nat.le_of_ble_eq_true rfl) (Nat.le_of_ble_eq_true rfl) (Nat.le_of_ble_eq_true rfl) (Nat.le_of_ble_eq_true rfl) (Nat.le_of_ble_eq_true rfl) ?_
          exact ⟨rfl, by omega, rfl⟩
        · refine g_iload_n C dX7_save_14 rfl hl 2 rfl ?_
          refine g_aload_n C dX7_save_15 rfl hl 1 rfl ?_
          refine g_get C G (pos := 0) fX7_save_34 (by omega) hX.1 rfl dX7_save_16 ?_
          refine g_alenZ C G (pos := 165) (by omega) hF dX7_save_19 ?_
          show W p l e _ s m args below meth c _ _ _ _ _ (F0 m _ ls (.int (iz 2) :: _))
          refine g_icmp_lt (tgt := 34) C (by omega) (by decide) dX7_save_20 (by decide) (fun c_25 => ?_) (fun c_25 => ?_)
          · refine g_aload_n C dX7_save_34 rfl hl 0 rfl ?_
            refine g_aload_n C dX7_save_35 rfl hl 1 rfl ?_
            refine g_get C G (pos := 0) fX7_save_16 (by omega) hX.1 rfl dX7_save_36 ?_
            refine g_cv C G (g_runV (As := [.ref (ad 2)]) (rest := []) (pos := 176) C G (c_X4_become l κ B n ad g 176 m1 w1 2 nl v (by omega) hp1 (by omega) hpl (by omega) hn6 hv25 hin1 hin) (cwV 1 C.1.2.2.2.2 gX7_save_X4_become rfl rfl rfl (by decide +kernel) ⟨Nat.le_of_ble_eq_true rfl, Nat.le_of_ble_eq_true rfl⟩) (by omega) hp1.1 (T := TX4) (N := 6) rfl rfl hl rfl (Nat.le_of_ble_eq_true rfl) dX7_save_39 ⟨Nat.le_of_ble_eq_true rfl, Nat.le_of_ble_eq_true rfl⟩) (fun g_26 H locs hw9 G => ?_)
            obtain ⟨v_30, hpl_27, hfr_28, hx_29⟩ := hw9
            have hc_31 : g_26 0 = .inr (7, [.ref (ad 1), .int (iz tl), .ref (ad 2), .ref (ad 12), .ref (ad 22), .ref (ad 164), .ref (ad 165), .ref (ad 186)]) := (hfr_28 _ (by omega)).trans hX.1
            have hc_32 : g_26 164 = aPl κ 2 (fun j => if j < 2 then some (ad (166 + 10 * j)) else none) := (hfr_28 _ (by omega)).trans hX.2
            have hc_33 : g_26 165 = aZ κ 2 F9 := (hfr_28 _ (by omega)).trans hF
            have hpl_34 : isPl κ ad g_26 2 nl v := hpl.far (fun _ _ _ => hfr_28 _ (by omega))
            have hpl_35 : isPl κ ad g_26 166 m0 w0 := hp0.far (fun _ _ _ => hfr_28 _ (by omega))
            refine g_aload_n C dX7_save_42 rfl hl 1 rfl ?_
            refine g_get C G (pos := 0) fX7_save_34 (by omega) hc_31 rfl dX7_save_43 ?_
            refine g_iload_n C dX7_save_46 rfl hl 2 rfl ?_
            refine g_iconst (a := 1) C dX7_save_47 rfl ?_
            refine g_bastore C G (pos := 165) (by omega) hc_33 (by omega) (by omega) (by omega) (by decide) dX7_save_48 (fun H locs G => ?_)
            obtain ⟨g_36, hg_37⟩ : ∃ g9, g9 = va_up g_26 165 (aZ κ 2 (vu F9 sl 1)) := ⟨_, rfl⟩
            rw [← hg_37] at G
            have hc_38 : g_36 0 = .inr (7, [.ref (ad 1), .int (iz tl), .ref (ad 2), .ref (ad 12), .ref (ad 22), .ref (ad 164), .ref (ad 165), .ref (ad 186)]) := by rw [hg_37, gu_ne (by decide)]; exact hc_31
            have hc_39 : g_36 164 = aPl κ 2 (fun j => if j < 2 then some (ad (166 + 10 * j)) else none) := by rw [hg_37, gu_ne (by decide)]; exact hc_32
            have hc_40 : g_36 165 = aZ κ 2 (vu F9 sl 1) := by rw [hg_37]; exact gu_self _ _ _
            have hpl_41 : isPl κ ad g_36 2 nl v := by rw [hg_37]; exact hpl_34.out (by omega)
            have hpl_42 : isPl κ ad g_36 166 m0 w0 := by rw [hg_37]; exact hpl_35.out (by omega)
            have hpl_43 : isPl κ ad g_36 176 nl v_30 := by rw [hg_37]; exact hpl_27.out (by omega)
            refine g_aload_n C dX7_save_49 rfl hl 1 rfl ?_
            refine g_get C G (pos := 0) fX7_save_16 (by omega) hc_38 rfl dX7_save_50 ?_
            refine g_get C G (pos := 2) fX7_save_74 (by omega) hpl_41.1 rfl dX7_save_53 ?_
            refine vx_ret ?_
            refine g_iret C G hr hlk (Nat.le_of_ble_eq_true rfl) (Nat.le_of_ble_eq_true rfl) dX7_save_56 ?_
            exact ⟨by omega, rfl, v_30, hpl_43, hx_29.1, hx_29.2, hc_40, fun q q1 q2 => by
                rw [hg_37, gu_ne (by omega)]
                refine (hfr_28 _ (by omega)).trans ?_
                try rfl⟩
          · refine g_throwW C G X hlf hlk hnt hl (cls := "java/lang/IndexOutOfBoundsException") (text := "no such save slot") (ik := 116) (is := 339) (ic := 120) (by decide +kernel) (by decide +kernel : Cond.classLink RX7 116 _ ∈ wsX7_save) (by decide +kernel : Cond.initialized _ ∈ wsX7_save) (by decide +kernel) (by decide +kernel) (by decide +kernel) at_ioe (by decide +kernel) dX7_save_23 dX7_save_26 dX7_save_27 dX7_save_30 dX7_save_33 (Nat.le_of_ble_eq_true rfl) (Nat.le_of_ble_eq_true rfl) (Nat.le_of_ble_eq_true rfl) (Nat.le_of_ble_eq_true rfl) (Nat.le_of_ble_eq_true rfl) (Nat.le_of_ble_eq_true rfl) ?_
            exact ⟨rfl, by omega, rfl⟩
    · cases hw
  · obtain ⟨hg9, ⟨b_2, hw⟩ | ⟨b_2, hw⟩⟩ := hw
    all_goals replace hg9 := hg9.symm
    all_goals subst hg9
    · cases hw
    · refine lv_astore_nN (lv' := [(2, .null), (0, .ref (ad 0)), (1, .int (iz sl))]) C.1.1 C.1.2.1 dX7_save_5 rfl hl (by decide) rfl (fun ls hl => ?_)
      refine lv_aload_nN C.1.1 C.1.2.1 dX7_save_6 rfl (lv_at hl 0 rfl) ?_
      refine lv_ifnullN (tgt := 23) C.1.1 C.1.2.1 dX7_save_7 (by decide) ?_
      refine g_throwW C G X hlf hlk hnt hl (cls := "java/lang/IndexOutOfBoundsException") (text := "no such save slot") (ik := 116) (is := 339) (ic := 120) (by decide +kernel) (by decide +kernel : Cond.classLink RX7 116 _ ∈ wsX7_save) (by decide +kernel : Cond.initialized _ ∈ wsX7_save) (by decide +kernel) (by decide +kernel) (by decide +kernel) at_ioe (by decide +kernel) dX7_save_23 dX7_save_26 dX7_save_27 dX7_save_30 dX7_save_33 (Nat.le_of_ble_eq_true rfl) (Nat.le_of_ble_eq_true rfl) (Nat.le_of_ble_eq_true rfl) (Nat.le_of_ble_eq_true rfl) (Nat.le_of_ble_eq_true rfl) (Nat.le_of_ble_eq_true rfl) ?_
      exact ⟨rfl, by omega, rfl⟩
theorem fX7_restore_34 : gFld wsX7_restore RX7 34 7 6 := ⟨RX7, TX7, 8, rfl, by decide, by decide +kernel, by decide +kernel⟩
theorem fX7_restore_16 : gFld wsX7_restore RX7 16 7 2 := ⟨RX7, TX7, 8, rfl, by decide, by decide +kernel, by decide +kernel⟩
theorem fX7_restore_26 : gFld wsX7_restore RX7 26 7 4 := ⟨RX7, TX7, 8, rfl, by decide, by decide +kernel, by decide +kernel⟩
theorem fX7_restore_74 : gFld wsX7_restore RX7 74 4 1 := ⟨RX4, TX4, 6, rfl, by decide, by decide +kernel, by decide +kernel⟩
set_option maxHeartbeats 4000000 in
set_option maxRecDepth 100000 in
theorem c_X7_restore (l : Launch) (hlf : l.stackTraces = false) (κ : gKap) (B n : Nat) (ad : Nat → Nat) (g : Nat → va_E) (tl : Int) (nl : Int) (v : Int → Int) (old : Int) (cnt : Int) (P9 : Nat → Int × (Int → Int)) (F9 : Int → Int) (m0 : Int) (w0 : Int → Int) (m1 : Int) (w1 : Int → Int) (sl : Int) (hnn : 192 ≤ n) (hX : isX κ ad g tl) (hpl : isPl κ ad g 2 nl v) (hok : okPl nl v) (hin : inV v) (hhi : isHi κ ad g 22 old cnt P9) (hol : 0 ≤ old ∧ old < 14) (hct : 0 ≤ cnt ∧ cnt ≤ 14) (hinP : ∀ j : Nat, j < 14 → inV (P9 j).2) (hF : g 165 = aZ κ 2 F9) (hp0 : isPl κ ad g 166 m0 w0) (hin0 : inV w0) (hp1 : isPl κ ad g 176 m1 w1) (hin1 : inV w1) (hsl : inI sl) (hF01 : ∀ i, 0 ≤ i → i < 2 → F9 i = 0 ∨ F9 i = 1) (hs0 : F9 0 = 1 → okPl m0 w0) (hs1 : F9 1 = 1 → okPl m1 w1) : vx_Met l yX7_restore wsX7_restore ({ frames := 6, cells := 1, slots := 6, locals := 82 }) (gPreX κ B n ad g [.ref (ad 0), .int (iz sl)]) (gQi κ B n ad (fun z g' => (0 ≤ sl ∧ sl < 2) ∧ F9 sl = 1 ∧ ∃ mm ww U9, ((sl = 0 ∧ mm = m0 ∧ ww = w0) ∨ (sl = 1 ∧ mm = m1 ∧ ww = w1)) ∧ z = mm ∧ isPl κ ad g' 2 mm U9 ∧ sim mm U9 ww ∧ inV U9 ∧ isHi κ ad g' 22 0 0 P9 ∧ ∀ q, q ≠ 22 → (q < 2 ∨ 12 ≤ q) → g' q = g q)) (gXX κ B n ad (fun E g9 => (E = "java/lang/IndexOutOfBoundsException" ∧ (¬ (0 ≤ sl ∧ sl < 2)) ∧ g9 = g) ∨ (E = "java/lang/IllegalStateException" ∧ ((0 ≤ sl ∧ sl < 2) ∧ F9 sl = 0) ∧ g9 = g))) 1 6 (gFree B) := by
  refine g_metX RX7 (cc := cX7_restore) (maxL := 3) (ret := (some .int)) (by decide) rfl rfl (Nat.le_of_ble_eq_true rfl) ?_
  intro p e s m args below meth c C hr hlk hnt X G ls hl
  have hl : lv_has ls 3 [(0, .ref (ad 0)), (1, .int (iz sl))] := hl
  obtain ⟨hn6, hv0, hv25, hlay, hsee⟩ := id hok
  refine g_aload_n C dX7_restore_0 rfl hl 0 rfl ?_
  refine g_iload_n C dX7_restore_1 rfl hl 1 rfl ?_
  refine g_co C G (g_runV (As := [.int (iz sl)]) (rest := []) (pos := 0) C G (c_X7_slotPlate l κ B n ad g tl sl hnn ⟨hX.1, hX.2⟩ (by omega)) (cwV 1 C.1.2.2.2.2 gX7_restore_X7_slotPlate rfl rfl rfl (by decide +kernel) ⟨Nat.le_of_ble_eq_true rfl, Nat.le_of_ble_eq_true rfl⟩) (by omega) hX.1 (T := TX7) (N := 8) rfl rfl hl rfl (Nat.le_of_ble_eq_true rfl) dX7_restore_2 ⟨Nat.le_of_ble_eq_true rfl, Nat.le_of_ble_eq_true rfl⟩) (fun q_1 g9 H locs hw G => ?_) (fun g9 H locs hw G => ?_)
  · obtain ⟨hg9, ⟨b_2, hw⟩ | ⟨b_2, hw⟩⟩ := hw
    all_goals replace hg9 := hg9.symm
    all_goals subst hg9
    · cases hw
      by_cases e_3 : sl = 0
      · rw [show 166 + 10 * (sl).toNat = 166 by omega]
        refine lv_astore_n (lv' := [(2, .ref (ad 166)), (0, .ref (ad 0)), (1, .int (iz sl))]) C.1.1 C.1.2.1 dX7_restore_5 rfl hl (by decide) rfl (fun ls hl => ?_)
        refine g_aload_n C dX7_restore_6 rfl hl 0 rfl ?_
        refine lv_ifnull C.1.1 C.1.2.1 dX7_restore_7 ?_
        refine g_iload_n C dX7_restore_10 rfl hl 2 rfl ?_
        refine g_if_lt (tgt := 23) C (by omega) dX7_restore_11 (by decide) (fun c_4 => ?_) (fun c_4 => ?_)
        · refine g_throwW C G X hlf hlk hnt hl (cls := "java/lang/IndexOutOfBoundsException") (text := "no such save slot") (ik := 116) (is := 339) (ic := 120) (by decide +kernel) (by decide +kernel : Cond.classLink RX7 116 _ ∈ wsX7_restore) (by decide +kernel : Cond.initialized _ ∈ wsX7_restore) (by decide +kernel) (by decide +kernel) (by decide +kernel) at_ioe (by decide +kernel) dX7_restore_23 dX7_restore_26 dX7_restore_27 dX7_restore_30 dX7_restore_33 (Nat.le_of_ble_eq_true rfl) (Nat.le_of_ble_eq_true rfl) (Nat.le_of_ble_eq_true rfl) (Nat.le_of_ble_eq_true rfl) (Nat.le_of_ble_eq_true rfl) (Nat.le_of_ble_eq_true rfl) ?_
          exact Or.inl ⟨rfl, by omega, rfl⟩
        · refine g_iload_n C dX7_restore_14 rfl hl 2 rfl ?_
          refine g_aload_n C dX7_restore_15 rfl hl 1 rfl ?_
          refine g_get C G (pos := 0) fX7_restore_34 (by omega) hX.1 rfl dX7_restore_16 ?_
          refine g_alenZ C G (pos := 165) (by omega) hF dX7_restore_19 ?_
          show W p l e _ s m args below meth c _ _ _ _ _ (F0 m _ ls (.int (iz 2) :: _))
          refine g_icmp_lt (tgt := 34) C (by omega) (by decide) dX7_restore_20 (by decide) (fun c_5 => ?_) (fun c_5 => ?_)
          · refine g_aload_n C dX7_restore_34 rfl hl 1 rfl ?_
            refine g_get C G (pos := 0) fX7_restore_34 (by omega) hX.1 rfl dX7_restore_35 ?_
            refine g_iload_n C dX7_restore_38 rfl hl 2 rfl ?_
            refine g_baload C G (pos := 165) (by omega) hF (by omega) (by omega) (by omega) dX7_restore_39 ?_
            have hfv := hF01 sl (by omega) (by omega)
            refine g_if_ne (tgt := 54) C (by omega) dX7_restore_40 (by decide) (fun c_6 => ?_) (fun c_6 => ?_)
            · refine g_aload_n C dX7_restore_54 rfl hl 1 rfl ?_
              refine g_get C G (pos := 0) fX7_restore_16 (by omega) hX.1 rfl dX7_restore_55 ?_
              refine g_aload_n C dX7_restore_58 rfl hl 0 rfl ?_
              have hsk := hs0 (by rw [← e_3]; omega)
              refine g_cv C G (g_runV (As := [.ref (ad 166)]) (rest := []) (pos := 2) C G (c_X4_become l κ B n ad g 2 nl v 166 m0 w0 (by omega) hpl (by omega) hp0 (by omega) hsk.1 hsk.2.2.1 hin hin0) (cwV 1 C.1.2.2.2.2 gX7_restore_X4_become rfl rfl rfl (by decide +kernel) ⟨Nat.le_of_ble_eq_true rfl, Nat.le_of_ble_eq_true rfl⟩) (by omega) hpl.1 (T := TX4) (N := 6) rfl rfl hl rfl (Nat.le_of_ble_eq_true rfl) dX7_restore_59 ⟨Nat.le_of_ble_eq_true rfl, Nat.le_of_ble_eq_true rfl⟩) (fun g_7 H locs hw9 G => ?_)
              obtain ⟨v_11, hpl_8, hfr_9, hx_10⟩ := hw9
              have hc_12 : g_7 0 = .inr (7, [.ref (ad 1), .int (iz tl), .ref (ad 2), .ref (ad 12), .ref (ad 22), .ref (ad 164), .ref (ad 165), .ref (ad 186)]) := (hfr_9 _ (by omega)).trans hX.1
              have hc_13 : g_7 164 = aPl κ 2 (fun j => if j < 2 then some (ad (166 + 10 * j)) else none) := (hfr_9 _ (by omega)).trans hX.2
              have hc_14 : g_7 165 = aZ κ 2 F9 := (hfr_9 _ (by omega)).trans hF
              have hpl_15 : isPl κ ad g_7 166 m0 w0 := hp0.far (fun _ _ _ => hfr_9 _ (by omega))
              have hpl_16 : isPl κ ad g_7 176 m1 w1 := hp1.far (fun _ _ _ => hfr_9 _ (by omega))
              have hhi_17 : isHi κ ad g_7 22 old cnt P9 := hhi.far (fun q q0 q1 => hfr_9 _ (by omega))
              refine g_aload_n C dX7_restore_62 rfl hl 1 rfl ?_
              refine g_get C G (pos := 0) fX7_restore_26 (by omega) hc_12 rfl dX7_restore_63 ?_
              refine g_cv C G (g_runV (As := []) (rest := []) (pos := 22) C G (c_X2_forgetAll l κ B n ad g_7 22 old cnt P9 (by omega) hhi_17 hol hct) (cwV 0 C.1.2.2.2.2 gX7_restore_X2_forgetAll rfl rfl rfl (by decide +kernel) ⟨Nat.le_of_ble_eq_true rfl, Nat.le_of_ble_eq_true rfl⟩) (by omega) hhi_17.1 (T := TX2) (N := 3) rfl rfl hl rfl (Nat.le_of_ble_eq_true rfl) dX7_restore_66 ⟨Nat.le_of_ble_eq_true rfl, Nat.le_of_ble_eq_true rfl⟩) (fun g_20 H locs hw9 G => ?_)
              obtain ⟨hH_18, hF_19⟩ := hw9
              have hc_21 : g_20 0 = .inr (7, [.ref (ad 1), .int (iz tl), .ref (ad 2), .ref (ad 12), .ref (ad 22), .ref (ad 164), .ref (ad 165), .ref (ad 186)]) := (hF_19 _ (by omega)).trans hc_12
              have hc_22 : g_20 164 = aPl κ 2 (fun j => if j < 2 then some (ad (166 + 10 * j)) else none) := (hF_19 _ (by omega)).trans hc_13
              have hc_23 : g_20 165 = aZ κ 2 F9 := (hF_19 _ (by omega)).trans hc_14
              have hpl_24 : isPl κ ad g_20 2 m0 v_11 := hpl_8.far (fun q q0 q1 => hF_19 _ (by omega))
              have hpl_25 : isPl κ ad g_20 166 m0 w0 := hpl_15.far (fun q q0 q1 => hF_19 _ (by omega))
              have hpl_26 : isPl κ ad g_20 176 m1 w1 := hpl_16.far (fun q q0 q1 => hF_19 _ (by omega))
              refine g_aload_n C dX7_restore_69 rfl hl 1 rfl ?_
              refine g_get C G (pos := 0) fX7_restore_16 (by omega) hc_21 rfl dX7_restore_70 ?_
              refine g_get C G (pos := 2) fX7_restore_74 (by omega) hpl_24.1 rfl dX7_restore_73 ?_
              refine vx_ret ?_
              refine g_iret C G hr hlk (Nat.le_of_ble_eq_true rfl) (Nat.le_of_ble_eq_true rfl) dX7_restore_76 ?_
              exact ⟨by omega, by omega, m0, w0, v_11, Or.inl ⟨e_3, rfl, rfl⟩, rfl, hpl_24, hx_10.1, hx_10.2, hH_18, fun q q1 q2 => by
                  refine (hF_19 _ (by omega)).trans ?_
                  refine (hfr_9 _ (by omega)).trans ?_
                  try rfl⟩
            · refine g_throwW C G X hlf hlk hnt hl (cls := "java/lang/IllegalStateException") (text := "nothing is saved in this slot") (ik := 56) (is := 341) (ic := 60) (by decide +kernel) (by decide +kernel : Cond.classLink RX7 56 _ ∈ wsX7_restore) (by decide +kernel : Cond.initialized _ ∈ wsX7_restore) (by decide +kernel) (by decide +kernel) (by decide +kernel) at_ise (by decide +kernel) dX7_restore_43 dX7_restore_46 dX7_restore_47 dX7_restore_50 dX7_restore_53 (Nat.le_of_ble_eq_true rfl) (Nat.le_of_ble_eq_true rfl) (Nat.le_of_ble_eq_true rfl) (Nat.le_of_ble_eq_true rfl) (Nat.le_of_ble_eq_true rfl) (Nat.le_of_ble_eq_true rfl) ?_
              exact Or.inr (⟨rfl, by omega, rfl⟩)
          · refine g_throwW C G X hlf hlk hnt hl (cls := "java/lang/IndexOutOfBoundsException") (text := "no such save slot") (ik := 116) (is := 339) (ic := 120) (by decide +kernel) (by decide +kernel : Cond.classLink RX7 116 _ ∈ wsX7_restore) (by decide +kernel : Cond.initialized _ ∈ wsX7_restore) (by decide +kernel) (by decide +kernel) (by decide +kernel) at_ioe (by decide +kernel) dX7_restore_23 dX7_restore_26 dX7_restore_27 dX7_restore_30 dX7_restore_33 (Nat.le_of_ble_eq_true rfl) (Nat.le_of_ble_eq_true rfl) (Nat.le_of_ble_eq_true rfl) (Nat.le_of_ble_eq_true rfl) (Nat.le_of_ble_eq_true rfl) (Nat.le_of_ble_eq_true rfl) ?_
            exact Or.inl ⟨rfl, by omega, rfl⟩
      · replace e_3 : sl = 1 := by omega
        rw [show 166 + 10 * (sl).toNat = 176 by omega]
        refine lv_astore_n (lv' := [(2, .ref (ad 176)), (0, .ref (ad 0)), (1, .int (iz sl))]) C.1.1 C.1.2.1 dX7_restore_5 rfl hl (by decide) rfl (fun ls hl => ?_)
        refine g_aload_n C dX7_restore_6 rfl hl 0 rfl ?_
        refine lv_ifnull C.1.1 C.1.2.1 dX7_restore_7 ?_
        refine g_iload_n C dX7_restore_10 rfl hl 2 rfl ?_
        refine g_if_lt (tgt := 23) C (by omega) dX7_restore_11 (by decide) (fun c_27 => ?_) (fun c_27 => ?_)
        · refine g_throwW C G X hlf hlk hnt hl (cls := "java/lang/IndexOutOfBoundsException") (text := "no such save slot") (ik := 116) (is := 339) (ic := 120) (by decide +kernel) (by decide +kernel : Cond.classLink RX7 116 _ ∈ wsX7_restore) (by decide +kernel : Cond.initialized _ ∈ wsX7_restore) (by decide +kernel) (by decide +kernel) (by decide +kernel) at_ioe (by decide +kernel) dX7_restore_23 dX7_restore_26 dX7_restore_27 dX7_restore_30 dX7_restore_33 (Nat.le_of_ble_eq_true rfl) (Nat.le_of_ble_eq_true rfl) (Nat.le_of_ble_eq_true rfl) (Nat.le_of_ble_eq_true rfl) (Nat.le_of_ble_eq_true rfl) (Nat.le_of_ble_eq_true rfl) ?_
          exact Or.inl ⟨rfl, by omega, rfl⟩
        · refine g_iload_n C dX7_restore_14 rfl hl 2 rfl ?_
          refine g_aload_n C dX7_restore_15 rfl hl 1 rfl ?_
          refine g_get C G (pos := 0) fX7_restore_34 (by omega) hX.1 rfl dX7_restore_16 ?_
          refine g_alenZ C G (pos := 165) (by omega) hF dX7_restore_19 ?_
          show W p l e _ s m args below meth c _ _ _ _ _ (F0 m _ ls (.int (iz 2) :: _))
          refine g_icmp_lt (tgt := 34) C (by omega) (by decide) dX7_restore_20 (by decide) (fun c_28 => ?_) (fun c_28 => ?_)
          · refine g_aload_n C dX7_restore_34 rfl hl 1 rfl ?_
            refine g_get C G (pos := 0) fX7_restore_34 (by omega) hX.1 rfl dX7_restore_35 ?_
            refine g_iload_n C dX7_restore_38 rfl hl 2 rfl ?_
            refine g_baload C G (pos := 165) (by omega) hF (by omega) (by omega) (by omega) dX7_restore_39 ?_
            have hfv := hF01 sl (by omega) (by omega)
            refine g_if_ne (tgt := 54) C (by omega) dX7_restore_40 (by decide) (fun c_29 => ?_) (fun c_29 => ?_)
            · refine g_aload_n C dX7_restore_54 rfl hl 1 rfl ?_
              refine g_get C G (pos := 0) fX7_restore_16 (by omega) hX.1 rfl dX7_restore_55 ?_
              refine g_aload_n C dX7_restore_58 rfl hl 0 rfl ?_
              have hsk := hs1 (by rw [← e_3]; omega)
              refine g_cv C G (g_runV (As := [.ref (ad 176)]) (rest := []) (pos := 2) C G (c_X4_become l κ B n ad g 2 nl v 176 m1 w1 (by omega) hpl (by omega) hp1 (by omega) hsk.1 hsk.2.2.1 hin hin1) (cwV 1 C.1.2.2.2.2 gX7_restore_X4_become rfl rfl rfl (by decide +kernel) ⟨Nat.le_of_ble_eq_true rfl, Nat.le_of_ble_eq_true rfl⟩) (by omega) hpl.1 (T := TX4) (N := 6) rfl rfl hl rfl (Nat.le_of_ble_eq_true rfl) dX7_restore_59 ⟨Nat.le_of_ble_eq_true rfl, Nat.le_of_ble_eq_true rfl⟩) (fun g_30 H locs hw9 G => ?_)
              obtain ⟨v_34, hpl_31, hfr_32, hx_33⟩ := hw9
              have hc_35 : g_30 0 = .inr (7, [.ref (ad 1), .int (iz tl), .ref (ad 2), .ref (ad 12), .ref (ad 22), .ref (ad 164), .ref (ad 165), .ref (ad 186)]) := (hfr_32 _ (by omega)).trans hX.1
              have hc_36 : g_30 164 = aPl κ 2 (fun j => if j < 2 then some (ad (166 + 10 * j)) else none) := (hfr_32 _ (by omega)).trans hX.2
              have hc_37 : g_30 165 = aZ κ 2 F9 := (hfr_32 _ (by omega)).trans hF
              have hpl_38 : isPl κ ad g_30 166 m0 w0 := hp0.far (fun _ _ _ => hfr_32 _ (by omega))
              have hpl_39 : isPl κ ad g_30 176 m1 w1 := hp1.far (fun _ _ _ => hfr_32 _ (by omega))
              have hhi_40 : isHi κ ad g_30 22 old cnt P9 := hhi.far (fun q q0 q1 => hfr_32 _ (by omega))
              refine g_aload_n C dX7_restore_62 rfl hl 1 rfl ?_
              refine g_get C G (pos := 0) fX7_restore_26 (by omega) hc_35 rfl dX7_restore_63 ?_
              refine g_cv C G (g_runV (As := []) (rest := []) (pos := 22) C G (c_X2_forgetAll l κ B n ad g_30 22 old cnt P9 (by omega) hhi_40 hol hct) (cwV 0 C.1.2.2.2.2 gX7_restore_X2_forgetAll rfl rfl rfl (by decide +kernel) ⟨Nat.le_of_ble_eq_true rfl, Nat.le_of_ble_eq_true rfl⟩) (by omega) hhi_40.1 (T := TX2) (N := 3) rfl rfl hl rfl (Nat.le_of_ble_eq_true rfl) dX7_restore_66 ⟨Nat.le_of_ble_eq_true rfl, Nat.le_of_ble_eq_true rfl⟩) (fun g_43 H locs hw9 G => ?_)
              obtain ⟨hH_41, hF_42⟩ := hw9
              have hc_44 : g_43 0 = .inr (7, [.ref (ad 1), .int (iz tl), .ref (ad 2), .ref (ad 12), .ref (ad 22), .ref (ad 164), .ref (ad 165), .ref (ad 186)]) := (hF_42 _ (by omega)).trans hc_35
              have hc_45 : g_43 164 = aPl κ 2 (fun j => if j < 2 then some (ad (166 + 10 * j)) else none) := (hF_42 _ (by omega)).trans hc_36
              have hc_46 : g_43 165 = aZ κ 2 F9 := (hF_42 _ (by omega)).trans hc_37
              have hpl_47 : isPl κ ad g_43 2 m1 v_34 := hpl_31.far (fun q q0 q1 => hF_42 _ (by omega))
              have hpl_48 : isPl κ ad g_43 166 m0 w0 := hpl_38.far (fun q q0 q1 => hF_42 _ (by omega))
              have hpl_49 : isPl κ ad g_43 176 m1 w1 := hpl_39.far (fun q q0 q1 => hF_42 _ (by omega))
              refine g_aload_n C dX7_restore_69 rfl hl 1 rfl ?_
              refine g_get C G (pos := 0) fX7_restore_16 (by omega) hc_44 rfl dX7_restore_70 ?_
              refine g_get C G (pos := 2) fX7_restore_74 (by omega) hpl_47.1 rfl dX7_restore_73 ?_
              refine vx_ret ?_
              refine g_iret C G hr hlk (Nat.le_of_ble_eq_true rfl) (Nat.le_of_ble_eq_true rfl) dX7_restore_76 ?_
              exact ⟨by omega, by omega, m1, w1, v_34, Or.inr ⟨e_3, rfl, rfl⟩, rfl, hpl_47, hx_33.1, hx_33.2, hH_41, fun q q1 q2 => by
                  refine (hF_42 _ (by omega)).trans ?_
                  refine (hfr_32 _ (by omega)).trans ?_
                  try rfl⟩
            · refine g_throwW C G X hlf hlk hnt hl (cls := "java/lang/IllegalStateException") (text := "nothing is saved in this slot") (ik := 56) (is := 341) (ic := 60) (by decide +kernel) (by decide +kernel : Cond.classLink RX7 56 _ ∈ wsX7_restore) (by decide +kernel : Cond.initialized _ ∈ wsX7_restore) (by decide +kernel) (by decide +kernel) (by decide +kernel) at_ise (by decide +kernel) dX7_restore_43 dX7_restore_46 dX7_restore_47 dX7_restore_50 dX7_restore_53 (Nat.le_of_ble_eq_true rfl) (Nat.le_of_ble_eq_true rfl) (Nat.le_of_ble_eq_true rfl) (Nat.le_of_ble_eq_true rfl) (Nat.le_of_ble_eq_true rfl) (Nat.le_of_ble_eq_true rfl) ?_
              exact Or.inr (⟨rfl, by omega, rfl⟩)
          · refine g_throwW C G X hlf hlk hnt hl (cls := "java/lang/IndexOutOfBoundsException") (text := "no such save slot") (ik := 116) (is := 339) (ic := 120) (by decide +kernel) (by decide +kernel : Cond.classLink RX7 116 _ ∈ wsX7_restore) (by decide +kernel : Cond.initialized _ ∈ wsX7_restore) (by decide +kernel) (by decide +kernel) (by decide +kernel) at_ioe (by decide +kernel) dX7_restore_23 dX7_restore_26 dX7_restore_27 dX7_restore_30 dX7_restore_33 (Nat.le_of_ble_eq_true rfl) (Nat.le_of_ble_eq_true rfl) (Nat.le_of_ble_eq_true rfl) (Nat.le_of_ble_eq_true rfl) (Nat.le_of_ble_eq_true rfl) (Nat.le_of_ble_eq_true rfl) ?_
            exact Or.inl ⟨rfl, by omega, rfl⟩
    · cases hw
  · obtain ⟨hg9, ⟨b_2, hw⟩ | ⟨b_2, hw⟩⟩ := hw
    all_goals replace hg9 := hg9.symm
    all_goals subst hg9
    · cases hw
    · refine lv_astore_nN (lv' := [(2, .null), (0, .ref (ad 0)), (1, .int (iz sl))]) C.1.1 C.1.2.1 dX7_restore_5 rfl hl (by decide) rfl (fun ls hl => ?_)
      refine lv_aload_nN C.1.1 C.1.2.1 dX7_restore_6 rfl (lv_at hl 0 rfl) ?_
      refine lv_ifnullN (tgt := 23) C.1.1 C.1.2.1 dX7_restore_7 (by decide) ?_
      refine g_throwW C G X hlf hlk hnt hl (cls := "java/lang/IndexOutOfBoundsException") (text := "no such save slot") (ik := 116) (is := 339) (ic := 120) (by decide +kernel) (by decide +kernel : Cond.classLink RX7 116 _ ∈ wsX7_restore) (by decide +kernel : Cond.initialized _ ∈ wsX7_restore) (by decide +kernel) (by decide +kernel) (by decide +kernel) at_ioe (by decide +kernel) dX7_restore_23 dX7_restore_26 dX7_restore_27 dX7_restore_30 dX7_restore_33 (Nat.le_of_ble_eq_true rfl) (Nat.le_of_ble_eq_true rfl) (Nat.le_of_ble_eq_true rfl) (Nat.le_of_ble_eq_true rfl) (Nat.le_of_ble_eq_true rfl) (Nat.le_of_ble_eq_true rfl) ?_
      exact Or.inl ⟨rfl, by omega, rfl⟩
