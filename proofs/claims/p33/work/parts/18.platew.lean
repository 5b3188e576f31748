theorem fwX4_empty_9 : gFldW wsX4_empty RX4 9 4 0 .int false := ⟨RX4, TX4, 6, tyX4, rfl, by decide, by decide +kernel, by decide +kernel, tyX4_ok, nmX4, rfl, by decide +kernel, by decide +kernel⟩
theorem fwX4_empty_33 : gFldW wsX4_empty RX4 33 4 1 .int false := ⟨RX4, TX4, 6, tyX4, rfl, by decide, by decide +kernel, by decide +kernel, tyX4_ok, nmX4, rfl, by decide +kernel, by decide +kernel⟩
theorem fwX4_empty_56 : gFldW wsX4_empty RX4 56 4 2 .int false := ⟨RX4, TX4, 6, tyX4, rfl, by decide, by decide +kernel, by decide +kernel, tyX4_ok, nmX4, rfl, by decide +kernel, by decide +kernel⟩
set_option maxHeartbeats 4000000 in
set_option maxRecDepth 100000 in
theorem c_X4_empty (l : Launch) (κ : gKap) (B n : Nat) (ad : Nat → Nat) (g : Nat → va_E) (po : Nat) (nl : Int) (v : Int → Int) (t : Int) (hpn : po + 10 ≤ n) (hpl : isPl κ ad g po nl v) : Met l yX4_empty wsX4_empty ({ frames := 0, cells := 0, slots := 0, locals := 0 }) (gPre κ B n ad g [.ref (ad po), .int (iz t)]) (gQv κ B n ad (fun g' => isPl κ ad g' po 0 (vu (vu v 0 t) 25 0) ∧ frP g g' po)) 0 0 (gFree B) := by
  refine g_met RX4 (cc := cX4_empty) (maxL := 2) (ret := none) (by decide) rfl rfl (Nat.le_of_ble_eq_true rfl) ?_
  intro p e s m args below meth c C hr hlk hnm G ls hl
  have hl : lv_has ls 2 [(0, .ref (ad po)), (1, .int (iz t))] := hl
  refine g_aload_n C dX4_empty_0 rfl hl 0 rfl ?_
  refine g_iload_n C dX4_empty_1 rfl hl 1 rfl ?_
  refine g_put C G (pos := po) (fs' := [.int (iz t), .int (iz nl), .int (iz (v 25)), .ref (ad (po + 1)), .ref (ad (po + 8)), .ref (ad (po + 9))]) fwX4_empty_9 (by omega) hpl.1 (Nat.le_of_ble_eq_true rfl) rfl rfl rfl dX4_empty_2 (fun H locs G => ?_)
  obtain ⟨g_1, hg_2⟩ : ∃ g9, g9 = va_up g po (.inr (4, [.int (iz t), .int (iz nl), .int (iz (v 25)), .ref (ad (po + 1)), .ref (ad (po + 8)), .ref (ad (po + 9))])) := ⟨_, rfl⟩
  rw [← hg_2] at G
  have hpl_3 : isPl κ ad g_1 po nl (vu v 0 t) := by rw [hg_2]; exact hpl.ring
  have hfr_4 : frP g g_1 po := by rw [hg_2]; exact frP.rf.up (by omega) (by omega)
  refine g_aload_n C dX4_empty_5 rfl hl 0 rfl ?_
  refine g_iconst (a := 0) C dX4_empty_6 rfl ?_
  refine g_put C G (pos := po) (fs' := [.int (iz ((vu v 0 t) 0)), .int (iz 0), .int (iz ((vu v 0 t) 25)), .ref (ad (po + 1)), .ref (ad (po + 8)), .ref (ad (po + 9))]) fwX4_empty_33 (by omega) hpl_3.1 (Nat.le_of_ble_eq_true rfl) rfl rfl rfl dX4_empty_7 (fun H locs G => ?_)
  obtain ⟨g_5, hg_6⟩ : ∃ g9, g9 = va_up g_1 po (.inr (4, [.int (iz ((vu v 0 t) 0)), .int (iz 0), .int (iz ((vu v 0 t) 25)), .ref (ad (po + 1)), .ref (ad (po + 8)), .ref (ad (po + 9))])) := ⟨_, rfl⟩
  rw [← hg_6] at G
  have hpl_7 : isPl κ ad g_5 po 0 (vu v 0 t) := by rw [hg_6]; exact hpl_3.num
  have hfr_8 : frP g g_5 po := by rw [hg_6]; exact hfr_4.up (by omega) (by omega)
  refine g_aload_n C dX4_empty_10 rfl hl 0 rfl ?_
  refine g_iconst (a := 0) C dX4_empty_11 rfl ?_
  refine g_put C G (pos := po) (fs' := [.int (iz ((vu v 0 t) 0)), .int (iz 0), .int (iz 0), .ref (ad (po + 1)), .ref (ad (po + 8)), .ref (ad (po + 9))]) fwX4_empty_56 (by omega) hpl_7.1 (Nat.le_of_ble_eq_true rfl) rfl rfl rfl dX4_empty_12 (fun H locs G => ?_)
  obtain ⟨g_9, hg_10⟩ : ∃ g9, g9 = va_up g_5 po (.inr (4, [.int (iz ((vu v 0 t) 0)), .int (iz 0), .int (iz 0), .ref (ad (po + 1)), .ref (ad (po + 8)), .ref (ad (po + 9))])) := ⟨_, rfl⟩
  rw [← hg_10] at G
  have hpl_11 : isPl κ ad g_9 po 0 (vu (vu v 0 t) 25 0) := by rw [hg_10]; exact hpl_7.see
  have hfr_12 : frP g g_9 po := by rw [hg_10]; exact hfr_8.up (by omega) (by omega)
  refine g_vret C G hr hlk (Nat.le_of_ble_eq_true rfl) (Nat.le_of_ble_eq_true rfl) dX4_empty_15 ?_
  exact ⟨hpl_11, hfr_12⟩
theorem fX4_putLayer_33 : gFld wsX4_putLayer RX4 33 4 1 := ⟨RX4, TX4, 6, rfl, by decide, by decide +kernel, by decide +kernel⟩
theorem fwX4_putLayer_33 : gFldW wsX4_putLayer RX4 33 4 1 .int false := ⟨RX4, TX4, 6, tyX4, rfl, by decide, by decide +kernel, by decide +kernel, tyX4_ok, nmX4, rfl, by decide +kernel, by decide +kernel⟩
set_option maxHeartbeats 4000000 in
set_option maxRecDepth 100000 in
theorem c_X4_putLayer (l : Launch) (κ : gKap) (B n : Nat) (ad : Nat → Nat) (g : Nat → va_E) (po : Nat) (nl : Int) (v : Int → Int) (qw : Int) (qs : Int) (qh : Int) (qt : Int) (hpn : po + 10 ≤ n) (hpl : isPl κ ad g po nl v) (hn6 : 0 ≤ nl ∧ nl < 6) : Met l yX4_putLayer wsX4_putLayer ({ frames := 1, cells := 0, slots := 0, locals := 24 }) (gPre κ B n ad g [.ref (ad po), .int (iz qw), .int (iz qs), .int (iz qh), .int (iz qt)]) (gQv κ B n ad (fun g' => isPl κ ad g' po (nl + 1) (v4 v nl qw qs qh qt) ∧ frP g g' po)) 0 0 (gFree B) := by
  refine g_met RX4 (cc := cX4_putLayer) (maxL := 6) (ret := none) (by decide) rfl rfl (Nat.le_of_ble_eq_true rfl) ?_
  intro p e s m args below meth c C hr hlk hnm G ls hl
  have hl : lv_has ls 6 [(0, .ref (ad po)), (1, .int (iz qw)), (2, .int (iz qs)), (3, .int (iz qh)), (4, .int (iz qt))] := hl
  refine g_aload_n C dX4_putLayer_0 rfl hl 0 rfl ?_
  refine g_ci C G (g_runV (As := []) (rest := []) (pos := po) C G (c_X4_isFull l κ B n ad g po nl v (by omega) hpl (by omega)) (cwV 0 C.1.2.2.2.2 gX4_putLayer_X4_isFull rfl rfl rfl (by decide +kernel) ⟨Nat.le_of_ble_eq_true rfl, Nat.le_of_ble_eq_true rfl⟩) (by omega) hpl.1 (T := TX4) (N := 6) rfl rfl hl rfl (Nat.le_of_ble_eq_true rfl) dX4_putLayer_1 ⟨Nat.le_of_ble_eq_true rfl, Nat.le_of_ble_eq_true rfl⟩) (fun z_2 g9 H locs hw G => ?_)
  obtain ⟨hg9, hw⟩ := hw
  replace hg9 := hg9.symm
  subst hg9
  rcases hw with ⟨b_1, rfl⟩ | ⟨b_1, rfl⟩
  · exact absurd b_1 (by omega)
  · refine g_if_eq (tgt := 8) C (by decide) dX4_putLayer_4 (by decide) (fun _ => ?_) (fun c9 => absurd c9 (by decide))
    refine g_aload_n C dX4_putLayer_8 rfl hl 0 rfl ?_
    refine lv_dup C.1.1 C.1.2.1 dX4_putLayer_9 rfl ?_
    refine g_get C G (pos := po) fX4_putLayer_33 (by omega) hpl.1 rfl dX4_putLayer_10 ?_
    refine g_iconst (a := 1) C dX4_putLayer_13 rfl ?_
    refine g_iadd C dX4_putLayer_14 ?_
    refine g_put C G (pos := po) (fs' := [.int (iz (v 0)), .int (iz (nl + 1)), .int (iz (v 25)), .ref (ad (po + 1)), .ref (ad (po + 8)), .ref (ad (po + 9))]) fwX4_putLayer_33 (by omega) hpl.1 (Nat.le_of_ble_eq_true rfl) rfl rfl rfl dX4_putLayer_15 (fun H locs G => ?_)
    obtain ⟨g_3, hg_4⟩ : ∃ g9, g9 = va_up g po (.inr (4, [.int (iz (v 0)), .int (iz (nl + 1)), .int (iz (v 25)), .ref (ad (po + 1)), .ref (ad (po + 8)), .ref (ad (po + 9))])) := ⟨_, rfl⟩
    rw [← hg_4] at G
    have hpl_5 : isPl κ ad g_3 po (nl + 1) v := by rw [hg_4]; exact hpl.num
    have hfr_6 : frP g g_3 po := by rw [hg_4]; exact frP.rf.up (by omega) (by omega)
    refine g_aload_n C dX4_putLayer_18 rfl hl 0 rfl ?_
    refine g_aload_n C dX4_putLayer_19 rfl hl 0 rfl ?_
    refine g_get C G (pos := po) fX4_putLayer_33 (by omega) hpl_5.1 rfl dX4_putLayer_20 ?_
    refine g_iconst (a := 1) C dX4_putLayer_23 rfl ?_
    refine g_isub C dX4_putLayer_24 ?_
    rw [show ((nl + 1) - 1 : Int) = nl from (by omega)]
    refine g_co C G (g_runV (As := [.int (iz nl)]) (rest := []) (pos := po) C G (c_X4_find l κ B n ad g_3 po (nl + 1) v nl (by omega) hpl_5 (by omega) (by omega)) (cwV 1 C.1.2.2.2.2 gX4_putLayer_X4_find rfl rfl rfl (by decide +kernel) ⟨Nat.le_of_ble_eq_true rfl, Nat.le_of_ble_eq_true rfl⟩) (by omega) hpl_5.1 (T := TX4) (N := 6) rfl rfl hl rfl (Nat.le_of_ble_eq_true rfl) dX4_putLayer_25 ⟨Nat.le_of_ble_eq_true rfl, Nat.le_of_ble_eq_true rfl⟩) (fun q_7 g9 H locs hw G => ?_) (fun g9 H locs hw G => ?_)
    · obtain ⟨hg9, ⟨b_8, hw⟩ | ⟨b_8, hw⟩⟩ := hw
      all_goals replace hg9 := hg9.symm
      all_goals subst hg9
      · cases hw
        refine lv_astore (lv' := [(5, .ref (ad (po + 2 + (nl).toNat))), (0, .ref (ad po)), (1, .int (iz qw)), (2, .int (iz qs)), (3, .int (iz qh)), (4, .int (iz qt))]) C.1.1 C.1.2.1 dX4_putLayer_28 hl (by decide) rfl (fun ls hl => ?_)
        refine g_aload C dX4_putLayer_30 hl 0 rfl ?_
        refine lv_ifnull C.1.1 C.1.2.1 dX4_putLayer_32 ?_
        refine g_aload C dX4_putLayer_35 hl 0 rfl ?_
        refine g_iload_n C dX4_putLayer_37 rfl hl 2 rfl ?_
        refine g_iload_n C dX4_putLayer_38 rfl hl 3 rfl ?_
        refine g_iload_n C dX4_putLayer_39 rfl hl 4 rfl ?_
        refine g_iload C dX4_putLayer_40 hl 5 rfl ?_
        refine g_cv C G (g_runV (As := [.int (iz qw), .int (iz qs), .int (iz qh), .int (iz qt)]) (rest := []) (pos := po + 2 + (nl).toNat) C G (c_X3_set l κ B n ad g_3 (po + 2 + (nl).toNat) (v (4 * nl + 1)) (v (4 * nl + 2)) (v (4 * nl + 3)) (v (4 * nl + 4)) qw qs qh qt (by omega) (hpl_5.lay (by omega) (by omega))) (cwV 4 C.1.2.2.2.2 gX4_putLayer_X3_set rfl rfl rfl (by decide +kernel) ⟨Nat.le_of_ble_eq_true rfl, Nat.le_of_ble_eq_true rfl⟩) (by omega) (hpl_5.lay (by omega) (by omega)) (T := TX3) (N := 4) rfl rfl hl rfl (Nat.le_of_ble_eq_true rfl) dX4_putLayer_42 ⟨Nat.le_of_ble_eq_true rfl, Nat.le_of_ble_eq_true rfl⟩) (fun g9 H locs hw G => ?_)
        subst hw
        obtain ⟨g_9, hg_10⟩ : ∃ g9, g9 = va_up g_3 (po + 2 + (nl).toNat) (.inr (3, [.int (iz qw), .int (iz qs), .int (iz qh), .int (iz qt)])) := ⟨_, rfl⟩
        rw [← hg_10] at G
        have hpl_11 : isPl κ ad g_9 po (nl + 1) (v4 v nl qw qs qh qt) := by rw [hg_10]; exact hpl_5.layer (by omega) (by omega)
        have hfr_12 : frP g g_9 po := by rw [hg_10]; exact hfr_6.up (by omega) (by omega)
        refine g_vret C G hr hlk (Nat.le_of_ble_eq_true rfl) (Nat.le_of_ble_eq_true rfl) dX4_putLayer_45 ?_
        exact ⟨hpl_11, hfr_12⟩
      · cases hw
    · obtain ⟨hg9, ⟨b_8, hw⟩ | ⟨b_8, hw⟩⟩ := hw
      all_goals replace hg9 := hg9.symm
      all_goals subst hg9
      · cases hw
      · exact absurd (by omega) b_8
theorem fX4_dropOldest_22 : gFld wsX4_dropOldest RX4 22 4 4 := ⟨RX4, TX4, 6, rfl, by decide, by decide +kernel, by decide +kernel⟩
theorem fX4_dropOldest_56 : gFld wsX4_dropOldest RX4 56 4 2 := ⟨RX4, TX4, 6, rfl, by decide, by decide +kernel, by decide +kernel⟩
theorem fwX4_dropOldest_56 : gFldW wsX4_dropOldest RX4 56 4 2 .int false := ⟨RX4, TX4, 6, tyX4, rfl, by decide, by decide +kernel, by decide +kernel, tyX4_ok, nmX4, rfl, by decide +kernel, by decide +kernel⟩
theorem fX4_dropOldest_26 : gFld wsX4_dropOldest RX4 26 4 5 := ⟨RX4, TX4, 6, rfl, by decide, by decide +kernel, by decide +kernel⟩
set_option maxHeartbeats 4000000 in
set_option maxRecDepth 100000 in
theorem c_X4_dropOldest (l : Launch) (κ : gKap) (B n : Nat) (ad : Nat → Nat) (g : Nat → va_E) (po : Nat) (nl : Int) (v : Int → Int) (hpn : po + 10 ≤ n) (hpl : isPl κ ad g po nl v) : Met l yX4_dropOldest wsX4_dropOldest ({ frames := 0, cells := 0, slots := 0, locals := 0 }) (gPre κ B n ad g [.ref (ad po)]) (gQv κ B n ad (fun g' => isPl κ ad g' po nl (vu (shv v) 25 (v 25 - 1)) ∧ frP g g' po)) 0 0 (gFree B) := by
  refine g_met RX4 (cc := cX4_dropOldest) (maxL := 2) (ret := none) (by decide) rfl rfl (Nat.le_of_ble_eq_true rfl) ?_
  intro p e s m args below meth c C hr hlk hnm G ls hl
  have hl : lv_has ls 2 [(0, .ref (ad po))] := hl
  refine g_iconst (a := 1) C dX4_dropOldest_0 rfl ?_
  refine lv_istore_n (lv' := [(1, .int (iz 1)), (0, .ref (ad po))]) C.1.1 C.1.2.1 dX4_dropOldest_1 rfl hl (by decide) rfl (fun ls hl => ?_)
  have lp_2_n_2 : ∀ (k_1 : Nat) (k : Int) (V9 : Int → Int) (gv : Nat → va_E), (8 - k).toNat < k_1 → (1 ≤ k) → (k ≤ 8) → (isPl κ ad gv po nl V9) → (frP g gv po) → (∀ i, V9 i = if 26 ≤ i ∧ i < 26 + 2 * (k - 1) then v (i + 2) else v i) → ∀ (H : Heap) (locs : List Loc), gG κ B n ad s gv H locs → ∀ (ls : Array Slot), lv_has ls 2 [(0, .ref (ad po)), (1, .int (iz k))] → W p l e ({ frames := 0, cells := 0, slots := 0, locals := 0 }) s m args below meth c H locs 0 0 (MQ below (gQv κ B n ad (fun g' => isPl κ ad g' po nl (vu (shv v) 25 (v 25 - 1)) ∧ frP g g' po)) args s 0 0 (gFree B)) (F0 m 2 ls []) := by
    intro k_1
    induction k_1 with
    | zero => intro k V9 gv hm; exact absurd hm (Nat.not_lt_zero _)
    | succ k_1 ih_lp_2_n_2 =>
      intro k V9 gv hm hk0 hk1 hgv hfv hV H locs G ls hl
      refine g_iload_n C dX4_dropOldest_2 rfl hl 1 rfl ?_
      refine g_aload_n C dX4_dropOldest_3 rfl hl 0 rfl ?_
      refine g_get C G (pos := po) fX4_dropOldest_22 (by omega) hgv.1 rfl dX4_dropOldest_4 ?_
      refine g_alenI C G (pos := po + 8) (by omega) hgv.2.2.2.1 dX4_dropOldest_7 ?_
      show W p l e _ s m args below meth c _ _ _ _ _ (F0 m _ ls (.int (iz 8) :: _))
      refine g_icmp_ge (tgt := 54) C (by omega) (by decide) dX4_dropOldest_8 (by decide) (fun c_3 => ?_) (fun c_3 => ?_)
      · refine g_aload_n C dX4_dropOldest_54 rfl hl 0 rfl ?_
        refine lv_dup C.1.1 C.1.2.1 dX4_dropOldest_55 rfl ?_
        refine g_get C G (pos := po) fX4_dropOldest_56 (by omega) hgv.1 rfl dX4_dropOldest_56 ?_
        refine g_iconst (a := 1) C dX4_dropOldest_59 rfl ?_
        refine g_isub C dX4_dropOldest_60 ?_
        refine g_put C G (pos := po) (fs' := [.int (iz (V9 0)), .int (iz nl), .int (iz ((V9 25) - 1)), .ref (ad (po + 1)), .ref (ad (po + 8)), .ref (ad (po + 9))]) fwX4_dropOldest_56 (by omega) hgv.1 (Nat.le_of_ble_eq_true rfl) rfl rfl rfl dX4_dropOldest_61 (fun H locs G => ?_)
        obtain ⟨g_4, hg_5⟩ : ∃ g9, g9 = va_up gv po (.inr (4, [.int (iz (V9 0)), .int (iz nl), .int (iz ((V9 25) - 1)), .ref (ad (po + 1)), .ref (ad (po + 8)), .ref (ad (po + 9))])) := ⟨_, rfl⟩
        rw [← hg_5] at G
        have hpl_6 : isPl κ ad g_4 po nl (vu V9 25 ((V9 25) - 1)) := by rw [hg_5]; exact hgv.see
        have hfr_7 : frP g g_4 po := by rw [hg_5]; exact hfv.up (by omega) (by omega)
        refine g_vret C G hr hlk (Nat.le_of_ble_eq_true rfl) (Nat.le_of_ble_eq_true rfl) dX4_dropOldest_64 ?_
        have hV9 := sh_end (by omega) hV
        rw [show V9 25 = v 25 from by rw [hV9]; exact if_neg (by omega), hV9] at hpl_6
        exact ⟨hpl_6, hfr_7⟩
      · refine g_iload_n C dX4_dropOldest_11 rfl hl 1 rfl ?_
        refine g_aload_n C dX4_dropOldest_12 rfl hl 0 rfl ?_
        refine g_get C G (pos := po) fX4_dropOldest_26 (by omega) hgv.1 rfl dX4_dropOldest_13 ?_
        refine g_alenI C G (pos := po + 9) (by omega) hgv.2.2.2.2 dX4_dropOldest_16 ?_
        show W p l e _ s m args below meth c _ _ _ _ _ (F0 m _ ls (.int (iz 8) :: _))
        refine g_icmp_ge (tgt := 54) C (by omega) (by decide) dX4_dropOldest_17 (by decide) (fun c_8 => ?_) (fun c_8 => ?_)
        · refine g_aload_n C dX4_dropOldest_54 rfl hl 0 rfl ?_
          refine lv_dup C.1.1 C.1.2.1 dX4_dropOldest_55 rfl ?_
          refine g_get C G (pos := po) fX4_dropOldest_56 (by omega) hgv.1 rfl dX4_dropOldest_56 ?_
          refine g_iconst (a := 1) C dX4_dropOldest_59 rfl ?_
          refine g_isub C dX4_dropOldest_60 ?_
          refine g_put C G (pos := po) (fs' := [.int (iz (V9 0)), .int (iz nl), .int (iz ((V9 25) - 1)), .ref (ad (po + 1)), .ref (ad (po + 8)), .ref (ad (po + 9))]) fwX4_dropOldest_56 (by omega) hgv.1 (Nat.le_of_ble_eq_true rfl) rfl rfl rfl dX4_dropOldest_61 (fun H locs G => ?_)
          obtain ⟨g_9, hg_10⟩ : ∃ g9, g9 = va_up gv po (.inr (4, [.int (iz (V9 0)), .int (iz nl), .int (iz ((V9 25) - 1)), .ref (ad (po + 1)), .ref (ad (po + 8)), .ref (ad (po + 9))])) := ⟨_, rfl⟩
          rw [← hg_10] at G
          have hpl_11 : isPl κ ad g_9 po nl (vu V9 25 ((V9 25) - 1)) := by rw [hg_10]; exact hgv.see
          have hfr_12 : frP g g_9 po := by rw [hg_10]; exact hfv.up (by omega) (by omega)
          refine g_vret C G hr hlk (Nat.le_of_ble_eq_true rfl) (Nat.le_of_ble_eq_true rfl) dX4_dropOldest_64 ?_
          have hV9 := sh_end (by omega) hV
          rw [show V9 25 = v 25 from by rw [hV9]; exact if_neg (by omega), hV9] at hpl_11
          exact ⟨hpl_11, hfr_12⟩
        · refine g_aload_n C dX4_dropOldest_20 rfl hl 0 rfl ?_
          refine g_get C G (pos := po) fX4_dropOldest_22 (by omega) hgv.1 rfl dX4_dropOldest_21 ?_
          refine g_iload_n C dX4_dropOldest_24 rfl hl 1 rfl ?_
          refine g_iconst (a := 1) C dX4_dropOldest_25 rfl ?_
          refine g_isub C dX4_dropOldest_26 ?_
          refine g_aload_n C dX4_dropOldest_27 rfl hl 0 rfl ?_
          refine g_get C G (pos := po) fX4_dropOldest_22 (by omega) hgv.1 rfl dX4_dropOldest_28 ?_
          refine g_iload_n C dX4_dropOldest_31 rfl hl 1 rfl ?_
          refine g_iaload C G (pos := po + 8) (by omega) hgv.2.2.2.1 (by omega) (by omega) (by omega) dX4_dropOldest_32 ?_
          show W p l e _ s m args below meth c _ _ _ _ _ (F0 m _ ls (.int (iz (V9 (26 + 2 * k))) :: _))
          refine g_iastore C G (pos := po + 8) (by omega) hgv.2.2.2.1 (by omega) (by omega) (by omega) dX4_dropOldest_33 (fun H locs G => ?_)
          obtain ⟨g_13, hg_14⟩ : ∃ g9, g9 = va_up gv (po + 8) (aI κ 8 (vu (fun i => V9 (26 + 2 * i)) (k - 1) (V9 (26 + 2 * k)))) := ⟨_, rfl⟩
          rw [← hg_14] at G
          have hpl_15 : isPl κ ad g_13 po nl (vu V9 (26 + 2 * (k - 1)) (V9 (26 + 2 * k))) := by rw [hg_14]; exact hgv.ang (by omega)
          have hfr_16 : frP g g_13 po := by rw [hg_14]; exact hfv.up (by omega) (by omega)
          refine g_aload_n C dX4_dropOldest_34 rfl hl 0 rfl ?_
          refine g_get C G (pos := po) fX4_dropOldest_26 (by omega) hpl_15.1 rfl dX4_dropOldest_35 ?_
          refine g_iload_n C dX4_dropOldest_38 rfl hl 1 rfl ?_
          refine g_iconst (a := 1) C dX4_dropOldest_39 rfl ?_
          refine g_isub C dX4_dropOldest_40 ?_
          refine g_aload_n C dX4_dropOldest_41 rfl hl 0 rfl ?_
          refine g_get C G (pos := po) fX4_dropOldest_26 (by omega) hpl_15.1 rfl dX4_dropOldest_42 ?_
          refine g_iload_n C dX4_dropOldest_45 rfl hl 1 rfl ?_
          refine g_iaload C G (pos := po + 9) (by omega) hpl_15.2.2.2.2 (by omega) (by omega) (by omega) dX4_dropOldest_46 ?_
          show W p l e _ s m args below meth c _ _ _ _ _ (F0 m _ ls (.int (iz ((vu V9 (26 + 2 * (k - 1)) (V9 (26 + 2 * k))) (27 + 2 * k))) :: _))
          refine g_iastore C G (pos := po + 9) (by omega) hpl_15.2.2.2.2 (by omega) (by omega) (by omega) dX4_dropOldest_47 (fun H locs G => ?_)
          obtain ⟨g_17, hg_18⟩ : ∃ g9, g9 = va_up g_13 (po + 9) (aI κ 8 (vu (fun i => (vu V9 (26 + 2 * (k - 1)) (V9 (26 + 2 * k))) (27 + 2 * i)) (k - 1) ((vu V9 (26 + 2 * (k - 1)) (V9 (26 + 2 * k))) (27 + 2 * k)))) := ⟨_, rfl⟩
          rw [← hg_18] at G
          have hpl_19 : isPl κ ad g_17 po nl (vu (vu V9 (26 + 2 * (k - 1)) (V9 (26 + 2 * k))) (27 + 2 * (k - 1)) ((vu V9 (26 + 2 * (k - 1)) (V9 (26 + 2 * k))) (27 + 2 * k))) := by rw [hg_18]; exact hpl_15.rad (by omega)
          have hfr_20 : frP g g_17 po := by rw [hg_18]; exact hfr_16.up (by omega) (by omega)
          refine lv_iinc (v := iz (k + 1)) (lv' := [(1, .int (iz (k + 1))), (0, .ref (ad po))]) C.1.1 C.1.2.1 dX4_dropOldest_48 hl (k := 1) rfl (g_inc (by omega)) (by decide) rfl (fun ls hl => ?_)
          refine g_goto (tgt := 2) C dX4_dropOldest_51 (by decide) ?_
          exact ih_lp_2_n_2 (k + 1) (vu (vu V9 (26 + 2 * (k - 1)) (V9 (26 + 2 * k))) (27 + 2 * (k - 1)) ((vu V9 (26 + 2 * (k - 1)) (V9 (26 + 2 * k))) (27 + 2 * k))) g_17 (by omega) (by omega) (by omega) hpl_19 hfr_20 (sh_step hk0 hV) _ _ G _ (lv_sub hl [1, 0] rfl)
  exact lp_2_n_2 _ 1 v g (Nat.lt_succ_self _) (by omega) (by omega) hpl frP.rf (fun i => by rw [if_neg (by omega)]) _ _ G _ (lv_sub hl [1, 0] rfl)
theorem fX4_note_56 : gFld wsX4_note RX4 56 4 2 := ⟨RX4, TX4, 6, rfl, by decide, by decide +kernel, by decide +kernel⟩
theorem fX4_note_22 : gFld wsX4_note RX4 22 4 4 := ⟨RX4, TX4, 6, rfl, by decide, by decide +kernel, by decide +kernel⟩
theorem fX4_note_26 : gFld wsX4_note RX4 26 4 5 := ⟨RX4, TX4, 6, rfl, by decide, by decide +kernel, by decide +kernel⟩
theorem fwX4_note_56 : gFldW wsX4_note RX4 56 4 2 .int false := ⟨RX4, TX4, 6, tyX4, rfl, by decide, by decide +kernel, by decide +kernel, tyX4_ok, nmX4, rfl, by decide +kernel, by decide +kernel⟩
set_option maxHeartbeats 4000000 in
set_option maxRecDepth 100000 in
theorem c_X4_note (l : Launch) (κ : gKap) (B n : Nat) (ad : Nat → Nat) (g : Nat → va_E) (po : Nat) (nl : Int) (v : Int → Int) (a : Int) (r : Int) (hpn : po + 10 ≤ n) (hpl : isPl κ ad g po nl v) (h25 : 0 ≤ v 25 ∧ v 25 ≤ 8) : Met l yX4_note wsX4_note ({ frames := 1, cells := 0, slots := 0, locals := 21 }) (gPre κ B n ad g [.ref (ad po), .int (iz a), .int (iz r)]) (gQv κ B n ad (fun g' => isPl κ ad g' po nl (ntv v a r) ∧ frP g g' po)) 0 0 (gFree B) := by
  refine g_met RX4 (cc := cX4_note) (maxL := 3) (ret := none) (by decide) rfl rfl (Nat.le_of_ble_eq_true rfl) ?_
  intro p e s m args below meth c C hr hlk hnm G ls hl
  have hl : lv_has ls 3 [(0, .ref (ad po)), (1, .int (iz a)), (2, .int (iz r))] := hl
  refine g_aload_n C dX4_note_0 rfl hl 0 rfl ?_
  refine g_get C G (pos := po) fX4_note_56 (by omega) hpl.1 rfl dX4_note_1 ?_
  refine g_bipush (a := 8) C dX4_note_4 (by decide) ?_
  refine g_icmp_lt (tgt := 13) C (by omega) (by decide) dX4_note_6 (by decide) (fun c_1 => ?_) (fun c_1 => ?_)
  · refine g_aload_n C dX4_note_13 rfl hl 0 rfl ?_
    refine g_get C G (pos := po) fX4_note_56 (by omega) hpl.1 rfl dX4_note_14 ?_
    refine g_if_lt (tgt := 74) C (by omega) dX4_note_17 (by decide) (fun c_2 => ?_) (fun c_2 => ?_)
    · refine g_vret C G hr hlk (Nat.le_of_ble_eq_true rfl) (Nat.le_of_ble_eq_true rfl) dX4_note_74 ?_
      exfalso
      omega
    · refine g_aload_n C dX4_note_20 rfl hl 0 rfl ?_
      refine g_get C G (pos := po) fX4_note_56 (by omega) hpl.1 rfl dX4_note_21 ?_
      refine g_aload_n C dX4_note_24 rfl hl 0 rfl ?_
      refine g_get C G (pos := po) fX4_note_22 (by omega) hpl.1 rfl dX4_note_25 ?_
      refine g_alenI C G (pos := po + 8) (by omega) hpl.2.2.2.1 dX4_note_28 ?_
      show W p l e _ s m args below meth c _ _ _ _ _ (F0 m _ ls (.int (iz 8) :: _))
      refine g_icmp_ge (tgt := 74) C (by omega) (by decide) dX4_note_29 (by decide) (fun c_3 => ?_) (fun c_3 => ?_)
      · refine g_vret C G hr hlk (Nat.le_of_ble_eq_true rfl) (Nat.le_of_ble_eq_true rfl) dX4_note_74 ?_
        exfalso
        omega
      · refine g_aload_n C dX4_note_32 rfl hl 0 rfl ?_
        refine g_get C G (pos := po) fX4_note_56 (by omega) hpl.1 rfl dX4_note_33 ?_
        refine g_aload_n C dX4_note_36 rfl hl 0 rfl ?_
        refine g_get C G (pos := po) fX4_note_26 (by omega) hpl.1 rfl dX4_note_37 ?_
        refine g_alenI C G (pos := po + 9) (by omega) hpl.2.2.2.2 dX4_note_40 ?_
        show W p l e _ s m args below meth c _ _ _ _ _ (F0 m _ ls (.int (iz 8) :: _))
        refine g_icmp_ge (tgt := 74) C (by omega) (by decide) dX4_note_41 (by decide) (fun c_4 => ?_) (fun c_4 => ?_)
        · refine g_vret C G hr hlk (Nat.le_of_ble_eq_true rfl) (Nat.le_of_ble_eq_true rfl) dX4_note_74 ?_
          exfalso
          omega
        · refine g_aload_n C dX4_note_44 rfl hl 0 rfl ?_
          refine g_get C G (pos := po) fX4_note_22 (by omega) hpl.1 rfl dX4_note_45 ?_
          refine g_aload_n C dX4_note_48 rfl hl 0 rfl ?_
          refine g_get C G (pos := po) fX4_note_56 (by omega) hpl.1 rfl dX4_note_49 ?_
          refine g_iload_n C dX4_note_52 rfl hl 1 rfl ?_
          refine g_iastore C G (pos := po + 8) (by omega) hpl.2.2.2.1 (by omega) (by omega) (by omega) dX4_note_53 (fun H locs G => ?_)
          obtain ⟨g_5, hg_6⟩ : ∃ g9, g9 = va_up g (po + 8) (aI κ 8 (vu (fun i => v (26 + 2 * i)) (v 25) a)) := ⟨_, rfl⟩
          rw [← hg_6] at G
          have hpl_7 : isPl κ ad g_5 po nl (vu v (26 + 2 * (v 25)) a) := by rw [hg_6]; exact hpl.ang (by omega)
          have hfr_8 : frP g g_5 po := by rw [hg_6]; exact frP.rf.up (by omega) (by omega)
          refine g_aload_n C dX4_note_54 rfl hl 0 rfl ?_
          refine g_get C G (pos := po) fX4_note_26 (by omega) hpl_7.1 rfl dX4_note_55 ?_
          refine g_aload_n C dX4_note_58 rfl hl 0 rfl ?_
          refine g_get C G (pos := po) fX4_note_56 (by omega) hpl_7.1 rfl dX4_note_59 ?_
          have hq9 : (vu v (26 + 2 * (v 25)) a) 25 = v 25 := by first | exact vu_self _ _ _ | (rw [vu_ne (by omega)]; done) | (rw [vu_ne (by omega), vu_ne (by omega)]; done) | (rw [vu_ne (by omega), vu_self]; done) | (rw [vu_ne (by omega), vu_ne (by omega), vu_self]; done)
          rw [hq9]
          refine g_iload_n C dX4_note_62 rfl hl 2 rfl ?_
          refine g_iastore C G (pos := po + 9) (by omega) hpl_7.2.2.2.2 (by omega) (by omega) (by omega) dX4_note_63 (fun H locs G => ?_)
          obtain ⟨g_9, hg_10⟩ : ∃ g9, g9 = va_up g_5 (po + 9) (aI κ 8 (vu (fun i => (vu v (26 + 2 * (v 25)) a) (27 + 2 * i)) (v 25) r)) := ⟨_, rfl⟩
          rw [← hg_10] at G
          have hpl_11 : isPl κ ad g_9 po nl (vu (vu v (26 + 2 * (v 25)) a) (27 + 2 * (v 25)) r) := by rw [hg_10]; exact hpl_7.rad (by omega)
          have hfr_12 : frP g g_9 po := by rw [hg_10]; exact hfr_8.up (by omega) (by omega)
          refine g_aload_n C dX4_note_64 rfl hl 0 rfl ?_
          refine lv_dup C.1.1 C.1.2.1 dX4_note_65 rfl ?_
          refine g_get C G (pos := po) fX4_note_56 (by omega) hpl_11.1 rfl dX4_note_66 ?_
          have hq9 : (vu (vu v (26 + 2 * (v 25)) a) (27 + 2 * (v 25)) r) 25 = v 25 := by first | exact vu_self _ _ _ | (rw [vu_ne (by omega)]; done) | (rw [vu_ne (by omega), vu_ne (by omega)]; done) | (rw [vu_ne (by omega), vu_self]; done) | (rw [vu_ne (by omega), vu_ne (by omega), vu_self]; done)
          rw [hq9]
          refine g_iconst (a := 1) C dX4_note_69 rfl ?_
          refine g_iadd C dX4_note_70 ?_
          refine g_put C G (pos := po) (fs' := [.int (iz ((vu (vu v (26 + 2 * (v 25)) a) (27 + 2 * (v 25)) r) 0)), .int (iz nl), .int (iz ((v 25) + 1)), .ref (ad (po + 1)), .ref (ad (po + 8)), .ref (ad (po + 9))]) fwX4_note_56 (by omega) hpl_11.1 (Nat.le_of_ble_eq_true rfl) rfl rfl rfl dX4_note_71 (fun H locs G => ?_)
          obtain ⟨g_13, hg_14⟩ : ∃ g9, g9 = va_up g_9 po (.inr (4, [.int (iz ((vu (vu v (26 + 2 * (v 25)) a) (27 + 2 * (v 25)) r) 0)), .int (iz nl), .int (iz ((v 25) + 1)), .ref (ad (po + 1)), .ref (ad (po + 8)), .ref (ad (po + 9))])) := ⟨_, rfl⟩
          rw [← hg_14] at G
          have hpl_15 : isPl κ ad g_13 po nl (vu (vu (vu v (26 + 2 * (v 25)) a) (27 + 2 * (v 25)) r) 25 ((v 25) + 1)) := by rw [hg_14]; exact hpl_11.see
          have hfr_16 : frP g g_13 po := by rw [hg_14]; exact hfr_12.up (by omega) (by omega)
          refine g_vret C G hr hlk (Nat.le_of_ble_eq_true rfl) (Nat.le_of_ble_eq_true rfl) dX4_note_74 ?_
          exact ⟨by unfold ntv; rw [if_pos (by omega)]; exact hpl_15, hfr_16⟩
  · refine g_aload_n C dX4_note_9 rfl hl 0 rfl ?_
    refine g_cv C G (g_runV (As := []) (rest := []) (pos := po) C G (c_X4_dropOldest l κ B n ad g po nl v (by omega) hpl) (cwV 0 C.1.2.2.2.2 gX4_note_X4_dropOldest rfl rfl rfl (by decide +kernel) ⟨Nat.le_of_ble_eq_true rfl, Nat.le_of_ble_eq_true rfl⟩) (by omega) hpl.1 (T := TX4) (N := 6) rfl rfl hl rfl (Nat.le_of_ble_eq_true rfl) dX4_note_10 ⟨Nat.le_of_ble_eq_true rfl, Nat.le_of_ble_eq_true rfl⟩) (fun g_17 H locs hw9 G => ?_)
    obtain ⟨hpl_18, hfr_19⟩ := hw9
    have hfr_21 : frP g g_17 po := frP.rf.tr hfr_19
    refine g_aload_n C dX4_note_13 rfl hl 0 rfl ?_
    refine g_get C G (pos := po) fX4_note_56 (by omega) hpl_18.1 rfl dX4_note_14 ?_
    have hq9 : (vu (shv v) 25 (v 25 - 1)) 25 = v 25 - 1 := by first | exact vu_self _ _ _ | (rw [vu_ne (by omega)]; done) | (rw [vu_ne (by omega), vu_ne (by omega)]; done) | (rw [vu_ne (by omega), vu_self]; done) | (rw [vu_ne (by omega), vu_ne (by omega), vu_self]; done)
    rw [hq9]
    refine g_if_lt (tgt := 74) C (by omega) dX4_note_17 (by decide) (fun c_22 => ?_) (fun c_22 => ?_)
    · refine g_vret C G hr hlk (Nat.le_of_ble_eq_true rfl) (Nat.le_of_ble_eq_true rfl) dX4_note_74 ?_
      exfalso
      omega
    · refine g_aload_n C dX4_note_20 rfl hl 0 rfl ?_
      refine g_get C G (pos := po) fX4_note_56 (by omega) hpl_18.1 rfl dX4_note_21 ?_
      have hq9 : (vu (shv v) 25 (v 25 - 1)) 25 = v 25 - 1 := by first | exact vu_self _ _ _ | (rw [vu_ne (by omega)]; done) | (rw [vu_ne (by omega), vu_ne (by omega)]; done) | (rw [vu_ne (by omega), vu_self]; done) | (rw [vu_ne (by omega), vu_ne (by omega), vu_self]; done)
      rw [hq9]
      refine g_aload_n C dX4_note_24 rfl hl 0 rfl ?_
      refine g_get C G (pos := po) fX4_note_22 (by omega) hpl_18.1 rfl dX4_note_25 ?_
      refine g_alenI C G (pos := po + 8) (by omega) hpl_18.2.2.2.1 dX4_note_28 ?_
      show W p l e _ s m args below meth c _ _ _ _ _ (F0 m _ ls (.int (iz 8) :: _))
      refine g_icmp_ge (tgt := 74) C (by omega) (by decide) dX4_note_29 (by decide) (fun c_23 => ?_) (fun c_23 => ?_)
      · refine g_vret C G hr hlk (Nat.le_of_ble_eq_true rfl) (Nat.le_of_ble_eq_true rfl) dX4_note_74 ?_
        exfalso
        omega
      · refine g_aload_n C dX4_note_32 rfl hl 0 rfl ?_
        refine g_get C G (pos := po) fX4_note_56 (by omega) hpl_18.1 rfl dX4_note_33 ?_
        have hq9 : (vu (shv v) 25 (v 25 - 1)) 25 = v 25 - 1 := by first | exact vu_self _ _ _ | (rw [vu_ne (by omega)]; done) | (rw [vu_ne (by omega), vu_ne (by omega)]; done) | (rw [vu_ne (by omega), vu_self]; done) | (rw [vu_ne (by omega), vu_ne (by omega), vu_self]; done)
        rw [hq9]
        refine g_aload_n C dX4_note_36 rfl hl 0 rfl ?_
        refine g_get C G (pos := po) fX4_note_26 (by omega) hpl_18.1 rfl dX4_note_37 ?_
        refine g_alenI C G (pos := po + 9) (by omega) hpl_18.2.2.2.2 dX4_note_40 ?_
        show W p l e _ s m args below meth c _ _ _ _ _ (F0 m _ ls (.int (iz 8) :: _))
        refine g_icmp_ge (tgt := 74) C (by omega) (by decide) dX4_note_41 (by decide) (fun c_24 => ?_) (fun c_24 => ?_)
        · refine g_vret C G hr hlk (Nat.le_of_ble_eq_true rfl) (Nat.le_of_ble_eq_true rfl) dX4_note_74 ?_
          exfalso
          omega
        · refine g_aload_n C dX4_note_44 rfl hl 0 rfl ?_
          refine g_get C G (pos := po) fX4_note_22 (by omega) hpl_18.1 rfl dX4_note_45 ?_
          refine g_aload_n C dX4_note_48 rfl hl 0 rfl ?_
          refine g_get C G (pos := po) fX4_note_56 (by omega) hpl_18.1 rfl dX4_note_49 ?_
          have hq9 : (vu (shv v) 25 (v 25 - 1)) 25 = v 25 - 1 := by first | exact vu_self _ _ _ | (rw [vu_ne (by omega)]; done) | (rw [vu_ne (by omega), vu_ne (by omega)]; done) | (rw [vu_ne (by omega), vu_self]; done) | (rw [vu_ne (by omega), vu_ne (by omega), vu_self]; done)
          rw [hq9]
          refine g_iload_n C dX4_note_52 rfl hl 1 rfl ?_
          refine g_iastore C G (pos := po + 8) (by omega) hpl_18.2.2.2.1 (by omega) (by omega) (by omega) dX4_note_53 (fun H locs G => ?_)
          obtain ⟨g_25, hg_26⟩ : ∃ g9, g9 = va_up g_17 (po + 8) (aI κ 8 (vu (fun i => (vu (shv v) 25 (v 25 - 1)) (26 + 2 * i)) (v 25 - 1) a)) := ⟨_, rfl⟩
          rw [← hg_26] at G
          have hpl_27 : isPl κ ad g_25 po nl (vu (vu (shv v) 25 (v 25 - 1)) (26 + 2 * (v 25 - 1)) a) := by rw [hg_26]; exact hpl_18.ang (by omega)
          have hfr_28 : frP g g_25 po := by rw [hg_26]; exact hfr_21.up (by omega) (by omega)
          refine g_aload_n C dX4_note_54 rfl hl 0 rfl ?_
          refine g_get C G (pos := po) fX4_note_26 (by omega) hpl_27.1 rfl dX4_note_55 ?_
          refine g_aload_n C dX4_note_58 rfl hl 0 rfl ?_
          refine g_get C G (pos := po) fX4_note_56 (by omega) hpl_27.1 rfl dX4_note_59 ?_
          have hq9 : (vu (vu (shv v) 25 (v 25 - 1)) (26 + 2 * (v 25 - 1)) a) 25 = v 25 - 1 := by first | exact vu_self _ _ _ | (rw [vu_ne (by omega)]; done) | (rw [vu_ne (by omega), vu_ne (by omega)]; done) | (rw [vu_ne (by omega), vu_self]; done) | (rw [vu_ne (by omega), vu_ne (by omega), vu_self]; done)
          rw [hq9]
          refine g_iload_n C dX4_note_62 rfl hl 2 rfl ?_
          refine g_iastore C G (pos := po + 9) (by omega) hpl_27.2.2.2.2 (by omega) (by omega) (by omega) dX4_note_63 (fun H locs G => ?_)
          obtain ⟨g_29, hg_30⟩ : ∃ g9, g9 = va_up g_25 (po + 9) (aI κ 8 (vu (fun i => (vu (vu (shv v) 25 (v 25 - 1)) (26 + 2 * (v 25 - 1)) a) (27 + 2 * i)) (v 25 - 1) r)) := ⟨_, rfl⟩
          rw [← hg_30] at G
          have hpl_31 : isPl κ ad g_29 po nl (vu (vu (vu (shv v) 25 (v 25 - 1)) (26 + 2 * (v 25 - 1)) a) (27 + 2 * (v 25 - 1)) r) := by rw [hg_30]; exact hpl_27.rad (by omega)
          have hfr_32 : frP g g_29 po := by rw [hg_30]; exact hfr_28.up (by omega) (by omega)
          refine g_aload_n C dX4_note_64 rfl hl 0 rfl ?_
          refine lv_dup C.1.1 C.1.2.1 dX4_note_65 rfl ?_
          refine g_get C G (pos := po) fX4_note_56 (by omega) hpl_31.1 rfl dX4_note_66 ?_
          have hq9 : (vu (vu (vu (shv v) 25 (v 25 - 1)) (26 + 2 * (v 25 - 1)) a) (27 + 2 * (v 25 - 1)) r) 25 = v 25 - 1 := by first | exact vu_self _ _ _ | (rw [vu_ne (by omega)]; done) | (rw [vu_ne (by omega), vu_ne (by omega)]; done) | (rw [vu_ne (by omega), vu_self]; done) | (rw [vu_ne (by omega), vu_ne (by omega), vu_self]; done)
          rw [hq9]
          refine g_iconst (a := 1) C dX4_note_69 rfl ?_
          refine g_iadd C dX4_note_70 ?_
          refine g_put C G (pos := po) (fs' := [.int (iz ((vu (vu (vu (shv v) 25 (v 25 - 1)) (26 + 2 * (v 25 - 1)) a) (27 + 2 * (v 25 - 1)) r) 0)), .int (iz nl), .int (iz ((v 25 - 1) + 1)), .ref (ad (po + 1)), .ref (ad (po + 8)), .ref (ad (po + 9))]) fwX4_note_56 (by omega) hpl_31.1 (Nat.le_of_ble_eq_true rfl) rfl rfl rfl dX4_note_71 (fun H locs G => ?_)
          obtain ⟨g_33, hg_34⟩ : ∃ g9, g9 = va_up g_29 po (.inr (4, [.int (iz ((vu (vu (vu (shv v) 25 (v 25 - 1)) (26 + 2 * (v 25 - 1)) a) (27 + 2 * (v 25 - 1)) r) 0)), .int (iz nl), .int (iz ((v 25 - 1) + 1)), .ref (ad (po + 1)), .ref (ad (po + 8)), .ref (ad (po + 9))])) := ⟨_, rfl⟩
          rw [← hg_34] at G
          have hpl_35 : isPl κ ad g_33 po nl (vu (vu (vu (vu (shv v) 25 (v 25 - 1)) (26 + 2 * (v 25 - 1)) a) (27 + 2 * (v 25 - 1)) r) 25 ((v 25 - 1) + 1)) := by rw [hg_34]; exact hpl_31.see
          have hfr_36 : frP g g_33 po := by rw [hg_34]; exact hfr_32.up (by omega) (by omega)
          refine g_vret C G hr hlk (Nat.le_of_ble_eq_true rfl) (Nat.le_of_ble_eq_true rfl) dX4_note_74 ?_
          exact ⟨by unfold ntv; rw [if_neg (by omega)]; exact hpl_35, hfr_36⟩
theorem fwX4_takeRing_9 : gFldW wsX4_takeRing RX4 9 4 0 .int false := ⟨RX4, TX4, 6, tyX4, rfl, by decide, by decide +kernel, by decide +kernel, tyX4_ok, nmX4, rfl, by decide +kernel, by decide +kernel⟩
theorem fX4_takeRing_33 : gFld wsX4_takeRing RX4 33 4 1 := ⟨RX4, TX4, 6, rfl, by decide, by decide +kernel, by decide +kernel⟩
theorem fX4_takeRing_22 : gFld wsX4_takeRing RX4 22 4 4 := ⟨RX4, TX4, 6, rfl, by decide, by decide +kernel, by decide +kernel⟩
theorem fX4_takeRing_49 : gFld wsX4_takeRing RX4 49 3 3 := ⟨RX3, TX3, 4, rfl, by decide, by decide +kernel, by decide +kernel⟩
theorem fwX4_takeRing_49 : gFldW wsX4_takeRing RX4 49 3 3 .int false := ⟨RX3, TX3, 4, tyX3, rfl, by decide, by decide +kernel, by decide +kernel, tyX3_ok, nmX3, rfl, by decide +kernel, by decide +kernel⟩
set_option maxHeartbeats 4000000 in
set_option maxRecDepth 100000 in
theorem c_X4_takeRing (l : Launch) (κ : gKap) (B n : Nat) (ad : Nat → Nat) (g : Nat → va_E) (po : Nat) (nl : Int) (v : Int → Int) (t : Int) (hpn : po + 10 ≤ n) (hpl : isPl κ ad g po nl v) (hn6 : 0 ≤ nl ∧ nl ≤ 6) (ht : 12 ≤ t ∧ t ≤ 96) (hin : inV v) : Met l yX4_takeRing wsX4_takeRing ({ frames := 1, cells := 0, slots := 0, locals := 21 }) (gPre κ B n ad g [.ref (ad po), .int (iz t)]) (gQv κ B n ad (fun g' => isPl κ ad g' po nl (tkr nl v t) ∧ frP g g' po)) 0 0 (gFree B) := by
  refine g_met RX4 (cc := cX4_takeRing) (maxL := 4) (ret := none) (by decide) rfl rfl (Nat.le_of_ble_eq_true rfl) ?_
  intro p e s m args below meth c C hr hlk hnm G ls hl
  have hl : lv_has ls 4 [(0, .ref (ad po)), (1, .int (iz t))] := hl
  refine g_aload_n C dX4_takeRing_0 rfl hl 0 rfl ?_
  refine g_iload_n C dX4_takeRing_1 rfl hl 1 rfl ?_
  refine g_put C G (pos := po) (fs' := [.int (iz t), .int (iz nl), .int (iz (v 25)), .ref (ad (po + 1)), .ref (ad (po + 8)), .ref (ad (po + 9))]) fwX4_takeRing_9 (by omega) hpl.1 (Nat.le_of_ble_eq_true rfl) rfl rfl rfl dX4_takeRing_2 (fun H locs G => ?_)
  obtain ⟨g_1, hg_2⟩ : ∃ g9, g9 = va_up g po (.inr (4, [.int (iz t), .int (iz nl), .int (iz (v 25)), .ref (ad (po + 1)), .ref (ad (po + 8)), .ref (ad (po + 9))])) := ⟨_, rfl⟩
  rw [← hg_2] at G
  have hpl_3 : isPl κ ad g_1 po nl (vu v 0 t) := by rw [hg_2]; exact hpl.ring
  have hfr_4 : frP g g_1 po := by rw [hg_2]; exact frP.rf.up (by omega) (by omega)
  refine g_iconst (a := 0) C dX4_takeRing_5 rfl ?_
  refine lv_istore_n (lv' := [(2, .int (iz 0)), (0, .ref (ad po)), (1, .int (iz t))]) C.1.1 C.1.2.1 dX4_takeRing_6 rfl hl (by decide) rfl (fun ls hl => ?_)
  have lp_7_n_6 : ∀ (k_5 : Nat) (k : Int) (gv : Nat → va_E), (nl - k).toNat < k_5 → (0 ≤ k) → (k ≤ nl) → (isPl κ ad gv po nl (tk1 v t k)) → (frP g gv po) → ∀ (H : Heap) (locs : List Loc), gG κ B n ad s gv H locs → ∀ (ls : Array Slot), lv_has ls 4 [(0, .ref (ad po)), (1, .int (iz t)), (2, .int (iz k))] → W p l e ({ frames := 1, cells := 0, slots := 0, locals := 21 }) s m args below meth c H locs 0 0 (MQ below (gQv κ B n ad (fun g' => isPl κ ad g' po nl (tkr nl v t) ∧ frP g g' po)) args s 0 0 (gFree B)) (F0 m 7 ls []) := by
    intro k_5
    induction k_5 with
    | zero => intro k gv hm; exact absurd hm (Nat.not_lt_zero _)
    | succ k_5 ih_lp_7_n_6 =>
      intro k gv hm hk0 hk1 hgv hfv H locs G ls hl
      refine g_iload_n C dX4_takeRing_7 rfl hl 2 rfl ?_
      refine g_aload_n C dX4_takeRing_8 rfl hl 0 rfl ?_
      refine g_get C G (pos := po) fX4_takeRing_33 (by omega) hgv.1 rfl dX4_takeRing_9 ?_
      refine g_icmp_ge (tgt := 47) C (by omega) (by omega) dX4_takeRing_12 (by decide) (fun c_7 => ?_) (fun c_7 => ?_)
      · refine g_iconst (a := 0) C dX4_takeRing_47 rfl ?_
        refine lv_istore_n (lv' := [(2, .int (iz 0)), (0, .ref (ad po)), (1, .int (iz t))]) C.1.1 C.1.2.1 dX4_takeRing_48 rfl hl (by decide) rfl (fun ls hl => ?_)
        have lp_49_n_9 : ∀ (k_8 : Nat) (k : Int) (gw : Nat → va_E), (8 - k).toNat < k_8 → (0 ≤ k) → (k ≤ 8) → (isPl κ ad gw po nl (tk2 nl v t k)) → (frP g gw po) → ∀ (H : Heap) (locs : List Loc), gG κ B n ad s gw H locs → ∀ (ls : Array Slot), lv_has ls 4 [(0, .ref (ad po)), (1, .int (iz t)), (2, .int (iz k))] → W p l e ({ frames := 1, cells := 0, slots := 0, locals := 21 }) s m args below meth c H locs 0 0 (MQ below (gQv κ B n ad (fun g' => isPl κ ad g' po nl (tkr nl v t) ∧ frP g g' po)) args s 0 0 (gFree B)) (F0 m 49 ls []) := by
          intro k_8
          induction k_8 with
          | zero => intro k gw hm; exact absurd hm (Nat.not_lt_zero _)
          | succ k_8 ih_lp_49_n_9 =>
            intro k gw hm hk0 hk1 hgw hfw H locs G ls hl
            refine g_iload_n C dX4_takeRing_49 rfl hl 2 rfl ?_
            refine g_aload_n C dX4_takeRing_50 rfl hl 0 rfl ?_
            refine g_get C G (pos := po) fX4_takeRing_22 (by omega) hgw.1 rfl dX4_takeRing_51 ?_
            refine g_alenI C G (pos := po + 8) (by omega) hgw.2.2.2.1 dX4_takeRing_54 ?_
            show W p l e _ s m args below meth c _ _ _ _ _ (F0 m _ ls (.int (iz 8) :: _))
            refine g_icmp_ge (tgt := 84) C (by omega) (by decide) dX4_takeRing_55 (by decide) (fun c_10 => ?_) (fun c_10 => ?_)
            · refine g_vret C G hr hlk (Nat.le_of_ble_eq_true rfl) (Nat.le_of_ble_eq_true rfl) dX4_takeRing_84 ?_
              exact ⟨by rw [← tk2_end (show k = 8 by omega)]; exact hgw, hfw⟩
            · refine g_aload_n C dX4_takeRing_58 rfl hl 0 rfl ?_
              refine g_aload_n C dX4_takeRing_59 rfl hl 0 rfl ?_
              refine g_get C G (pos := po) fX4_takeRing_22 (by omega) hgw.1 rfl dX4_takeRing_60 ?_
              refine g_iload_n C dX4_takeRing_63 rfl hl 2 rfl ?_
              refine g_iaload C G (pos := po + 8) (by omega) hgw.2.2.2.1 (by omega) (by omega) (by omega) dX4_takeRing_64 ?_
              show W p l e _ s m args below meth c _ _ _ _ _ (F0 m _ ls (.int (iz ((tk2 nl v t k) (26 + 2 * k))) :: _))
              rw [show ((tk2 nl v t k) (26 + 2 * k) : Int) = v (26 + 2 * k) from (tk2_at hn6.2 hk0 (by omega))]
              refine g_ci C G (g_runV (As := [.int (iz (v (26 + 2 * k)))]) (rest := []) (pos := po) C G (c_X4_hasTooth l κ B n ad gw po nl (tk2 nl v t k) (v (26 + 2 * k)) (by omega) hgw (hin _ (by omega) (by omega)) (by rw [show tk2 nl v t k 0 = t from if_pos rfl]; exact ht)) (cwV 1 C.1.2.2.2.2 gX4_takeRing_X4_hasTooth rfl rfl rfl (by decide +kernel) ⟨Nat.le_of_ble_eq_true rfl, Nat.le_of_ble_eq_true rfl⟩) (by omega) hgw.1 (T := TX4) (N := 6) rfl rfl hl rfl (Nat.le_of_ble_eq_true rfl) dX4_takeRing_65 ⟨Nat.le_of_ble_eq_true rfl, Nat.le_of_ble_eq_true rfl⟩) (fun z_12 g9 H locs hw G => ?_)
              obtain ⟨hg9, hw⟩ := hw
              replace hg9 := hg9.symm
              subst hg9
              rcases hw with ⟨b_11, rfl⟩ | ⟨b_11, rfl⟩
              · have hb9_13 : 0 ≤ v (26 + 2 * k) ∧ v (26 + 2 * k) < t := by have h9 := b_11; rw [show tk2 nl v t k 0 = t from if_pos rfl] at h9; exact h9
                refine g_if_ne (tgt := 78) C (by decide) dX4_takeRing_68 (by decide) (fun _ => ?_) (fun c9 => absurd c9 (by decide))
                refine lv_iinc (v := iz (k + 1)) (lv' := [(2, .int (iz (k + 1))), (0, .ref (ad po)), (1, .int (iz t))]) C.1.1 C.1.2.1 dX4_takeRing_78 hl (k := 2) rfl (g_inc (by omega)) (by decide) rfl (fun ls hl => ?_)
                refine g_goto (tgt := 49) C dX4_takeRing_81 (by decide) ?_
                exact ih_lp_49_n_9 (k + 1) gw (by omega) (by omega) (by omega) (by rw [← tk2_no hk0 hb9_13]; exact hgw) hfw _ _ G _ (lv_sub hl [1, 2, 0] rfl)
              · have hb9_14 : ¬ (0 ≤ v (26 + 2 * k) ∧ v (26 + 2 * k) < t) := by have h9 := b_11; rw [show tk2 nl v t k 0 = t from if_pos rfl] at h9; exact h9
                refine g_if_ne (tgt := 78) C (by decide) dX4_takeRing_68 (by decide) (fun c9 => absurd c9 (by decide)) (fun _ => ?_)
                refine g_aload_n C dX4_takeRing_71 rfl hl 0 rfl ?_
                refine g_get C G (pos := po) fX4_takeRing_22 (by omega) hgw.1 rfl dX4_takeRing_72 ?_
                refine g_iload_n C dX4_takeRing_75 rfl hl 2 rfl ?_
                refine g_iconst (a := 0) C dX4_takeRing_76 rfl ?_
                refine g_iastore C G (pos := po + 8) (by omega) hgw.2.2.2.1 (by omega) (by omega) (by omega) dX4_takeRing_77 (fun H locs G => ?_)
                obtain ⟨g_15, hg_16⟩ : ∃ g9, g9 = va_up gw (po + 8) (aI κ 8 (vu (fun i => (tk2 nl v t k) (26 + 2 * i)) k 0)) := ⟨_, rfl⟩
                rw [← hg_16] at G
                have hpl_17 : isPl κ ad g_15 po nl (vu (tk2 nl v t k) (26 + 2 * k) 0) := by rw [hg_16]; exact hgw.ang (by omega)
                have hfr_18 : frP g g_15 po := by rw [hg_16]; exact hfw.up (by omega) (by omega)
                refine lv_iinc (v := iz (k + 1)) (lv' := [(2, .int (iz (k + 1))), (0, .ref (ad po)), (1, .int (iz t))]) C.1.1 C.1.2.1 dX4_takeRing_78 hl (k := 2) rfl (g_inc (by omega)) (by decide) rfl (fun ls hl => ?_)
                refine g_goto (tgt := 49) C dX4_takeRing_81 (by decide) ?_
                exact ih_lp_49_n_9 (k + 1) g_15 (by omega) (by omega) (by omega) (by rw [← tk2_yes hn6.2 hk0 hb9_14]; exact hpl_17) hfr_18 _ _ G _ (lv_sub hl [1, 2, 0] rfl)
        exact lp_49_n_9 _ 0 gv (Nat.lt_succ_self _) (by omega) (by omega) (by
            have h9 : k = nl := by omega
            have h8 := hgv
            rw [h9] at h8
            rw [← tk2_0]
            exact h8) hfv _ _ G _ (lv_sub hl [1, 2, 0] rfl)
      · refine g_aload_n C dX4_takeRing_15 rfl hl 0 rfl ?_
        refine g_iload_n C dX4_takeRing_16 rfl hl 2 rfl ?_
        refine g_co C G (g_runV (As := [.int (iz k)]) (rest := []) (pos := po) C G (c_X4_find l κ B n ad gv po nl (tk1 v t k) k (by omega) hgv (by omega) (by omega)) (cwV 1 C.1.2.2.2.2 gX4_takeRing_X4_find rfl rfl rfl (by decide +kernel) ⟨Nat.le_of_ble_eq_true rfl, Nat.le_of_ble_eq_true rfl⟩) (by omega) hgv.1 (T := TX4) (N := 6) rfl rfl hl rfl (Nat.le_of_ble_eq_true rfl) dX4_takeRing_17 ⟨Nat.le_of_ble_eq_true rfl, Nat.le_of_ble_eq_true rfl⟩) (fun q_19 g9 H locs hw G => ?_) (fun g9 H locs hw G => ?_)
        · obtain ⟨hg9, ⟨b_20, hw⟩ | ⟨b_20, hw⟩⟩ := hw
          all_goals replace hg9 := hg9.symm
          all_goals subst hg9
          · cases hw
            refine lv_astore_n (lv' := [(3, .ref (ad (po + 2 + (k).toNat))), (0, .ref (ad po)), (1, .int (iz t)), (2, .int (iz k))]) C.1.1 C.1.2.1 dX4_takeRing_20 rfl hl (by decide) rfl (fun ls hl => ?_)
            refine g_aload_n C dX4_takeRing_21 rfl hl 0 rfl ?_
            refine lv_ifnull C.1.1 C.1.2.1 dX4_takeRing_22 ?_
            refine g_aload_n C dX4_takeRing_25 rfl hl 1 rfl ?_
            refine g_aload_n C dX4_takeRing_26 rfl hl 0 rfl ?_
            refine g_get C G (pos := po + 2 + (k).toNat) fX4_takeRing_49 (by omega) (hgv.lay (by omega) (by omega)) rfl dX4_takeRing_27 ?_
            rw [show ((tk1 v t k) (4 * k + 4) : Int) = v (4 * k + 4) from (tk1_at (by omega) (Or.inl (by omega)))]
            refine g_ci C G (g_runV (As := [.int (iz (v (4 * k + 4)))]) (rest := []) (pos := po) C G (c_X4_hasTooth l κ B n ad gv po nl (tk1 v t k) (v (4 * k + 4)) (by omega) hgv (hin _ (by omega) (by omega)) (by rw [show tk1 v t k 0 = t from if_pos rfl]; exact ht)) (cwV 1 C.1.2.2.2.2 gX4_takeRing_X4_hasTooth rfl rfl rfl (by decide +kernel) ⟨Nat.le_of_ble_eq_true rfl, Nat.le_of_ble_eq_true rfl⟩) (by omega) hgv.1 (T := TX4) (N := 6) rfl rfl hl rfl (Nat.le_of_ble_eq_true rfl) dX4_takeRing_30 ⟨Nat.le_of_ble_eq_true rfl, Nat.le_of_ble_eq_true rfl⟩) (fun z_22 g9 H locs hw G => ?_)
            obtain ⟨hg9, hw⟩ := hw
            replace hg9 := hg9.symm
            subst hg9
            rcases hw with ⟨b_21, rfl⟩ | ⟨b_21, rfl⟩
            · have hb9_23 : 0 ≤ v (4 * k + 4) ∧ v (4 * k + 4) < t := by have h9 := b_21; rw [show tk1 v t k 0 = t from if_pos rfl] at h9; exact h9
              refine g_if_ne (tgt := 41) C (by decide) dX4_takeRing_33 (by decide) (fun _ => ?_) (fun c9 => absurd c9 (by decide))
              refine lv_iinc (v := iz (k + 1)) (lv' := [(2, .int (iz (k + 1))), (3, .ref (ad (po + 2 + (k).toNat))), (0, .ref (ad po)), (1, .int (iz t))]) C.1.1 C.1.2.1 dX4_takeRing_41 hl (k := 3) rfl (g_inc (by omega)) (by decide) rfl (fun ls hl => ?_)
              refine g_goto (tgt := 7) C dX4_takeRing_44 (by decide) ?_
              exact ih_lp_7_n_6 (k + 1) gv (by omega) (by omega) (by omega) (by rw [← tk1_no hk0 (by first | exact hb9_23 | omega)]; exact hgv) hfv _ _ G _ (lv_sub hl [2, 3, 0] rfl)
            · have hb9_24 : ¬ (0 ≤ v (4 * k + 4) ∧ v (4 * k + 4) < t) := by have h9 := b_21; rw [show tk1 v t k 0 = t from if_pos rfl] at h9; exact h9
              refine g_if_ne (tgt := 41) C (by decide) dX4_takeRing_33 (by decide) (fun c9 => absurd c9 (by decide)) (fun _ => ?_)
              refine g_aload_n C dX4_takeRing_36 rfl hl 0 rfl ?_
              refine g_iconst (a := 0) C dX4_takeRing_37 rfl ?_
              refine g_put C G (pos := po + 2 + (k).toNat) (fs' := [.int (iz ((tk1 v t k) (4 * k + 1))), .int (iz ((tk1 v t k) (4 * k + 2))), .int (iz ((tk1 v t k) (4 * k + 3))), .int (iz 0)]) fwX4_takeRing_49 (by omega) (hgv.lay (by omega) (by omega)) (Nat.le_of_ble_eq_true rfl) rfl rfl rfl dX4_takeRing_38 (fun H locs G => ?_)
              obtain ⟨g_25, hg_26⟩ : ∃ g9, g9 = va_up gv (po + 2 + (k).toNat) (.inr (3, [.int (iz ((tk1 v t k) (4 * k + 1))), .int (iz ((tk1 v t k) (4 * k + 2))), .int (iz ((tk1 v t k) (4 * k + 3))), .int (iz 0)])) := ⟨_, rfl⟩
              rw [← hg_26] at G
              have hpl_27 : isPl κ ad g_25 po nl (v4 (tk1 v t k) k ((tk1 v t k) (4 * k + 1)) ((tk1 v t k) (4 * k + 2)) ((tk1 v t k) (4 * k + 3)) 0) := by rw [hg_26]; exact hgv.layer (by omega) (by omega)
              have hfr_28 : frP g g_25 po := by rw [hg_26]; exact hfv.up (by omega) (by omega)
              refine lv_iinc (v := iz (k + 1)) (lv' := [(2, .int (iz (k + 1))), (3, .ref (ad (po + 2 + (k).toNat))), (0, .ref (ad po)), (1, .int (iz t))]) C.1.1 C.1.2.1 dX4_takeRing_41 hl (k := 3) rfl (g_inc (by omega)) (by decide) rfl (fun ls hl => ?_)
              refine g_goto (tgt := 7) C dX4_takeRing_44 (by decide) ?_
              exact ih_lp_7_n_6 (k + 1) g_25 (by omega) (by omega) (by omega) (by rw [← tk1_yes hk0 hb9_24]; exact hpl_27) hfr_28 _ _ G _ (lv_sub hl [2, 3, 0] rfl)
          · cases hw
        · obtain ⟨hg9, ⟨b_20, hw⟩ | ⟨b_20, hw⟩⟩ := hw
          all_goals replace hg9 := hg9.symm
          all_goals subst hg9
          · cases hw
          · exact absurd (by omega) b_20
  exact lp_7_n_6 _ 0 g_1 (Nat.lt_succ_self _) (by omega) (by omega) (by rw [← tk1_0]; exact hpl_3) hfr_4 _ _ G _ (lv_sub hl [1, 2, 0] rfl)
theorem fX4_dropLayer_33 : gFld wsX4_dropLayer RX4 33 4 1 := ⟨RX4, TX4, 6, rfl, by decide, by decide +kernel, by decide +kernel⟩
theorem fwX4_dropLayer_33 : gFldW wsX4_dropLayer RX4 33 4 1 .int false := ⟨RX4, TX4, 6, tyX4, rfl, by decide, by decide +kernel, by decide +kernel, tyX4_ok, nmX4, rfl, by decide +kernel, by decide +kernel⟩
set_option maxHeartbeats 4000000 in
set_option maxRecDepth 100000 in
theorem c_X4_dropLayer (l : Launch) (κ : gKap) (B n : Nat) (ad : Nat → Nat) (g : Nat → va_E) (po : Nat) (nl : Int) (v : Int → Int) (li : Int) (hpn : po + 10 ≤ n) (hpl : isPl κ ad g po nl v) (hn6 : 0 ≤ nl ∧ nl ≤ 6) (hli : 0 ≤ li ∧ li < nl) : Met l yX4_dropLayer wsX4_dropLayer ({ frames := 2, cells := 0, slots := 0, locals := 45 }) (gPre κ B n ad g [.ref (ad po), .int (iz li)]) (gQv κ B n ad (fun g' => isPl κ ad g' po (nl - 1) (drv nl v li) ∧ frP g g' po)) 0 0 (gFree B) := by
  refine g_met RX4 (cc := cX4_dropLayer) (maxL := 5) (ret := none) (by decide) rfl rfl (Nat.le_of_ble_eq_true rfl) ?_
  intro p e s m args below meth c C hr hlk hnm G ls hl
  have hl : lv_has ls 5 [(0, .ref (ad po)), (1, .int (iz li))] := hl
  refine g_iload_n C dX4_dropLayer_0 rfl hl 1 rfl ?_
  refine lv_istore_n (lv' := [(2, .int (iz li)), (0, .ref (ad po)), (1, .int (iz li))]) C.1.1 C.1.2.1 dX4_dropLayer_1 rfl hl (by decide) rfl (fun ls hl => ?_)
  have lp_2_n_2 : ∀ (k_1 : Nat) (k : Int) (V9 : Int → Int) (gv : Nat → va_E), (nl - k).toNat < k_1 → (li ≤ k) → (k ≤ nl - 1) → (isPl κ ad gv po nl V9) → (frP g gv po) → (∀ i, V9 i = if 4 * li + 1 ≤ i ∧ i ≤ 4 * k then v (i + 4) else v i) → ∀ (H : Heap) (locs : List Loc), gG κ B n ad s gv H locs → ∀ (ls : Array Slot), lv_has ls 5 [(0, .ref (ad po)), (1, .int (iz li)), (2, .int (iz k))] → W p l e ({ frames := 2, cells := 0, slots := 0, locals := 45 }) s m args below meth c H locs 0 0 (MQ below (gQv κ B n ad (fun g' => isPl κ ad g' po (nl - 1) (drv nl v li) ∧ frP g g' po)) args s 0 0 (gFree B)) (F0 m 2 ls []) := by
    intro k_1
    induction k_1 with
    | zero => intro k V9 gv hm; exact absurd hm (Nat.not_lt_zero _)
    | succ k_1 ih_lp_2_n_2 =>
      intro k V9 gv hm hk0 hk1 hgv hfv hV H locs G ls hl
      refine g_iload_n C dX4_dropLayer_2 rfl hl 2 rfl ?_
      refine g_aload_n C dX4_dropLayer_3 rfl hl 0 rfl ?_
      refine g_get C G (pos := po) fX4_dropLayer_33 (by omega) hgv.1 rfl dX4_dropLayer_4 ?_
      refine g_iconst (a := 1) C dX4_dropLayer_7 rfl ?_
      refine g_isub C dX4_dropLayer_8 ?_
      refine g_icmp_ge (tgt := 48) C (by omega) (by omega) dX4_dropLayer_9 (by decide) (fun c_3 => ?_) (fun c_3 => ?_)
      · refine g_aload_n C dX4_dropLayer_48 rfl hl 0 rfl ?_
        refine lv_dup C.1.1 C.1.2.1 dX4_dropLayer_49 rfl ?_
        refine g_get C G (pos := po) fX4_dropLayer_33 (by omega) hgv.1 rfl dX4_dropLayer_50 ?_
        refine g_iconst (a := 1) C dX4_dropLayer_53 rfl ?_
        refine g_isub C dX4_dropLayer_54 ?_
        refine g_put C G (pos := po) (fs' := [.int (iz (V9 0)), .int (iz (nl - 1)), .int (iz (V9 25)), .ref (ad (po + 1)), .ref (ad (po + 8)), .ref (ad (po + 9))]) fwX4_dropLayer_33 (by omega) hgv.1 (Nat.le_of_ble_eq_true rfl) rfl rfl rfl dX4_dropLayer_55 (fun H locs G => ?_)
        obtain ⟨g_4, hg_5⟩ : ∃ g9, g9 = va_up gv po (.inr (4, [.int (iz (V9 0)), .int (iz (nl - 1)), .int (iz (V9 25)), .ref (ad (po + 1)), .ref (ad (po + 8)), .ref (ad (po + 9))])) := ⟨_, rfl⟩
        rw [← hg_5] at G
        have hpl_6 : isPl κ ad g_4 po (nl - 1) V9 := by rw [hg_5]; exact hgv.num
        have hfr_7 : frP g g_4 po := by rw [hg_5]; exact hfv.up (by omega) (by omega)
        refine g_vret C G hr hlk (Nat.le_of_ble_eq_true rfl) (Nat.le_of_ble_eq_true rfl) dX4_dropLayer_58 ?_
        rw [dr_end (show k = nl - 1 by omega) hV] at hpl_6
        exact ⟨hpl_6, hfr_7⟩
      · refine g_aload_n C dX4_dropLayer_12 rfl hl 0 rfl ?_
        refine g_iload_n C dX4_dropLayer_13 rfl hl 2 rfl ?_
        refine g_co C G (g_runV (As := [.int (iz k)]) (rest := []) (pos := po) C G (c_X4_find l κ B n ad gv po nl V9 k (by omega) hgv (by omega) (by omega)) (cwV 1 C.1.2.2.2.2 gX4_dropLayer_X4_find rfl rfl rfl (by decide +kernel) ⟨Nat.le_of_ble_eq_true rfl, Nat.le_of_ble_eq_true rfl⟩) (by omega) hgv.1 (T := TX4) (N := 6) rfl rfl hl rfl (Nat.le_of_ble_eq_true rfl) dX4_dropLayer_14 ⟨Nat.le_of_ble_eq_true rfl, Nat.le_of_ble_eq_true rfl⟩) (fun q_8 g9 H locs hw G => ?_) (fun g9 H locs hw G => ?_)
        · obtain ⟨hg9, ⟨b_9, hw⟩ | ⟨b_9, hw⟩⟩ := hw
          all_goals replace hg9 := hg9.symm
          all_goals subst hg9
          · cases hw
            refine lv_astore_n (lv' := [(3, .ref (ad (po + 2 + (k).toNat))), (0, .ref (ad po)), (1, .int (iz li)), (2, .int (iz k))]) C.1.1 C.1.2.1 dX4_dropLayer_17 rfl hl (by decide) rfl (fun ls hl => ?_)
            refine g_aload_n C dX4_dropLayer_18 rfl hl 1 rfl ?_
            refine g_iload_n C dX4_dropLayer_19 rfl hl 3 rfl ?_
            refine g_iconst (a := 1) C dX4_dropLayer_20 rfl ?_
            refine g_iadd C dX4_dropLayer_21 ?_
            refine g_co C G (g_runV (As := [.int (iz (k + 1))]) (rest := []) (pos := po) C G (c_X4_find l κ B n ad gv po nl V9 (k + 1) (by omega) hgv (by omega) (by omega)) (cwV 1 C.1.2.2.2.2 gX4_dropLayer_X4_find rfl rfl rfl (by decide +kernel) ⟨Nat.le_of_ble_eq_true rfl, Nat.le_of_ble_eq_true rfl⟩) (by omega) hgv.1 (T := TX4) (N := 6) rfl rfl hl rfl (Nat.le_of_ble_eq_true rfl) dX4_dropLayer_22 ⟨Nat.le_of_ble_eq_true rfl, Nat.le_of_ble_eq_true rfl⟩) (fun q_10 g9 H locs hw G => ?_) (fun g9 H locs hw G => ?_)
            · obtain ⟨hg9, ⟨b_11, hw⟩ | ⟨b_11, hw⟩⟩ := hw
              all_goals replace hg9 := hg9.symm
              all_goals subst hg9
              · cases hw
                refine lv_astore (lv' := [(4, .ref (ad (po + 2 + (k + 1).toNat))), (3, .ref (ad (po + 2 + (k).toNat))), (0, .ref (ad po)), (1, .int (iz li)), (2, .int (iz k))]) C.1.1 C.1.2.1 dX4_dropLayer_25 hl (by decide) rfl (fun ls hl => ?_)
                refine g_aload_n C dX4_dropLayer_27 rfl hl 1 rfl ?_
                refine lv_ifnull C.1.1 C.1.2.1 dX4_dropLayer_28 ?_
                refine g_aload C dX4_dropLayer_31 hl 0 rfl ?_
                refine lv_ifnull C.1.1 C.1.2.1 dX4_dropLayer_33 ?_
                refine g_aload_n C dX4_dropLayer_36 rfl hl 1 rfl ?_
                refine g_aload C dX4_dropLayer_37 hl 0 rfl ?_
                refine g_cv C G (g_runV (As := [.ref (ad (po + 2 + (k + 1).toNat))]) (rest := []) (pos := po + 2 + (k).toNat) C G (c_X3_become l κ B n ad gv (po + 2 + (k).toNat) (V9 (4 * k + 1)) (V9 (4 * k + 2)) (V9 (4 * k + 3)) (V9 (4 * k + 4)) (po + 2 + (k + 1).toNat) (V9 (4 * (k + 1) + 1)) (V9 (4 * (k + 1) + 2)) (V9 (4 * (k + 1) + 3)) (V9 (4 * (k + 1) + 4)) (by omega) (hgv.lay (by omega) (by omega)) (by omega) (hgv.lay (by omega) (by omega)) (by omega)) (cwV 1 C.1.2.2.2.2 gX4_dropLayer_X3_become rfl rfl rfl (by decide +kernel) ⟨Nat.le_of_ble_eq_true rfl, Nat.le_of_ble_eq_true rfl⟩) (by omega) (hgv.lay (by omega) (by omega)) (T := TX3) (N := 4) rfl rfl hl rfl (Nat.le_of_ble_eq_true rfl) dX4_dropLayer_39 ⟨Nat.le_of_ble_eq_true rfl, Nat.le_of_ble_eq_true rfl⟩) (fun g9 H locs hw G => ?_)
                subst hw
                obtain ⟨g_12, hg_13⟩ : ∃ g9, g9 = va_up gv (po + 2 + (k).toNat) (.inr (3, [.int (iz (V9 (4 * (k + 1) + 1))), .int (iz (V9 (4 * (k + 1) + 2))), .int (iz (V9 (4 * (k + 1) + 3))), .int (iz (V9 (4 * (k + 1) + 4)))])) := ⟨_, rfl⟩
                rw [← hg_13] at G
                have hpl_14 : isPl κ ad g_12 po nl (v4 V9 k (V9 (4 * (k + 1) + 1)) (V9 (4 * (k + 1) + 2)) (V9 (4 * (k + 1) + 3)) (V9 (4 * (k + 1) + 4))) := by rw [hg_13]; exact hgv.layer (by omega) (by omega)
                have hfr_15 : frP g g_12 po := by rw [hg_13]; exact hfv.up (by omega) (by omega)
                refine lv_iinc (v := iz (k + 1)) (lv' := [(2, .int (iz (k + 1))), (4, .ref (ad (po + 2 + (k + 1).toNat))), (3, .ref (ad (po + 2 + (k).toNat))), (0, .ref (ad po)), (1, .int (iz li))]) C.1.1 C.1.2.1 dX4_dropLayer_42 hl (k := 4) rfl (g_inc (by omega)) (by decide) rfl (fun ls hl => ?_)
                refine g_goto (tgt := 2) C dX4_dropLayer_45 (by decide) ?_
                exact ih_lp_2_n_2 (k + 1) (v4 V9 k (V9 (4 * (k + 1) + 1)) (V9 (4 * (k + 1) + 2)) (V9 (4 * (k + 1) + 3)) (V9 (4 * (k + 1) + 4))) g_12 (by omega) (by omega) (by omega) hpl_14 hfr_15 (dr_step hli.1 hk0 hV) _ _ G _ (lv_sub hl [3, 4, 0] rfl)
              · cases hw
            · obtain ⟨hg9, ⟨b_11, hw⟩ | ⟨b_11, hw⟩⟩ := hw
              all_goals replace hg9 := hg9.symm
              all_goals subst hg9
              · cases hw
              · exact absurd (by omega) b_11
          · cases hw
        · obtain ⟨hg9, ⟨b_9, hw⟩ | ⟨b_9, hw⟩⟩ := hw
          all_goals replace hg9 := hg9.symm
          all_goals subst hg9
          · cases hw
          · exact absurd (by omega) b_9
  exact lp_2_n_2 _ li v g (Nat.lt_succ_self _) (by omega) (by omega) hpl frP.rf (fun i => by rw [if_neg (by omega)]) _ _ G _ (lv_sub hl [1, 2, 0] rfl)
theorem fX4_become_9 : gFld wsX4_become RX4 9 4 0 := ⟨RX4, TX4, 6, rfl, by decide, by decide +kernel, by decide +kernel⟩
theorem fX4_become_33 : gFld wsX4_become RX4 33 4 1 := ⟨RX4, TX4, 6, rfl, by decide, by decide +kernel, by decide +kernel⟩
theorem fX4_become_56 : gFld wsX4_become RX4 56 4 2 := ⟨RX4, TX4, 6, rfl, by decide, by decide +kernel, by decide +kernel⟩
theorem fX4_become_40 : gFld wsX4_become RX4 40 3 0 := ⟨RX3, TX3, 4, rfl, by decide, by decide +kernel, by decide +kernel⟩
theorem fX4_become_43 : gFld wsX4_become RX4 43 3 1 := ⟨RX3, TX3, 4, rfl, by decide, by decide +kernel, by decide +kernel⟩
theorem fX4_become_46 : gFld wsX4_become RX4 46 3 2 := ⟨RX3, TX3, 4, rfl, by decide, by decide +kernel, by decide +kernel⟩
theorem fX4_become_49 : gFld wsX4_become RX4 49 3 3 := ⟨RX3, TX3, 4, rfl, by decide, by decide +kernel, by decide +kernel⟩
set_option maxHeartbeats 4000000 in
set_option maxRecDepth 100000 in
theorem c_X4_become (l : Launch) (κ : gKap) (B n : Nat) (ad : Nat → Nat) (g : Nat → va_E) (po : Nat) (nl : Int) (v : Int → Int) (pp : Nat) (nl2 : Int) (v2 : Int → Int) (hpn : po + 10 ≤ n) (hpl : isPl κ ad g po nl v) (hpn2 : pp + 10 ≤ n) (hpl2 : isPl κ ad g pp nl2 v2) (hdis : po + 10 ≤ pp ∨ pp + 10 ≤ po) (hn62 : 0 ≤ nl2 ∧ nl2 ≤ 6) (h252 : 0 ≤ v2 25 ∧ v2 25 ≤ 8) (hin : inV v) (hin2 : inV v2) : Met l yX4_become wsX4_become ({ frames := 2, cells := 0, slots := 0, locals := 49 }) (gPre κ B n ad g [.ref (ad po), .ref (ad pp)]) (gQv κ B n ad (fun g' => ∃ U9, isPl κ ad g' po nl2 U9 ∧ frP g g' po ∧ sim nl2 U9 v2 ∧ inV U9)) 0 0 (gFree B) := by
  refine g_met RX4 (cc := cX4_become) (maxL := 4) (ret := none) (by decide) rfl rfl (Nat.le_of_ble_eq_true rfl) ?_
  intro p e s m args below meth c C hr hlk hnm G ls hl
  have hl : lv_has ls 4 [(0, .ref (ad po)), (1, .ref (ad pp))] := hl
  refine g_aload_n C dX4_become_0 rfl hl 0 rfl ?_
  refine g_aload_n C dX4_become_1 rfl hl 1 rfl ?_
  refine g_get C G (pos := pp) fX4_become_9 (by omega) hpl2.1 rfl dX4_become_2 ?_
  refine g_cv C G (g_runV (As := [.int (iz (v2 0))]) (rest := []) (pos := po) C G (c_X4_empty l κ B n ad g po nl v (v2 0) (by omega) hpl) (cwV 1 C.1.2.2.2.2 gX4_become_X4_empty rfl rfl rfl (by decide +kernel) ⟨Nat.le_of_ble_eq_true rfl, Nat.le_of_ble_eq_true rfl⟩) (by omega) hpl.1 (T := TX4) (N := 6) rfl rfl hl rfl (Nat.le_of_ble_eq_true rfl) dX4_become_5 ⟨Nat.le_of_ble_eq_true rfl, Nat.le_of_ble_eq_true rfl⟩) (fun g_1 H locs hw9 G => ?_)
  obtain ⟨hpl_2, hfr_3⟩ := hw9
  have hpl_5 : isPl κ ad g_1 pp nl2 v2 := hpl2.far (fun _ _ _ => hfr_3 _ (by omega))
  have hfr_6 : frP g g_1 po := frP.rf.tr hfr_3
  refine g_iconst (a := 0) C dX4_become_8 rfl ?_
  refine lv_istore_n (lv' := [(2, .int (iz 0)), (0, .ref (ad po)), (1, .ref (ad pp))]) C.1.1 C.1.2.1 dX4_become_9 rfl hl (by decide) rfl (fun ls hl => ?_)
  have lp_10_n_8 : ∀ (k_7 : Nat) (k : Int) (V9 : Int → Int) (gv : Nat → va_E), (nl2 - k).toNat < k_7 → (0 ≤ k) → (k ≤ nl2) → (isPl κ ad gv po k V9) → (frP g gv po) → (isPl κ ad gv pp nl2 v2) → (V9 0 = v2 0) → (V9 25 = 0) → (∀ i, 1 ≤ i → i ≤ 4 * k → V9 i = v2 i) → (inV V9) → ∀ (H : Heap) (locs : List Loc), gG κ B n ad s gv H locs → ∀ (ls : Array Slot), lv_has ls 4 [(0, .ref (ad po)), (1, .ref (ad pp)), (2, .int (iz k))] → W p l e ({ frames := 2, cells := 0, slots := 0, locals := 49 }) s m args below meth c H locs 0 0 (MQ below (gQv κ B n ad (fun g' => ∃ U9, isPl κ ad g' po nl2 U9 ∧ frP g g' po ∧ sim nl2 U9 v2 ∧ inV U9)) args s 0 0 (gFree B)) (F0 m 10 ls []) := by
    intro k_7
    induction k_7 with
    | zero => intro k V9 gv hm; exact absurd hm (Nat.not_lt_zero _)
    | succ k_7 ih_lp_10_n_8 =>
      intro k V9 gv hm hk0 hk1 hgv hfv hgp hV0 hV25 hVl hVi H locs G ls hl
      refine g_iload_n C dX4_become_10 rfl hl 2 rfl ?_
      refine g_aload_n C dX4_become_11 rfl hl 1 rfl ?_
      refine g_get C G (pos := pp) fX4_become_33 (by omega) hgp.1 rfl dX4_become_12 ?_
      refine g_icmp_ge (tgt := 54) C (by omega) (by omega) dX4_become_15 (by decide) (fun c_9 => ?_) (fun c_9 => ?_)
      · refine g_iconst (a := 0) C dX4_become_54 rfl ?_
        refine lv_istore_n (lv' := [(2, .int (iz 0)), (0, .ref (ad po)), (1, .ref (ad pp))]) C.1.1 C.1.2.1 dX4_become_55 rfl hl (by decide) rfl (fun ls hl => ?_)
        have lp_56_n_11 : ∀ (k_10 : Nat) (i : Int) (U9 : Int → Int) (gw : Nat → va_E), (v2 25 - i).toNat < k_10 → (0 ≤ i) → (i ≤ v2 25) → (isPl κ ad gw po nl2 U9) → (frP g gw po) → (isPl κ ad gw pp nl2 v2) → (U9 0 = v2 0) → (U9 25 = i) → (∀ j, 1 ≤ j → j ≤ 4 * nl2 → U9 j = v2 j) → (∀ j, 26 ≤ j → j < 26 + 2 * i → U9 j = v2 j) → (inV U9) → ∀ (H : Heap) (locs : List Loc), gG κ B n ad s gw H locs → ∀ (ls : Array Slot), lv_has ls 4 [(0, .ref (ad po)), (1, .ref (ad pp)), (2, .int (iz i))] → W p l e ({ frames := 2, cells := 0, slots := 0, locals := 49 }) s m args below meth c H locs 0 0 (MQ below (gQv κ B n ad (fun g' => ∃ U9, isPl κ ad g' po nl2 U9 ∧ frP g g' po ∧ sim nl2 U9 v2 ∧ inV U9)) args s 0 0 (gFree B)) (F0 m 56 ls []) := by
          intro k_10
          induction k_10 with
          | zero => intro i U9 gw hm; exact absurd hm (Nat.not_lt_zero _)
          | succ k_10 ih_lp_56_n_11 =>
            intro i U9 gw hm hi0 hi1 hgw hfw hgq hU0 hU25 hUl hUs hUi H locs G ls hl
            refine g_iload_n C dX4_become_56 rfl hl 2 rfl ?_
            refine g_aload_n C dX4_become_57 rfl hl 1 rfl ?_
            refine g_get C G (pos := pp) fX4_become_56 (by omega) hgq.1 rfl dX4_become_58 ?_
            refine g_icmp_ge (tgt := 84) C (by omega) (by omega) dX4_become_61 (by decide) (fun c_12 => ?_) (fun c_12 => ?_)
            · refine g_vret C G hr hlk (Nat.le_of_ble_eq_true rfl) (Nat.le_of_ble_eq_true rfl) dX4_become_84 ?_
              exact ⟨U9, hgw, hfw, ⟨hU0, by omega, hUl, fun j j0 j1 => hUs j j0 (by omega)⟩, hUi⟩
            · refine g_aload_n C dX4_become_64 rfl hl 0 rfl ?_
              refine g_aload_n C dX4_become_65 rfl hl 1 rfl ?_
              refine g_iload_n C dX4_become_66 rfl hl 2 rfl ?_
              refine g_ci C G (g_runV (As := [.int (iz i)]) (rest := [.ref (ad po)]) (pos := pp) C G (c_X4_sightedAngle l κ B n ad gw pp nl2 v2 i (by omega) hgq (by omega)) (cwV 1 C.1.2.2.2.2 gX4_become_X4_sightedAngle rfl rfl rfl (by decide +kernel) ⟨Nat.le_of_ble_eq_true rfl, Nat.le_of_ble_eq_true rfl⟩) (by omega) hgq.1 (T := TX4) (N := 6) rfl rfl hl rfl (Nat.le_of_ble_eq_true rfl) dX4_become_67 ⟨Nat.le_of_ble_eq_true rfl, Nat.le_of_ble_eq_true rfl⟩) (fun z_13 g9 H locs hw G => ?_)
              obtain ⟨hg9, h_14⟩ := hw
              replace hg9 := hg9.symm
              subst hg9
              subst h_14
              refine g_aload_n C dX4_become_70 rfl hl 1 rfl ?_
              refine g_iload_n C dX4_become_71 rfl hl 2 rfl ?_
              refine g_ci C G (g_runV (As := [.int (iz i)]) (rest := [.int (iz (v2 (26 + 2 * i))), .ref (ad po)]) (pos := pp) C G (c_X4_sightedRadius l κ B n ad gw pp nl2 v2 i (by omega) hgq (by omega)) (cwV 1 C.1.2.2.2.2 gX4_become_X4_sightedRadius rfl rfl rfl (by decide +kernel) ⟨Nat.le_of_ble_eq_true rfl, Nat.le_of_ble_eq_true rfl⟩) (by omega) hgq.1 (T := TX4) (N := 6) rfl rfl hl rfl (Nat.le_of_ble_eq_true rfl) dX4_become_72 ⟨Nat.le_of_ble_eq_true rfl, Nat.le_of_ble_eq_true rfl⟩) (fun z_15 g9 H locs hw G => ?_)
              obtain ⟨hg9, h_16⟩ := hw
              replace hg9 := hg9.symm
              subst hg9
              subst h_16
              refine g_cv C G (g_runV (As := [.int (iz (v2 (26 + 2 * i))), .int (iz (v2 (27 + 2 * i)))]) (rest := []) (pos := po) C G (c_X4_note l κ B n ad gw po nl2 U9 (v2 (26 + 2 * i)) (v2 (27 + 2 * i)) (by omega) hgw (by omega)) (cwV 2 C.1.2.2.2.2 gX4_become_X4_note rfl rfl rfl (by decide +kernel) ⟨Nat.le_of_ble_eq_true rfl, Nat.le_of_ble_eq_true rfl⟩) (by omega) hgw.1 (T := TX4) (N := 6) rfl rfl hl rfl (Nat.le_of_ble_eq_true rfl) dX4_become_75 ⟨Nat.le_of_ble_eq_true rfl, Nat.le_of_ble_eq_true rfl⟩) (fun g_17 H locs hw9 G => ?_)
              obtain ⟨hpl_18, hfr_19⟩ := hw9
              have hpl_21 : isPl κ ad g_17 pp nl2 v2 := hgq.far (fun _ _ _ => hfr_19 _ (by omega))
              have hfr_22 : frP g g_17 po := hfw.tr hfr_19
              refine lv_iinc (v := iz (i + 1)) (lv' := [(2, .int (iz (i + 1))), (0, .ref (ad po)), (1, .ref (ad pp))]) C.1.1 C.1.2.1 dX4_become_78 hl (k := 2) rfl (g_inc (by omega)) (by decide) rfl (fun ls hl => ?_)
              refine g_goto (tgt := 56) C dX4_become_81 (by decide) ?_
              exact ih_lp_56_n_11 (i + 1) (ntv U9 (v2 (26 + 2 * i)) (v2 (27 + 2 * i))) g_17 (by omega) (by omega) (by omega) hpl_18 hfr_22 hpl_21 (bc_n0 hU0 hU25 hi0 (by omega)) (bc_n25 hU25 (by omega)) (bc_nl hU25 hi0 (by omega) (by omega) hUl) (bc_ns hU25 hi0 (by omega) hUs) (hUi.ntv (by omega) (hin2 _ (by omega) (by omega)) (hin2 _ (by omega) (by omega))) _ _ G _ (lv_sub hl [1, 2, 0] rfl)
        exact lp_56_n_11 _ 0 V9 gv (Nat.lt_succ_self _) (by omega) (by omega) (by rw [← show k = nl2 by omega]; exact hgv) hfv hgp hV0 hV25 (fun j j0 j1 => hVl j j0 (by omega)) (fun j j0 j1 => absurd j1 (by omega)) hVi _ _ G _ (lv_sub hl [1, 2, 0] rfl)
      · refine g_aload_n C dX4_become_18 rfl hl 1 rfl ?_
        refine g_iload_n C dX4_become_19 rfl hl 2 rfl ?_
        refine g_co C G (g_runV (As := [.int (iz k)]) (rest := []) (pos := pp) C G (c_X4_find l κ B n ad gv pp nl2 v2 k (by omega) hgp (by omega) (by omega)) (cwV 1 C.1.2.2.2.2 gX4_become_X4_find rfl rfl rfl (by decide +kernel) ⟨Nat.le_of_ble_eq_true rfl, Nat.le_of_ble_eq_true rfl⟩) (by omega) hgp.1 (T := TX4) (N := 6) rfl rfl hl rfl (Nat.le_of_ble_eq_true rfl) dX4_become_20 ⟨Nat.le_of_ble_eq_true rfl, Nat.le_of_ble_eq_true rfl⟩) (fun q_23 g9 H locs hw G => ?_) (fun g9 H locs hw G => ?_)
        · obtain ⟨hg9, ⟨b_24, hw⟩ | ⟨b_24, hw⟩⟩ := hw
          all_goals replace hg9 := hg9.symm
          all_goals subst hg9
          · cases hw
            refine lv_astore_n (lv' := [(3, .ref (ad (pp + 2 + (k).toNat))), (0, .ref (ad po)), (1, .ref (ad pp)), (2, .int (iz k))]) C.1.1 C.1.2.1 dX4_become_23 rfl hl (by decide) rfl (fun ls hl => ?_)
            refine g_aload_n C dX4_become_24 rfl hl 0 rfl ?_
            refine lv_ifnull C.1.1 C.1.2.1 dX4_become_25 ?_
            refine g_aload_n C dX4_become_28 rfl hl 1 rfl ?_
            refine g_aload_n C dX4_become_29 rfl hl 0 rfl ?_
            refine g_get C G (pos := pp + 2 + (k).toNat) fX4_become_40 (by omega) (hgp.lay (by omega) (by omega)) rfl dX4_become_30 ?_
            refine g_aload_n C dX4_become_33 rfl hl 0 rfl ?_
            refine g_get C G (pos := pp + 2 + (k).toNat) fX4_become_43 (by omega) (hgp.lay (by omega) (by omega)) rfl dX4_become_34 ?_
            refine g_aload_n C dX4_become_37 rfl hl 0 rfl ?_
            refine g_get C G (pos := pp + 2 + (k).toNat) fX4_become_46 (by omega) (hgp.lay (by omega) (by omega)) rfl dX4_become_38 ?_
            refine g_aload_n C dX4_become_41 rfl hl 0 rfl ?_
            refine g_get C G (pos := pp + 2 + (k).toNat) fX4_become_49 (by omega) (hgp.lay (by omega) (by omega)) rfl dX4_become_42 ?_
            refine g_cv C G (g_runV (As := [.int (iz (v2 (4 * k + 1))), .int (iz (v2 (4 * k + 2))), .int (iz (v2 (4 * k + 3))), .int (iz (v2 (4 * k + 4)))]) (rest := []) (pos := po) C G (c_X4_putLayer l κ B n ad gv po k V9 (v2 (4 * k + 1)) (v2 (4 * k + 2)) (v2 (4 * k + 3)) (v2 (4 * k + 4)) (by omega) hgv (by omega)) (cwV 4 C.1.2.2.2.2 gX4_become_X4_putLayer rfl rfl rfl (by decide +kernel) ⟨Nat.le_of_ble_eq_true rfl, Nat.le_of_ble_eq_true rfl⟩) (by omega) hgv.1 (T := TX4) (N := 6) rfl rfl hl rfl (Nat.le_of_ble_eq_true rfl) dX4_become_45 ⟨Nat.le_of_ble_eq_true rfl, Nat.le_of_ble_eq_true rfl⟩) (fun g_25 H locs hw9 G => ?_)
            obtain ⟨hpl_26, hfr_27⟩ := hw9
            have hpl_29 : isPl κ ad g_25 pp nl2 v2 := hgp.far (fun _ _ _ => hfr_27 _ (by omega))
            have hfr_30 : frP g g_25 po := hfv.tr hfr_27
            refine lv_iinc (v := iz (k + 1)) (lv' := [(2, .int (iz (k + 1))), (3, .ref (ad (pp + 2 + (k).toNat))), (0, .ref (ad po)), (1, .ref (ad pp))]) C.1.1 C.1.2.1 dX4_become_48 hl (k := 3) rfl (g_inc (by omega)) (by decide) rfl (fun ls hl => ?_)
            refine g_goto (tgt := 10) C dX4_become_51 (by decide) ?_
            exact ih_lp_10_n_8 (k + 1) (v4 V9 k (v2 (4 * k + 1)) (v2 (4 * k + 2)) (v2 (4 * k + 3)) (v2 (4 * k + 4))) g_25 (by omega) (by omega) (by omega) hpl_26 hfr_30 hpl_29 ((v4_at (by omega)).trans hV0) ((v4_at (by omega)).trans hV25) (bc_layer hVl) (hVi.v4 (hin2 _ (by omega) (by omega)) (hin2 _ (by omega) (by omega)) (hin2 _ (by omega) (by omega)) (hin2 _ (by omega) (by omega))) _ _ G _ (lv_sub hl [2, 3, 0] rfl)
          · cases hw
        · obtain ⟨hg9, ⟨b_24, hw⟩ | ⟨b_24, hw⟩⟩ := hw
          all_goals replace hg9 := hg9.symm
          all_goals subst hg9
          · cases hw
          · exact absurd (by omega) b_24
  exact lp_10_n_8 _ 0 (vu (vu v 0 (v2 0)) 25 0) g_1 (Nat.lt_succ_self _) (by omega) (by omega) hpl_2 hfr_6 hpl_5 (by rw [vu_ne (by omega), vu_self]) (vu_self _ _ _) (fun i i0 i1 => absurd i1 (by omega)) ((hin.vu (hin2 0 (by omega) (by omega))).vu ⟨by omega, by omega⟩) _ _ G _ (lv_sub hl [1, 2, 0] rfl)
