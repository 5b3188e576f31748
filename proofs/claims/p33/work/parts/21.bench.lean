theorem fX0_differentStarts_52 : gFld wsX0_differentStarts RX0 52 3 0 := ⟨RX3, TX3, 4, rfl, by decide, by decide +kernel, by decide +kernel⟩
set_option maxHeartbeats 4000000 in
set_option maxRecDepth 100000 in
theorem c_X0_differentStarts (l : Launch) (κ : gKap) (B n : Nat) (ad : Nat → Nat) (g : Nat → va_E) (ring : Int) (lo : Nat) (w : Int) (sd : Int) (ho : Int) (st0 : Int) (hrg : 12 ≤ ring ∧ ring ≤ 96) (hlp : lo < n) (hel : g lo = oL w sd ho st0) (hok : okL w sd ho) : Met l yX0_differentStarts wsX0_differentStarts ({ frames := 1, cells := 0, slots := 0, locals := 30 }) (gPre κ B n ad g [.int (iz ring), .ref (ad lo)]) (gQi κ B n ad (fun z g' => g' = g ∧ (1 ≤ z ∧ z ≤ ring ∧ z = gd ring w))) 0 0 (gFree B) := by
  refine g_met RX0 (cc := cX0_differentStarts) (maxL := 2) (ret := (some .int)) (by decide) rfl rfl (Nat.le_of_ble_eq_true rfl) ?_
  intro p e s m args below meth c C hr hlk hnm G ls hl
  have hl : lv_has ls 2 [(0, .int (iz ring)), (1, .ref (ad lo))] := hl
  refine g_iload_n C dX0_differentStarts_0 rfl hl 0 rfl ?_
  refine g_i2l C (by omega) dX0_differentStarts_1 ?_
  refine g_aload_n C dX0_differentStarts_2 rfl hl 1 rfl ?_
  refine g_get C G (pos := lo) fX0_differentStarts_52 (by omega) hel rfl dX0_differentStarts_3 ?_
  refine g_i2l C (by omega) dX0_differentStarts_6 ?_
  refine g_cl C G (g_runN (As := [.long (jz ring), .long (jz w)]) (rest := []) C G (c_X7_commonDivisor l κ B n ad g ring w (by omega) (by omega) (by omega) (by omega)) (g_cwN (index := 55) 2 C gX0_differentStarts_X7_commonDivisor_n55 rfl rfl rfl (by decide +kernel) (by decide +kernel) (by decide +kernel) (by decide +kernel) ⟨Nat.le_of_ble_eq_true rfl, Nat.le_of_ble_eq_true rfl⟩) rfl hl rfl (Nat.le_of_ble_eq_true rfl) dX0_differentStarts_7 ⟨Nat.le_of_ble_eq_true rfl, Nat.le_of_ble_eq_true rfl⟩) (fun z_1 g9 H locs hw G => ?_)
  obtain ⟨hg9, h_2⟩ := hw
  replace hg9 := hg9.symm
  subst hg9
  refine g_l2i C dX0_differentStarts_10 ?_
  refine g_iret C G hr hlk (Nat.le_of_ble_eq_true rfl) (Nat.le_of_ble_eq_true rfl) dX0_differentStarts_11 ?_
  have hgl := gd_le (b := w) (show 0 < ring by omega)
  exact ⟨rfl, by omega, by omega, h_2.2⟩
theorem fX0_cutOne_12 : gFld wsX0_cutOne RX0 12 0 0 := ⟨RX0, TX0, 3, rfl, by decide, by decide +kernel, by decide +kernel⟩
set_option maxHeartbeats 4000000 in
set_option maxRecDepth 100000 in
theorem c_X0_cutOne (l : Launch) (κ : gKap) (B n : Nat) (ad : Nat → Nat) (g : Nat → va_E) (bo : Nat) (ring : Int) (lo : Nat) (w : Int) (sd : Int) (ho : Int) (st0 : Int) (hbn9 : bo + 6 ≤ n) (hbn : isBn κ ad g bo) (hrg : 12 ≤ ring ∧ ring ≤ 96) (hlp : lo < n) (hel : g lo = oL w sd ho st0) (hlo : lo < bo ∨ bo + 6 ≤ lo) (hok : okL w sd ho) (hst : 0 ≤ st0 ∧ st0 < ring) : Met l yX0_cutOne wsX0_cutOne ({ frames := 3, cells := 0, slots := 0, locals := 77 }) (gPre κ B n ad g [.ref (ad bo), .int (iz ring), .ref (ad lo)]) (gQo κ B n ad (fun o g' => o = some (bo + 1) ∧ isBn κ ad g' bo ∧ frB g g' bo ∧ ∃ V9, g' (bo + 1 + 1) = aW κ 602 V9 ∧ repW V9 (fun a r => PT ring w sd ho st0 a r))) 0 0 (gFree B) := by
  refine g_met RX0 (cc := cX0_cutOne) (maxL := 3) (ret := (some (.object "RosettePlate$PointSet"))) (by decide) rfl rfl (Nat.le_of_ble_eq_true rfl) ?_
  intro p e s m args below meth c C hr hlk hnm G ls hl
  have hl : lv_has ls 3 [(0, .ref (ad bo)), (1, .int (iz ring)), (2, .ref (ad lo))] := hl
  obtain ⟨hb0, hb1, hb3, ⟨W1, hb2⟩, ⟨W2, hb4⟩, tw9, ts9, th9, tt9, hb5⟩ := id hbn
  refine g_aload_n C dX0_cutOne_0 rfl hl 0 rfl ?_
  refine g_get C G (pos := bo) fX0_cutOne_12 (by omega) hb0 rfl dX0_cutOne_1 ?_
  refine g_cv C G (g_runV (As := []) (rest := []) (pos := bo + 1) C G (c_X5_clear l κ B n ad g (bo + 1) W1 (by omega) hb1 hb2) (cwV 0 C.1.2.2.2.2 gX0_cutOne_X5_clear rfl rfl rfl (by decide +kernel) ⟨Nat.le_of_ble_eq_true rfl, Nat.le_of_ble_eq_true rfl⟩) (by omega) hb1 (T := TX5) (N := 1) rfl rfl hl rfl (Nat.le_of_ble_eq_true rfl) dX0_cutOne_4 ⟨Nat.le_of_ble_eq_true rfl, Nat.le_of_ble_eq_true rfl⟩) (fun g9 H locs hw9 G => ?_)
  obtain ⟨W_1, hw9, hW_2⟩ := hw9
  subst hw9
  obtain ⟨g_3, hg_4⟩ : ∃ g9, g9 = va_up g (bo + 1 + 1) (aW κ 602 W_1) := ⟨_, rfl⟩
  rw [← hg_4] at G
  have hc_5 : g_3 bo = .inr (0, [.ref (ad (bo + 1)), .ref (ad (bo + 3)), .ref (ad (bo + 5))]) := by rw [hg_4, gu_ne (by omega)]; exact hb0
  have hc_6 : g_3 (bo + 1) = .inr (5, [.ref (ad (bo + 1 + 1))]) := by rw [hg_4, gu_ne (by omega)]; exact hb1
  have hc_7 : g_3 (bo + 3) = .inr (5, [.ref (ad (bo + 3 + 1))]) := by rw [hg_4, gu_ne (by omega)]; exact hb3
  have hc_8 : g_3 (bo + 1 + 1) = aW κ 602 W_1 := by rw [hg_4]; exact gu_self _ _ _
  have hc_9 : g_3 (bo + 3 + 1) = aW κ 602 W2 := by rw [hg_4, gu_ne (by omega)]; exact hb4
  have hc_10 : g_3 (bo + 5) = .inr (3, [.int (iz tw9), .int (iz ts9), .int (iz th9), .int (iz tt9)]) := by rw [hg_4, gu_ne (by omega)]; exact hb5
  have hc_11 : g_3 lo = .inr (3, [.int (iz w), .int (iz sd), .int (iz ho), .int (iz st0)]) := by rw [hg_4, gu_ne (by omega)]; exact hel
  refine g_aload_n C dX0_cutOne_7 rfl hl 0 rfl ?_
  refine g_get C G (pos := bo) fX0_cutOne_12 (by omega) hc_5 rfl dX0_cutOne_8 ?_
  refine g_iload_n C dX0_cutOne_11 rfl hl 1 rfl ?_
  refine g_aload_n C dX0_cutOne_12 rfl hl 2 rfl ?_
  refine g_cv C G (g_runV (As := [.int (iz ring), .ref (ad lo)]) (rest := []) (pos := bo + 1) C G (c_X5_cutRosette l κ B n ad g_3 (bo + 1) W_1 lo w sd ho st0 (fun _ _ => False) ring (by omega) hc_6 hc_8 (by omega) hc_11 (by omega) hok (by omega) hst (repW.zero hW_2)) (cwV 2 C.1.2.2.2.2 gX0_cutOne_X5_cutRosette rfl rfl rfl (by decide +kernel) ⟨Nat.le_of_ble_eq_true rfl, Nat.le_of_ble_eq_true rfl⟩) (by omega) hc_6 (T := TX5) (N := 1) rfl rfl hl rfl (Nat.le_of_ble_eq_true rfl) dX0_cutOne_13 ⟨Nat.le_of_ble_eq_true rfl, Nat.le_of_ble_eq_true rfl⟩) (fun g9 H locs hw9 G => ?_)
  obtain ⟨W_12, hw9, hW_13⟩ := hw9
  subst hw9
  obtain ⟨g_14, hg_15⟩ : ∃ g9, g9 = va_up g_3 (bo + 1 + 1) (aW κ 602 W_12) := ⟨_, rfl⟩
  rw [← hg_15] at G
  have hc_16 : g_14 bo = .inr (0, [.ref (ad (bo + 1)), .ref (ad (bo + 3)), .ref (ad (bo + 5))]) := by rw [hg_15, gu_ne (by omega)]; exact hc_5
  have hc_17 : g_14 (bo + 1) = .inr (5, [.ref (ad (bo + 1 + 1))]) := by rw [hg_15, gu_ne (by omega)]; exact hc_6
  have hc_18 : g_14 (bo + 3) = .inr (5, [.ref (ad (bo + 3 + 1))]) := by rw [hg_15, gu_ne (by omega)]; exact hc_7
  have hc_19 : g_14 (bo + 1 + 1) = aW κ 602 W_12 := by rw [hg_15]; exact gu_self _ _ _
  have hc_20 : g_14 (bo + 3 + 1) = aW κ 602 W2 := by rw [hg_15, gu_ne (by omega)]; exact hc_9
  have hc_21 : g_14 (bo + 5) = .inr (3, [.int (iz tw9), .int (iz ts9), .int (iz th9), .int (iz tt9)]) := by rw [hg_15, gu_ne (by omega)]; exact hc_10
  have hc_22 : g_14 lo = .inr (3, [.int (iz w), .int (iz sd), .int (iz ho), .int (iz st0)]) := by rw [hg_15, gu_ne (by omega)]; exact hc_11
  refine g_aload_n C dX0_cutOne_16 rfl hl 0 rfl ?_
  refine g_get C G (pos := bo) fX0_cutOne_12 (by omega) hc_16 rfl dX0_cutOne_17 ?_
  refine g_aret C G hr hlk (Nat.le_of_ble_eq_true rfl) (Nat.le_of_ble_eq_true rfl) dX0_cutOne_20 ?_
  exact ⟨rfl, ⟨hc_16, hc_17, hc_18, ⟨_, hc_19⟩, ⟨_, hc_20⟩, ⟨_, _, _, _, hc_21⟩⟩, (by rw [hg_15]; exact (by rw [hg_4]; exact frB.rf.up (by omega) (by omega) : frB g g_3 bo).up (by omega) (by omega) : frB g g_14 bo), _, hc_19, hW_13.iff (fun a r _ _ _ _ => ⟨fun q => q.elim False.elim id, Or.inr⟩)⟩
theorem fX0_cutAll_12 : gFld wsX0_cutAll RX0 12 0 0 := ⟨RX0, TX0, 3, rfl, by decide, by decide +kernel, by decide +kernel⟩
theorem fX0_cutAll_35 : gFld wsX0_cutAll RX0 35 4 1 := ⟨RX4, TX4, 6, rfl, by decide, by decide +kernel, by decide +kernel⟩
theorem fX0_cutAll_45 : gFld wsX0_cutAll RX0 45 4 0 := ⟨RX4, TX4, 6, rfl, by decide, by decide +kernel, by decide +kernel⟩
set_option maxHeartbeats 4000000 in
set_option maxRecDepth 100000 in
theorem c_X0_cutAll (l : Launch) (κ : gKap) (B n : Nat) (ad : Nat → Nat) (g : Nat → va_E) (bo : Nat) (po : Nat) (nl : Int) (v : Int → Int) (hbn9 : bo + 6 ≤ n) (hbn : isBn κ ad g bo) (hpn : po + 10 ≤ n) (hpl : isPl κ ad g po nl v) (hok : okPl nl v) (hdis : po + 10 ≤ bo ∨ bo + 6 ≤ po) : Met l yX0_cutAll wsX0_cutAll ({ frames := 3, cells := 0, slots := 0, locals := 77 }) (gPre κ B n ad g [.ref (ad bo), .ref (ad po)]) (gQo κ B n ad (fun o g' => o = some (bo + 1) ∧ isBn κ ad g' bo ∧ frB g g' bo ∧ ∃ V9, g' (bo + 1 + 1) = aW κ 602 V9 ∧ repW V9 (fun a r => ∃ l9, 0 ≤ l9 ∧ l9 < nl ∧ PTl v l9 a r))) 0 0 (gFree B) := by
  refine g_met RX0 (cc := cX0_cutAll) (maxL := 4) (ret := (some (.object "RosettePlate$PointSet"))) (by decide) rfl rfl (Nat.le_of_ble_eq_true rfl) ?_
  intro p e s m args below meth c C hr hlk hnm G ls hl
  have hl : lv_has ls 4 [(0, .ref (ad bo)), (1, .ref (ad po))] := hl
  obtain ⟨hb0, hb1, hb3, ⟨W1, hb2⟩, ⟨W2, hb4⟩, tw9, ts9, th9, tt9, hb5⟩ := id hbn
  obtain ⟨hn6, hv0, hv25, hlay, hsee⟩ := id hok
  refine g_aload_n C dX0_cutAll_0 rfl hl 0 rfl ?_
  refine g_get C G (pos := bo) fX0_cutAll_12 (by omega) hb0 rfl dX0_cutAll_1 ?_
  refine g_cv C G (g_runV (As := []) (rest := []) (pos := bo + 1) C G (c_X5_clear l κ B n ad g (bo + 1) W1 (by omega) hb1 hb2) (cwV 0 C.1.2.2.2.2 gX0_cutAll_X5_clear rfl rfl rfl (by decide +kernel) ⟨Nat.le_of_ble_eq_true rfl, Nat.le_of_ble_eq_true rfl⟩) (by omega) hb1 (T := TX5) (N := 1) rfl rfl hl rfl (Nat.le_of_ble_eq_true rfl) dX0_cutAll_4 ⟨Nat.le_of_ble_eq_true rfl, Nat.le_of_ble_eq_true rfl⟩) (fun g9 H locs hw9 G => ?_)
  obtain ⟨W_1, hw9, hW_2⟩ := hw9
  subst hw9
  obtain ⟨g_3, hg_4⟩ : ∃ g9, g9 = va_up g (bo + 1 + 1) (aW κ 602 W_1) := ⟨_, rfl⟩
  rw [← hg_4] at G
  have hc_5 : g_3 bo = .inr (0, [.ref (ad (bo + 1)), .ref (ad (bo + 3)), .ref (ad (bo + 5))]) := by rw [hg_4, gu_ne (by omega)]; exact hb0
  have hc_6 : g_3 (bo + 1) = .inr (5, [.ref (ad (bo + 1 + 1))]) := by rw [hg_4, gu_ne (by omega)]; exact hb1
  have hc_7 : g_3 (bo + 3) = .inr (5, [.ref (ad (bo + 3 + 1))]) := by rw [hg_4, gu_ne (by omega)]; exact hb3
  have hc_8 : g_3 (bo + 1 + 1) = aW κ 602 W_1 := by rw [hg_4]; exact gu_self _ _ _
  have hc_9 : g_3 (bo + 3 + 1) = aW κ 602 W2 := by rw [hg_4, gu_ne (by omega)]; exact hb4
  have hc_10 : g_3 (bo + 5) = .inr (3, [.int (iz tw9), .int (iz ts9), .int (iz th9), .int (iz tt9)]) := by rw [hg_4, gu_ne (by omega)]; exact hb5
  have hpl_11 : isPl κ ad g_3 po nl v := by rw [hg_4]; exact hpl.out (by omega)
  refine g_iconst (a := 0) C dX0_cutAll_7 rfl ?_
  refine lv_istore_n (lv' := [(2, .int (iz 0)), (0, .ref (ad bo)), (1, .ref (ad po))]) C.1.1 C.1.2.1 dX0_cutAll_8 rfl hl (by decide) rfl (fun ls hl => ?_)
  have lp_9_n_13 : ∀ (k_12 : Nat) (k : Int) (V1 : Int → Nat) (gv : Nat → va_E), (nl - k).toNat < k_12 → (0 ≤ k) → (k ≤ nl) → (isPl κ ad gv po nl v) → (gv bo = .inr (0, [.ref (ad (bo + 1)), .ref (ad (bo + 3)), .ref (ad (bo + 5))])) → (gv (bo + 1) = .inr (5, [.ref (ad (bo + 1 + 1))])) → (gv (bo + 3) = .inr (5, [.ref (ad (bo + 3 + 1))])) → (gv (bo + 3 + 1) = aW κ 602 W2) → (gv (bo + 5) = .inr (3, [.int (iz tw9), .int (iz ts9), .int (iz th9), .int (iz tt9)])) → (gv (bo + 1 + 1) = aW κ 602 V1) → (frB g gv bo) → (repW V1 (fun a r => ∃ l9, 0 ≤ l9 ∧ l9 < k ∧ PTl v l9 a r)) → ∀ (H : Heap) (locs : List Loc), gG κ B n ad s gv H locs → ∀ (ls : Array Slot), lv_has ls 4 [(0, .ref (ad bo)), (1, .ref (ad po)), (2, .int (iz k))] → W p l e ({ frames := 3, cells := 0, slots := 0, locals := 77 }) s m args below meth c H locs 0 0 (MQ below (gQo κ B n ad (fun o g' => o = some (bo + 1) ∧ isBn κ ad g' bo ∧ frB g g' bo ∧ ∃ V9, g' (bo + 1 + 1) = aW κ 602 V9 ∧ repW V9 (fun a r => ∃ l9, 0 ≤ l9 ∧ l9 < nl ∧ PTl v l9 a r))) args s 0 0 (gFree B)) (F0 m 9 ls []) := by
    intro k_12
    induction k_12 with
    | zero => intro k V1 gv hm; exact absurd hm (Nat.not_lt_zero _)
    | succ k_12 ih_lp_9_n_13 =>
      intro k V1 gv hm hi0 hi1 hgp hk0 hk1 hk3 hk5 hk6 hk4 hfb hrv H locs G ls hl
      refine g_iload_n C dX0_cutAll_9 rfl hl 2 rfl ?_
      refine g_aload_n C dX0_cutAll_10 rfl hl 1 rfl ?_
      refine g_get C G (pos := po) fX0_cutAll_35 (by omega) hgp.1 rfl dX0_cutAll_11 ?_
      refine g_icmp_ge (tgt := 45) C (by omega) (by omega) dX0_cutAll_14 (by decide) (fun c_14 => ?_) (fun c_14 => ?_)
      · refine g_aload_n C dX0_cutAll_45 rfl hl 0 rfl ?_
        refine g_get C G (pos := bo) fX0_cutAll_12 (by omega) hk0 rfl dX0_cutAll_46 ?_
        refine g_aret C G hr hlk (Nat.le_of_ble_eq_true rfl) (Nat.le_of_ble_eq_true rfl) dX0_cutAll_49 ?_
        have hk9 : k = nl := by omega
        subst hk9
        exact ⟨rfl, ⟨hk0, hk1, hk3, ⟨_, hk4⟩, ⟨_, hk5⟩, ⟨_, _, _, _, hk6⟩⟩, hfb, _, hk4, hrv⟩
      · refine g_aload_n C dX0_cutAll_17 rfl hl 1 rfl ?_
        refine g_iload_n C dX0_cutAll_18 rfl hl 2 rfl ?_
        refine g_co C G (g_runV (As := [.int (iz k)]) (rest := []) (pos := po) C G (c_X4_find l κ B n ad gv po nl v k (by omega) hgp (by omega) (by omega)) (cwV 1 C.1.2.2.2.2 gX0_cutAll_X4_find rfl rfl rfl (by decide +kernel) ⟨Nat.le_of_ble_eq_true rfl, Nat.le_of_ble_eq_true rfl⟩) (by omega) hgp.1 (T := TX4) (N := 6) rfl rfl hl rfl (Nat.le_of_ble_eq_true rfl) dX0_cutAll_19 ⟨Nat.le_of_ble_eq_true rfl, Nat.le_of_ble_eq_true rfl⟩) (fun q_15 g9 H locs hw G => ?_) (fun g9 H locs hw G => ?_)
        · obtain ⟨hg9, ⟨b_16, hw⟩ | ⟨b_16, hw⟩⟩ := hw
          all_goals replace hg9 := hg9.symm
          all_goals subst hg9
          · cases hw
            have hla := hlay k hi0 (by omega)
            refine lv_astore_n (lv' := [(3, .ref (ad (po + 2 + (k).toNat))), (0, .ref (ad bo)), (1, .ref (ad po)), (2, .int (iz k))]) C.1.1 C.1.2.1 dX0_cutAll_22 rfl hl (by decide) rfl (fun ls hl => ?_)
            refine g_aload_n C dX0_cutAll_23 rfl hl 0 rfl ?_
            refine lv_ifnull C.1.1 C.1.2.1 dX0_cutAll_24 ?_
            refine g_aload_n C dX0_cutAll_27 rfl hl 1 rfl ?_
            refine g_get C G (pos := bo) fX0_cutAll_12 (by omega) hk0 rfl dX0_cutAll_28 ?_
            refine g_aload_n C dX0_cutAll_31 rfl hl 2 rfl ?_
            refine g_get C G (pos := po) fX0_cutAll_45 (by omega) hgp.1 rfl dX0_cutAll_32 ?_
            refine g_aload_n C dX0_cutAll_35 rfl hl 0 rfl ?_
            refine g_cv C G (g_runV (As := [.int (iz (v 0)), .ref (ad (po + 2 + (k).toNat))]) (rest := []) (pos := bo + 1) C G (c_X5_cutRosette l κ B n ad gv (bo + 1) V1 (po + 2 + (k).toNat) (v (4 * k + 1)) (v (4 * k + 2)) (v (4 * k + 3)) (v (4 * k + 4)) (fun a r => ∃ l9, 0 ≤ l9 ∧ l9 < k ∧ PTl v l9 a r) (v 0) (by omega) hk1 hk4 (by omega) (hgp.lay (by omega) (by omega)) (by omega) hla.1 hv0 hla.2 hrv) (cwV 2 C.1.2.2.2.2 gX0_cutAll_X5_cutRosette rfl rfl rfl (by decide +kernel) ⟨Nat.le_of_ble_eq_true rfl, Nat.le_of_ble_eq_true rfl⟩) (by omega) hk1 (T := TX5) (N := 1) rfl rfl hl rfl (Nat.le_of_ble_eq_true rfl) dX0_cutAll_36 ⟨Nat.le_of_ble_eq_true rfl, Nat.le_of_ble_eq_true rfl⟩) (fun g9 H locs hw9 G => ?_)
            obtain ⟨W_17, hw9, hW_18⟩ := hw9
            subst hw9
            obtain ⟨g_19, hg_20⟩ : ∃ g9, g9 = va_up gv (bo + 1 + 1) (aW κ 602 W_17) := ⟨_, rfl⟩
            rw [← hg_20] at G
            have hc_21 : g_19 bo = .inr (0, [.ref (ad (bo + 1)), .ref (ad (bo + 3)), .ref (ad (bo + 5))]) := by rw [hg_20, gu_ne (by omega)]; exact hk0
            have hc_22 : g_19 (bo + 1) = .inr (5, [.ref (ad (bo + 1 + 1))]) := by rw [hg_20, gu_ne (by omega)]; exact hk1
            have hc_23 : g_19 (bo + 3) = .inr (5, [.ref (ad (bo + 3 + 1))]) := by rw [hg_20, gu_ne (by omega)]; exact hk3
            have hc_24 : g_19 (bo + 3 + 1) = aW κ 602 W2 := by rw [hg_20, gu_ne (by omega)]; exact hk5
            have hc_25 : g_19 (bo + 5) = .inr (3, [.int (iz tw9), .int (iz ts9), .int (iz th9), .int (iz tt9)]) := by rw [hg_20, gu_ne (by omega)]; exact hk6
            have hc_26 : g_19 (bo + 1 + 1) = aW κ 602 W_17 := by rw [hg_20]; exact gu_self _ _ _
            have hpl_27 : isPl κ ad g_19 po nl v := by rw [hg_20]; exact hgp.out (by omega)
            refine lv_iinc (v := iz (k + 1)) (lv' := [(2, .int (iz (k + 1))), (3, .ref (ad (po + 2 + (k).toNat))), (0, .ref (ad bo)), (1, .ref (ad po))]) C.1.1 C.1.2.1 dX0_cutAll_39 hl (k := 3) rfl (g_inc (by omega)) (by decide) rfl (fun ls hl => ?_)
            refine g_goto (tgt := 9) C dX0_cutAll_42 (by decide) ?_
            exact ih_lp_9_n_13 (k + 1) W_17 g_19 (by omega) (by omega) (by omega) hpl_27 hc_21 hc_22 hc_23 hc_24 hc_25 hc_26 (by rw [hg_20]; exact hfb.up (by omega) (by omega) : frB g g_19 bo) (hW_18.iff (fun a r _ _ _ _ => ca_step hi0)) _ _ G _ (lv_sub hl [2, 3, 0] rfl)
          · cases hw
        · obtain ⟨hg9, ⟨b_16, hw⟩ | ⟨b_16, hw⟩⟩ := hw
          all_goals replace hg9 := hg9.symm
          all_goals subst hg9
          · cases hw
          · exact absurd (by omega) b_16
  exact lp_9_n_13 _ 0 W_1 g_3 (Nat.lt_succ_self _) (by omega) (by omega) hpl_11 hc_5 hc_6 hc_7 hc_9 hc_10 hc_8 (by rw [hg_4]; exact frB.rf.up (by omega) (by omega) : frB g g_3 bo) ((repW.zero hW_2).iff (fun a r _ _ _ _ => ⟨False.elim, fun ⟨l9, q0, q1, _⟩ => absurd q1 (by omega)⟩)) _ _ G _ (lv_sub hl [1, 2, 0] rfl)
theorem fX0_countCommon_12 : gFld wsX0_countCommon RX0 12 0 0 := ⟨RX0, TX0, 3, rfl, by decide, by decide +kernel, by decide +kernel⟩
theorem fX0_countCommon_18 : gFld wsX0_countCommon RX0 18 0 1 := ⟨RX0, TX0, 3, rfl, by decide, by decide +kernel, by decide +kernel⟩
set_option maxHeartbeats 4000000 in
set_option maxRecDepth 100000 in
theorem c_X0_countCommon (l : Launch) (κ : gKap) (B n : Nat) (ad : Nat → Nat) (g : Nat → va_E) (bo : Nat) (ring : Int) (lo : Nat) (w : Int) (sd : Int) (ho : Int) (st0 : Int) (qo : Nat) (w2 : Int) (sd2 : Int) (ho2 : Int) (st2 : Int) (hbn9 : bo + 6 ≤ n) (hbn : isBn κ ad g bo) (hrg : 12 ≤ ring ∧ ring ≤ 96) (hlp : lo < n) (hel : g lo = oL w sd ho st0) (hlo : lo < bo ∨ bo + 6 ≤ lo) (hok : okL w sd ho) (hst : 0 ≤ st0 ∧ st0 < ring) (hqp : qo < n) (heq : g qo = oL w2 sd2 ho2 st2) (hqo : qo < bo ∨ bo + 6 ≤ qo) (hok2 : okL w2 sd2 ho2) (hst2 : 0 ≤ st2 ∧ st2 < ring) : Met l yX0_countCommon wsX0_countCommon ({ frames := 3, cells := 0, slots := 0, locals := 77 }) (gPre κ B n ad g [.ref (ad bo), .int (iz ring), .ref (ad lo), .ref (ad qo)]) (gQi κ B n ad (fun z g' => isBn κ ad g' bo ∧ frB g g' bo ∧ z = (cntS (fun a r => PT ring w sd ho st0 a r ∧ PT ring w2 sd2 ho2 st2 a r) : Int) ∧ 0 ≤ z ∧ z ≤ 38528)) 0 0 (gFree B) := by
  refine g_met RX0 (cc := cX0_countCommon) (maxL := 4) (ret := (some .int)) (by decide) rfl rfl (Nat.le_of_ble_eq_true rfl) ?_
  intro p e s m args below meth c C hr hlk hnm G ls hl
  have hl : lv_has ls 4 [(0, .ref (ad bo)), (1, .int (iz ring)), (2, .ref (ad lo)), (3, .ref (ad qo))] := hl
  obtain ⟨hb0, hb1, hb3, ⟨W1, hb2⟩, ⟨W2, hb4⟩, tw9, ts9, th9, tt9, hb5⟩ := id hbn
  refine g_aload_n C dX0_countCommon_0 rfl hl 0 rfl ?_
  refine g_get C G (pos := bo) fX0_countCommon_12 (by omega) hb0 rfl dX0_countCommon_1 ?_
  refine g_cv C G (g_runV (As := []) (rest := []) (pos := bo + 1) C G (c_X5_clear l κ B n ad g (bo + 1) W1 (by omega) hb1 hb2) (cwV 0 C.1.2.2.2.2 gX0_countCommon_X5_clear rfl rfl rfl (by decide +kernel) ⟨Nat.le_of_ble_eq_true rfl, Nat.le_of_ble_eq_true rfl⟩) (by omega) hb1 (T := TX5) (N := 1) rfl rfl hl rfl (Nat.le_of_ble_eq_true rfl) dX0_countCommon_4 ⟨Nat.le_of_ble_eq_true rfl, Nat.le_of_ble_eq_true rfl⟩) (fun g9 H locs hw9 G => ?_)
  obtain ⟨W_1, hw9, hW_2⟩ := hw9
  subst hw9
  obtain ⟨g_3, hg_4⟩ : ∃ g9, g9 = va_up g (bo + 1 + 1) (aW κ 602 W_1) := ⟨_, rfl⟩
  rw [← hg_4] at G
  have hc_5 : g_3 bo = .inr (0, [.ref (ad (bo + 1)), .ref (ad (bo + 3)), .ref (ad (bo + 5))]) := by rw [hg_4, gu_ne (by omega)]; exact hb0
  have hc_6 : g_3 (bo + 1) = .inr (5, [.ref (ad (bo + 1 + 1))]) := by rw [hg_4, gu_ne (by omega)]; exact hb1
  have hc_7 : g_3 (bo + 3) = .inr (5, [.ref (ad (bo + 3 + 1))]) := by rw [hg_4, gu_ne (by omega)]; exact hb3
  have hc_8 : g_3 (bo + 1 + 1) = aW κ 602 W_1 := by rw [hg_4]; exact gu_self _ _ _
  have hc_9 : g_3 (bo + 3 + 1) = aW κ 602 W2 := by rw [hg_4, gu_ne (by omega)]; exact hb4
  have hc_10 : g_3 (bo + 5) = .inr (3, [.int (iz tw9), .int (iz ts9), .int (iz th9), .int (iz tt9)]) := by rw [hg_4, gu_ne (by omega)]; exact hb5
  have hc_11 : g_3 lo = .inr (3, [.int (iz w), .int (iz sd), .int (iz ho), .int (iz st0)]) := by rw [hg_4, gu_ne (by omega)]; exact hel
  have hc_12 : g_3 qo = .inr (3, [.int (iz w2), .int (iz sd2), .int (iz ho2), .int (iz st2)]) := by rw [hg_4, gu_ne (by omega)]; exact heq
  refine g_aload_n C dX0_countCommon_7 rfl hl 0 rfl ?_
  refine g_get C G (pos := bo) fX0_countCommon_12 (by omega) hc_5 rfl dX0_countCommon_8 ?_
  refine g_iload_n C dX0_countCommon_11 rfl hl 1 rfl ?_
  refine g_aload_n C dX0_countCommon_12 rfl hl 2 rfl ?_
  refine g_cv C G (g_runV (As := [.int (iz ring), .ref (ad lo)]) (rest := []) (pos := bo + 1) C G (c_X5_cutRosette l κ B n ad g_3 (bo + 1) W_1 lo w sd ho st0 (fun _ _ => False) ring (by omega) hc_6 hc_8 (by omega) hc_11 (by omega) hok (by omega) hst (repW.zero hW_2)) (cwV 2 C.1.2.2.2.2 gX0_countCommon_X5_cutRosette rfl rfl rfl (by decide +kernel) ⟨Nat.le_of_ble_eq_true rfl, Nat.le_of_ble_eq_true rfl⟩) (by omega) hc_6 (T := TX5) (N := 1) rfl rfl hl rfl (Nat.le_of_ble_eq_true rfl) dX0_countCommon_13 ⟨Nat.le_of_ble_eq_true rfl, Nat.le_of_ble_eq_true rfl⟩) (fun g9 H locs hw9 G => ?_)
  obtain ⟨W_13, hw9, hW_14⟩ := hw9
  subst hw9
  obtain ⟨g_15, hg_16⟩ : ∃ g9, g9 = va_up g_3 (bo + 1 + 1) (aW κ 602 W_13) := ⟨_, rfl⟩
  rw [← hg_16] at G
  have hc_17 : g_15 bo = .inr (0, [.ref (ad (bo + 1)), .ref (ad (bo + 3)), .ref (ad (bo + 5))]) := by rw [hg_16, gu_ne (by omega)]; exact hc_5
  have hc_18 : g_15 (bo + 1) = .inr (5, [.ref (ad (bo + 1 + 1))]) := by rw [hg_16, gu_ne (by omega)]; exact hc_6
  have hc_19 : g_15 (bo + 3) = .inr (5, [.ref (ad (bo + 3 + 1))]) := by rw [hg_16, gu_ne (by omega)]; exact hc_7
  have hc_20 : g_15 (bo + 1 + 1) = aW κ 602 W_13 := by rw [hg_16]; exact gu_self _ _ _
  have hc_21 : g_15 (bo + 3 + 1) = aW κ 602 W2 := by rw [hg_16, gu_ne (by omega)]; exact hc_9
  have hc_22 : g_15 (bo + 5) = .inr (3, [.int (iz tw9), .int (iz ts9), .int (iz th9), .int (iz tt9)]) := by rw [hg_16, gu_ne (by omega)]; exact hc_10
  have hc_23 : g_15 lo = .inr (3, [.int (iz w), .int (iz sd), .int (iz ho), .int (iz st0)]) := by rw [hg_16, gu_ne (by omega)]; exact hc_11
  have hc_24 : g_15 qo = .inr (3, [.int (iz w2), .int (iz sd2), .int (iz ho2), .int (iz st2)]) := by rw [hg_16, gu_ne (by omega)]; exact hc_12
  refine g_aload_n C dX0_countCommon_16 rfl hl 0 rfl ?_
  refine g_get C G (pos := bo) fX0_countCommon_18 (by omega) hc_17 rfl dX0_countCommon_17 ?_
  refine g_cv C G (g_runV (As := []) (rest := []) (pos := bo + 3) C G (c_X5_clear l κ B n ad g_15 (bo + 3) W2 (by omega) hc_19 hc_21) (cwV 0 C.1.2.2.2.2 gX0_countCommon_X5_clear rfl rfl rfl (by decide +kernel) ⟨Nat.le_of_ble_eq_true rfl, Nat.le_of_ble_eq_true rfl⟩) (by omega) hc_19 (T := TX5) (N := 1) rfl rfl hl rfl (Nat.le_of_ble_eq_true rfl) dX0_countCommon_20 ⟨Nat.le_of_ble_eq_true rfl, Nat.le_of_ble_eq_true rfl⟩) (fun g9 H locs hw9 G => ?_)
  obtain ⟨W_25, hw9, hW_26⟩ := hw9
  subst hw9
  obtain ⟨g_27, hg_28⟩ : ∃ g9, g9 = va_up g_15 (bo + 3 + 1) (aW κ 602 W_25) := ⟨_, rfl⟩
  rw [← hg_28] at G
  have hc_29 : g_27 bo = .inr (0, [.ref (ad (bo + 1)), .ref (ad (bo + 3)), .ref (ad (bo + 5))]) := by rw [hg_28, gu_ne (by omega)]; exact hc_17
  have hc_30 : g_27 (bo + 1) = .inr (5, [.ref (ad (bo + 1 + 1))]) := by rw [hg_28, gu_ne (by omega)]; exact hc_18
  have hc_31 : g_27 (bo + 3) = .inr (5, [.ref (ad (bo + 3 + 1))]) := by rw [hg_28, gu_ne (by omega)]; exact hc_19
  have hc_32 : g_27 (bo + 1 + 1) = aW κ 602 W_13 := by rw [hg_28, gu_ne (by omega)]; exact hc_20
  have hc_33 : g_27 (bo + 3 + 1) = aW κ 602 W_25 := by rw [hg_28]; exact gu_self _ _ _
  have hc_34 : g_27 (bo + 5) = .inr (3, [.int (iz tw9), .int (iz ts9), .int (iz th9), .int (iz tt9)]) := by rw [hg_28, gu_ne (by omega)]; exact hc_22
  have hc_35 : g_27 lo = .inr (3, [.int (iz w), .int (iz sd), .int (iz ho), .int (iz st0)]) := by rw [hg_28, gu_ne (by omega)]; exact hc_23
  have hc_36 : g_27 qo = .inr (3, [.int (iz w2), .int (iz sd2), .int (iz ho2), .int (iz st2)]) := by rw [hg_28, gu_ne (by omega)]; exact hc_24
  refine g_aload_n C dX0_countCommon_23 rfl hl 0 rfl ?_
  refine g_get C G (pos := bo) fX0_countCommon_18 (by omega) hc_29 rfl dX0_countCommon_24 ?_
  refine g_iload_n C dX0_countCommon_27 rfl hl 1 rfl ?_
  refine g_aload_n C dX0_countCommon_28 rfl hl 3 rfl ?_
  refine g_cv C G (g_runV (As := [.int (iz ring), .ref (ad qo)]) (rest := []) (pos := bo + 3) C G (c_X5_cutRosette l κ B n ad g_27 (bo + 3) W_25 qo w2 sd2 ho2 st2 (fun _ _ => False) ring (by omega) hc_31 hc_33 (by omega) hc_36 (by omega) hok2 (by omega) hst2 (repW.zero hW_26)) (cwV 2 C.1.2.2.2.2 gX0_countCommon_X5_cutRosette rfl rfl rfl (by decide +kernel) ⟨Nat.le_of_ble_eq_true rfl, Nat.le_of_ble_eq_true rfl⟩) (by omega) hc_31 (T := TX5) (N := 1) rfl rfl hl rfl (Nat.le_of_ble_eq_true rfl) dX0_countCommon_29 ⟨Nat.le_of_ble_eq_true rfl, Nat.le_of_ble_eq_true rfl⟩) (fun g9 H locs hw9 G => ?_)
  obtain ⟨W_37, hw9, hW_38⟩ := hw9
  subst hw9
  obtain ⟨g_39, hg_40⟩ : ∃ g9, g9 = va_up g_27 (bo + 3 + 1) (aW κ 602 W_37) := ⟨_, rfl⟩
  rw [← hg_40] at G
  have hc_41 : g_39 bo = .inr (0, [.ref (ad (bo + 1)), .ref (ad (bo + 3)), .ref (ad (bo + 5))]) := by rw [hg_40, gu_ne (by omega)]; exact hc_29
  have hc_42 : g_39 (bo + 1) = .inr (5, [.ref (ad (bo + 1 + 1))]) := by rw [hg_40, gu_ne (by omega)]; exact hc_30
  have hc_43 : g_39 (bo + 3) = .inr (5, [.ref (ad (bo + 3 + 1))]) := by rw [hg_40, gu_ne (by omega)]; exact hc_31
  have hc_44 : g_39 (bo + 1 + 1) = aW κ 602 W_13 := by rw [hg_40, gu_ne (by omega)]; exact hc_32
  have hc_45 : g_39 (bo + 3 + 1) = aW κ 602 W_37 := by rw [hg_40]; exact gu_self _ _ _
  have hc_46 : g_39 (bo + 5) = .inr (3, [.int (iz tw9), .int (iz ts9), .int (iz th9), .int (iz tt9)]) := by rw [hg_40, gu_ne (by omega)]; exact hc_34
  have hc_47 : g_39 lo = .inr (3, [.int (iz w), .int (iz sd), .int (iz ho), .int (iz st0)]) := by rw [hg_40, gu_ne (by omega)]; exact hc_35
  have hc_48 : g_39 qo = .inr (3, [.int (iz w2), .int (iz sd2), .int (iz ho2), .int (iz st2)]) := by rw [hg_40, gu_ne (by omega)]; exact hc_36
  refine g_aload_n C dX0_countCommon_32 rfl hl 0 rfl ?_
  refine g_get C G (pos := bo) fX0_countCommon_12 (by omega) hc_41 rfl dX0_countCommon_33 ?_
  refine g_aload_n C dX0_countCommon_36 rfl hl 0 rfl ?_
  refine g_get C G (pos := bo) fX0_countCommon_18 (by omega) hc_41 rfl dX0_countCommon_37 ?_
  refine g_ci C G (g_runV (As := [.ref (ad (bo + 3))]) (rest := []) (pos := bo + 1) C G (c_X5_sizeOfBoth l κ B n ad g_39 (bo + 1) W_13 (bo + 3) W_37 (by omega) hc_42 hc_44 (by omega) hc_43 hc_45 hW_14.lt) (cwV 1 C.1.2.2.2.2 gX0_countCommon_X5_sizeOfBoth rfl rfl rfl (by decide +kernel) ⟨Nat.le_of_ble_eq_true rfl, Nat.le_of_ble_eq_true rfl⟩) (by omega) hc_42 (T := TX5) (N := 1) rfl rfl hl rfl (Nat.le_of_ble_eq_true rfl) dX0_countCommon_40 ⟨Nat.le_of_ble_eq_true rfl, Nat.le_of_ble_eq_true rfl⟩) (fun z_49 g9 H locs hw G => ?_)
  obtain ⟨hg9, h_50⟩ := hw
  replace hg9 := hg9.symm
  subst hg9
  refine g_iret C G hr hlk (Nat.le_of_ble_eq_true rfl) (Nat.le_of_ble_eq_true rfl) dX0_countCommon_43 ?_
  exact ⟨⟨hc_41, hc_42, hc_43, ⟨_, hc_44⟩, ⟨_, hc_45⟩, ⟨_, _, _, _, hc_46⟩⟩, (by rw [hg_40]; exact (by rw [hg_28]; exact (by rw [hg_16]; exact (by rw [hg_4]; exact frB.rf.up (by omega) (by omega) : frB g g_3 bo).up (by omega) (by omega) : frB g g_15 bo).up (by omega) (by omega) : frB g g_27 bo).up (by omega) (by omega) : frB g g_39 bo), by rw [h_50.1, (hW_14.both hW_38).cnt]; exact congrArg (fun x : Nat => (x : Int)) (cntS_congr (fun a r _ _ _ _ => ⟨fun q => ⟨q.1.elim False.elim id, q.2.elim False.elim id⟩, fun q => ⟨Or.inr q.1, Or.inr q.2⟩⟩)), by omega⟩
theorem fX0_turnBetween_18 : gFld wsX0_turnBetween RX0 18 0 1 := ⟨RX0, TX0, 3, rfl, by decide, by decide +kernel, by decide +kernel⟩
theorem fX0_turnBetween_24 : gFld wsX0_turnBetween RX0 24 0 2 := ⟨RX0, TX0, 3, rfl, by decide, by decide +kernel, by decide +kernel⟩
theorem fwX0_turnBetween_71 : gFldW wsX0_turnBetween RX0 71 3 3 .int false := ⟨RX3, TX3, 4, tyX3, rfl, by decide, by decide +kernel, by decide +kernel, tyX3_ok, nmX3, rfl, by decide +kernel, by decide +kernel⟩
theorem fX0_turnBetween_12 : gFld wsX0_turnBetween RX0 12 0 0 := ⟨RX0, TX0, 3, rfl, by decide, by decide +kernel, by decide +kernel⟩
set_option maxHeartbeats 4000000 in
set_option maxRecDepth 100000 in
theorem c_X0_turnBetween (l : Launch) (κ : gKap) (B n : Nat) (ad : Nat → Nat) (g : Nat → va_E) (bo : Nat) (ring : Int) (lo : Nat) (w : Int) (sd : Int) (ho : Int) (st0 : Int) (qo : Nat) (w2 : Int) (sd2 : Int) (ho2 : Int) (st2 : Int) (hbn9 : bo + 6 ≤ n) (hbn : isBn κ ad g bo) (hrg : 12 ≤ ring ∧ ring ≤ 96) (hlp : lo < n) (hel : g lo = oL w sd ho st0) (hlo : lo < bo ∨ bo + 6 ≤ lo) (hok : okL w sd ho) (hst : 0 ≤ st0 ∧ st0 < ring) (hqp : qo < n) (heq : g qo = oL w2 sd2 ho2 st2) (hqo : qo < bo ∨ bo + 6 ≤ qo) (hok2 : okL w2 sd2 ho2) (hst2 : 0 ≤ st2 ∧ st2 < ring) : Met l yX0_turnBetween wsX0_turnBetween ({ frames := 3, cells := 0, slots := 0, locals := 77 }) (gPre κ B n ad g [.ref (ad bo), .int (iz ring), .ref (ad lo), .ref (ad qo)]) (gQi κ B n ad (fun z g' => isBn κ ad g' bo ∧ frB g g' bo ∧ isFirst (fun d => SameR ring w sd ho ((st0 + d) % ring) w2 sd2 ho2 st2) ring z)) 0 0 (gFree B) := by
  refine g_met RX0 (cc := cX0_turnBetween) (maxL := 6) (ret := (some .int)) (by decide) rfl rfl (Nat.le_of_ble_eq_true rfl) ?_
  intro p e s m args below meth c C hr hlk hnm G ls hl
  have hl : lv_has ls 6 [(0, .ref (ad bo)), (1, .int (iz ring)), (2, .ref (ad lo)), (3, .ref (ad qo))] := hl
  obtain ⟨hb0, hb1, hb3, ⟨W1, hb2⟩, ⟨W2, hb4⟩, tw9, ts9, th9, tt9, hb5⟩ := id hbn
  refine g_aload_n C dX0_turnBetween_0 rfl hl 0 rfl ?_
  refine g_get C G (pos := bo) fX0_turnBetween_18 (by omega) hb0 rfl dX0_turnBetween_1 ?_
  refine g_cv C G (g_runV (As := []) (rest := []) (pos := bo + 3) C G (c_X5_clear l κ B n ad g (bo + 3) W2 (by omega) hb3 hb4) (cwV 0 C.1.2.2.2.2 gX0_turnBetween_X5_clear rfl rfl rfl (by decide +kernel) ⟨Nat.le_of_ble_eq_true rfl, Nat.le_of_ble_eq_true rfl⟩) (by omega) hb3 (T := TX5) (N := 1) rfl rfl hl rfl (Nat.le_of_ble_eq_true rfl) dX0_turnBetween_4 ⟨Nat.le_of_ble_eq_true rfl, Nat.le_of_ble_eq_true rfl⟩) (fun g9 H locs hw9 G => ?_)
  obtain ⟨W_1, hw9, hW_2⟩ := hw9
  subst hw9
  obtain ⟨g_3, hg_4⟩ : ∃ g9, g9 = va_up g (bo + 3 + 1) (aW κ 602 W_1) := ⟨_, rfl⟩
  rw [← hg_4] at G
  have hc_5 : g_3 bo = .inr (0, [.ref (ad (bo + 1)), .ref (ad (bo + 3)), .ref (ad (bo + 5))]) := by rw [hg_4, gu_ne (by omega)]; exact hb0
  have hc_6 : g_3 (bo + 1) = .inr (5, [.ref (ad (bo + 1 + 1))]) := by rw [hg_4, gu_ne (by omega)]; exact hb1
  have hc_7 : g_3 (bo + 3) = .inr (5, [.ref (ad (bo + 3 + 1))]) := by rw [hg_4, gu_ne (by omega)]; exact hb3
  have hc_8 : g_3 (bo + 1 + 1) = aW κ 602 W1 := by rw [hg_4, gu_ne (by omega)]; exact hb2
  have hc_9 : g_3 (bo + 3 + 1) = aW κ 602 W_1 := by rw [hg_4]; exact gu_self _ _ _
  have hc_10 : g_3 (bo + 5) = .inr (3, [.int (iz tw9), .int (iz ts9), .int (iz th9), .int (iz tt9)]) := by rw [hg_4, gu_ne (by omega)]; exact hb5
  have hc_11 : g_3 lo = .inr (3, [.int (iz w), .int (iz sd), .int (iz ho), .int (iz st0)]) := by rw [hg_4, gu_ne (by omega)]; exact hel
  have hc_12 : g_3 qo = .inr (3, [.int (iz w2), .int (iz sd2), .int (iz ho2), .int (iz st2)]) := by rw [hg_4, gu_ne (by omega)]; exact heq
  refine g_aload_n C dX0_turnBetween_7 rfl hl 0 rfl ?_
  refine g_get C G (pos := bo) fX0_turnBetween_18 (by omega) hc_5 rfl dX0_turnBetween_8 ?_
  refine g_iload_n C dX0_turnBetween_11 rfl hl 1 rfl ?_
  refine g_aload_n C dX0_turnBetween_12 rfl hl 3 rfl ?_
  refine g_cv C G (g_runV (As := [.int (iz ring), .ref (ad qo)]) (rest := []) (pos := bo + 3) C G (c_X5_cutRosette l κ B n ad g_3 (bo + 3) W_1 qo w2 sd2 ho2 st2 (fun _ _ => False) ring (by omega) hc_7 hc_9 (by omega) hc_12 (by omega) hok2 (by omega) hst2 (repW.zero hW_2)) (cwV 2 C.1.2.2.2.2 gX0_turnBetween_X5_cutRosette rfl rfl rfl (by decide +kernel) ⟨Nat.le_of_ble_eq_true rfl, Nat.le_of_ble_eq_true rfl⟩) (by omega) hc_7 (T := TX5) (N := 1) rfl rfl hl rfl (Nat.le_of_ble_eq_true rfl) dX0_turnBetween_13 ⟨Nat.le_of_ble_eq_true rfl, Nat.le_of_ble_eq_true rfl⟩) (fun g9 H locs hw9 G => ?_)
  obtain ⟨W_13, hw9, hW_14⟩ := hw9
  subst hw9
  obtain ⟨g_15, hg_16⟩ : ∃ g9, g9 = va_up g_3 (bo + 3 + 1) (aW κ 602 W_13) := ⟨_, rfl⟩
  rw [← hg_16] at G
  have hc_17 : g_15 bo = .inr (0, [.ref (ad (bo + 1)), .ref (ad (bo + 3)), .ref (ad (bo + 5))]) := by rw [hg_16, gu_ne (by omega)]; exact hc_5
  have hc_18 : g_15 (bo + 1) = .inr (5, [.ref (ad (bo + 1 + 1))]) := by rw [hg_16, gu_ne (by omega)]; exact hc_6
  have hc_19 : g_15 (bo + 3) = .inr (5, [.ref (ad (bo + 3 + 1))]) := by rw [hg_16, gu_ne (by omega)]; exact hc_7
  have hc_20 : g_15 (bo + 1 + 1) = aW κ 602 W1 := by rw [hg_16, gu_ne (by omega)]; exact hc_8
  have hc_21 : g_15 (bo + 3 + 1) = aW κ 602 W_13 := by rw [hg_16]; exact gu_self _ _ _
  have hc_22 : g_15 (bo + 5) = .inr (3, [.int (iz tw9), .int (iz ts9), .int (iz th9), .int (iz tt9)]) := by rw [hg_16, gu_ne (by omega)]; exact hc_10
  have hc_23 : g_15 lo = .inr (3, [.int (iz w), .int (iz sd), .int (iz ho), .int (iz st0)]) := by rw [hg_16, gu_ne (by omega)]; exact hc_11
  have hc_24 : g_15 qo = .inr (3, [.int (iz w2), .int (iz sd2), .int (iz ho2), .int (iz st2)]) := by rw [hg_16, gu_ne (by omega)]; exact hc_12
  refine g_aload_n C dX0_turnBetween_16 rfl hl 0 rfl ?_
  refine g_get C G (pos := bo) fX0_turnBetween_24 (by omega) hc_17 rfl dX0_turnBetween_17 ?_
  refine g_aload_n C dX0_turnBetween_20 rfl hl 2 rfl ?_
  refine g_cv C G (g_runV (As := [.ref (ad lo)]) (rest := []) (pos := bo + 5) C G (c_X3_become l κ B n ad g_15 (bo + 5) tw9 ts9 th9 tt9 lo w sd ho st0 (by omega) hc_22 (by omega) hc_23 (by omega)) (cwV 1 C.1.2.2.2.2 gX0_turnBetween_X3_become rfl rfl rfl (by decide +kernel) ⟨Nat.le_of_ble_eq_true rfl, Nat.le_of_ble_eq_true rfl⟩) (by omega) hc_22 (T := TX3) (N := 4) rfl rfl hl rfl (Nat.le_of_ble_eq_true rfl) dX0_turnBetween_21 ⟨Nat.le_of_ble_eq_true rfl, Nat.le_of_ble_eq_true rfl⟩) (fun g9 H locs hw G => ?_)
  subst hw
  obtain ⟨g_25, hg_26⟩ : ∃ g9, g9 = va_up g_15 (bo + 5) (.inr (3, [.int (iz w), .int (iz sd), .int (iz ho), .int (iz st0)])) := ⟨_, rfl⟩
  rw [← hg_26] at G
  have hc_27 : g_25 bo = .inr (0, [.ref (ad (bo + 1)), .ref (ad (bo + 3)), .ref (ad (bo + 5))]) := by rw [hg_26, gu_ne (by omega)]; exact hc_17
  have hc_28 : g_25 (bo + 1) = .inr (5, [.ref (ad (bo + 1 + 1))]) := by rw [hg_26, gu_ne (by omega)]; exact hc_18
  have hc_29 : g_25 (bo + 3) = .inr (5, [.ref (ad (bo + 3 + 1))]) := by rw [hg_26, gu_ne (by omega)]; exact hc_19
  have hc_30 : g_25 (bo + 1 + 1) = aW κ 602 W1 := by rw [hg_26, gu_ne (by omega)]; exact hc_20
  have hc_31 : g_25 (bo + 3 + 1) = aW κ 602 W_13 := by rw [hg_26, gu_ne (by omega)]; exact hc_21
  have hc_32 : g_25 (bo + 5) = .inr (3, [.int (iz w), .int (iz sd), .int (iz ho), .int (iz st0)]) := by rw [hg_26]; exact gu_self _ _ _
  have hc_33 : g_25 lo = .inr (3, [.int (iz w), .int (iz sd), .int (iz ho), .int (iz st0)]) := by rw [hg_26, gu_ne (by omega)]; exact hc_23
  have hc_34 : g_25 qo = .inr (3, [.int (iz w2), .int (iz sd2), .int (iz ho2), .int (iz st2)]) := by rw [hg_26, gu_ne (by omega)]; exact hc_24
  refine g_iload_n C dX0_turnBetween_24 rfl hl 1 rfl ?_
  refine g_aload_n C dX0_turnBetween_25 rfl hl 2 rfl ?_
  refine g_ci C G (g_runS (As := [.int (iz ring), .ref (ad lo)]) (rest := []) C G (c_X0_differentStarts l κ B n ad g_25 ring lo w sd ho st0 (by omega) (by omega) hc_33 (by omega)) (va_cwS 2 C.1.2.2.2.2 gX0_turnBetween_X0_differentStarts rfl rfl rfl (by decide +kernel) ⟨Nat.le_of_ble_eq_true rfl, Nat.le_of_ble_eq_true rfl⟩) rfl hl rfl (Nat.le_of_ble_eq_true rfl) dX0_turnBetween_26 ⟨Nat.le_of_ble_eq_true rfl, Nat.le_of_ble_eq_true rfl⟩) (fun z_35 g9 H locs hw G => ?_)
  obtain ⟨hg9, h_36⟩ := hw
  replace hg9 := hg9.symm
  subst hg9
  refine lv_istore (lv' := [(4, .int (iz z_35)), (0, .ref (ad bo)), (1, .int (iz ring)), (2, .ref (ad lo)), (3, .ref (ad qo))]) C.1.1 C.1.2.1 dX0_turnBetween_29 hl (by decide) rfl (fun ls hl => ?_)
  refine g_iconst (a := 0) C dX0_turnBetween_31 rfl ?_
  refine lv_istore (lv' := [(5, .int (iz 0)), (4, .int (iz z_35)), (0, .ref (ad bo)), (1, .int (iz ring)), (2, .ref (ad lo)), (3, .ref (ad qo))]) C.1.1 C.1.2.1 dX0_turnBetween_32 hl (by decide) rfl (fun ls hl => ?_)
  have lp_34_n_38 : ∀ (k_37 : Nat) (d : Int) (V1 : Int → Nat) (t9 : Int) (gv : Nat → va_E), (gd ring w - d).toNat < k_37 → (0 ≤ d) → (d ≤ gd ring w) → (gv bo = .inr (0, [.ref (ad (bo + 1)), .ref (ad (bo + 3)), .ref (ad (bo + 5))])) → (gv (bo + 1) = .inr (5, [.ref (ad (bo + 1 + 1))])) → (gv (bo + 3) = .inr (5, [.ref (ad (bo + 3 + 1))])) → (gv (bo + 3 + 1) = aW κ 602 W_13) → (gv lo = .inr (3, [.int (iz w), .int (iz sd), .int (iz ho), .int (iz st0)])) → (gv qo = .inr (3, [.int (iz w2), .int (iz sd2), .int (iz ho2), .int (iz st2)])) → (gv (bo + 1 + 1) = aW κ 602 V1) → (gv (bo + 5) = oL w sd ho t9) → (frB g gv bo) → (∀ j, 0 ≤ j → j < d → ¬ SameR ring w sd ho ((st0 + j) % ring) w2 sd2 ho2 st2) → ∀ (H : Heap) (locs : List Loc), gG κ B n ad s gv H locs → ∀ (ls : Array Slot), lv_has ls 6 [(0, .ref (ad bo)), (1, .int (iz ring)), (2, .ref (ad lo)), (3, .ref (ad qo)), (4, .int (iz z_35)), (5, .int (iz d))] → W p l e ({ frames := 3, cells := 0, slots := 0, locals := 77 }) s m args below meth c H locs 0 0 (MQ below (gQi κ B n ad (fun z g' => isBn κ ad g' bo ∧ frB g g' bo ∧ isFirst (fun d => SameR ring w sd ho ((st0 + d) % ring) w2 sd2 ho2 st2) ring z)) args s 0 0 (gFree B)) (F0 m 34 ls []) := by
    intro k_37
    induction k_37 with
    | zero => intro d V1 t9 gv hm; exact absurd hm (Nat.not_lt_zero _)
    | succ k_37 ih_lp_34_n_38 =>
      intro d V1 t9 gv hm hd0 hd1 hk0 hk1 hk3 hk5 hkl hkq hk4 hk6 hfb hnb H locs G ls hl
      refine g_iload C dX0_turnBetween_34 hl 5 rfl ?_
      refine g_iload C dX0_turnBetween_36 hl 4 rfl ?_
      refine g_icmp_ge (tgt := 98) C (by omega) (by omega) dX0_turnBetween_38 (by decide) (fun c_39 => ?_) (fun c_39 => ?_)
      · refine g_bipush (a := (-9)) C dX0_turnBetween_98 (by decide) ?_
        refine g_iret C G hr hlk (Nat.le_of_ble_eq_true rfl) (Nat.le_of_ble_eq_true rfl) dX0_turnBetween_100 ?_
        exact ⟨⟨hk0, hk1, hk3, ⟨_, hk4⟩, ⟨_, hk5⟩, ⟨_, _, _, _, hk6⟩⟩, hfb, isFirst.ext (gd_pos (by omega)) (gd_le (by omega)) (fun d9 d0 => same_per (by omega) (by omega) d0) (Or.inr ⟨rfl, fun j j0 j1 => hnb j j0 (by omega)⟩)⟩
      · refine g_aload_n C dX0_turnBetween_41 rfl hl 0 rfl ?_
        refine g_get C G (pos := bo) fX0_turnBetween_24 (by omega) hk0 rfl dX0_turnBetween_42 ?_
        refine g_aload_n C dX0_turnBetween_45 rfl hl 2 rfl ?_
        refine g_iload_n C dX0_turnBetween_46 rfl hl 1 rfl ?_
        refine g_iload C dX0_turnBetween_47 hl 5 rfl ?_
        refine g_i2l C (by omega) dX0_turnBetween_49 ?_
        refine g_ci C G (g_runV (As := [.int (iz ring), .long (jz d)]) (rest := [.ref (ad (bo + 5))]) (pos := lo) C G (c_X3_angleAt l κ B n ad gv lo w sd ho st0 ring d (by omega) hkl (by omega) (by omega) (by omega) (by omega)) (cwV 2 C.1.2.2.2.2 gX0_turnBetween_X3_angleAt rfl rfl rfl (by decide +kernel) ⟨Nat.le_of_ble_eq_true rfl, Nat.le_of_ble_eq_true rfl⟩) (by omega) hkl (T := TX3) (N := 4) rfl rfl hl rfl (Nat.le_of_ble_eq_true rfl) dX0_turnBetween_50 ⟨Nat.le_of_ble_eq_true rfl, Nat.le_of_ble_eq_true rfl⟩) (fun z_40 g9 H locs hw G => ?_)
        obtain ⟨hg9, h_41⟩ := hw
        replace hg9 := hg9.symm
        subst hg9
        refine g_put C G (pos := bo + 5) (fs' := [.int (iz w), .int (iz sd), .int (iz ho), .int (iz z_40)]) fwX0_turnBetween_71 (by omega) hk6 (Nat.le_of_ble_eq_true rfl) rfl rfl rfl dX0_turnBetween_53 (fun H locs G => ?_)
        obtain ⟨g_42, hg_43⟩ : ∃ g9, g9 = va_up gv (bo + 5) (.inr (3, [.int (iz w), .int (iz sd), .int (iz ho), .int (iz z_40)])) := ⟨_, rfl⟩
        rw [← hg_43] at G
        have hc_44 : g_42 bo = .inr (0, [.ref (ad (bo + 1)), .ref (ad (bo + 3)), .ref (ad (bo + 5))]) := by rw [hg_43, gu_ne (by omega)]; exact hk0
        have hc_45 : g_42 (bo + 1) = .inr (5, [.ref (ad (bo + 1 + 1))]) := by rw [hg_43, gu_ne (by omega)]; exact hk1
        have hc_46 : g_42 (bo + 3) = .inr (5, [.ref (ad (bo + 3 + 1))]) := by rw [hg_43, gu_ne (by omega)]; exact hk3
        have hc_47 : g_42 (bo + 3 + 1) = aW κ 602 W_13 := by rw [hg_43, gu_ne (by omega)]; exact hk5
        have hc_48 : g_42 lo = .inr (3, [.int (iz w), .int (iz sd), .int (iz ho), .int (iz st0)]) := by rw [hg_43, gu_ne (by omega)]; exact hkl
        have hc_49 : g_42 qo = .inr (3, [.int (iz w2), .int (iz sd2), .int (iz ho2), .int (iz st2)]) := by rw [hg_43, gu_ne (by omega)]; exact hkq
        have hc_50 : g_42 (bo + 1 + 1) = aW κ 602 V1 := by rw [hg_43, gu_ne (by omega)]; exact hk4
        have hc_51 : g_42 (bo + 5) = .inr (3, [.int (iz w), .int (iz sd), .int (iz ho), .int (iz z_40)]) := by rw [hg_43]; exact gu_self _ _ _
        refine g_aload_n C dX0_turnBetween_56 rfl hl 0 rfl ?_
        refine g_get C G (pos := bo) fX0_turnBetween_12 (by omega) hc_44 rfl dX0_turnBetween_57 ?_
        refine g_cv C G (g_runV (As := []) (rest := []) (pos := bo + 1) C G (c_X5_clear l κ B n ad g_42 (bo + 1) V1 (by omega) hc_45 hc_50) (cwV 0 C.1.2.2.2.2 gX0_turnBetween_X5_clear rfl rfl rfl (by decide +kernel) ⟨Nat.le_of_ble_eq_true rfl, Nat.le_of_ble_eq_true rfl⟩) (by omega) hc_45 (T := TX5) (N := 1) rfl rfl hl rfl (Nat.le_of_ble_eq_true rfl) dX0_turnBetween_60 ⟨Nat.le_of_ble_eq_true rfl, Nat.le_of_ble_eq_true rfl⟩) (fun g9 H locs hw9 G => ?_)
        obtain ⟨W_52, hw9, hW_53⟩ := hw9
        subst hw9
        obtain ⟨g_54, hg_55⟩ : ∃ g9, g9 = va_up g_42 (bo + 1 + 1) (aW κ 602 W_52) := ⟨_, rfl⟩
        rw [← hg_55] at G
        have hc_56 : g_54 bo = .inr (0, [.ref (ad (bo + 1)), .ref (ad (bo + 3)), .ref (ad (bo + 5))]) := by rw [hg_55, gu_ne (by omega)]; exact hc_44
        have hc_57 : g_54 (bo + 1) = .inr (5, [.ref (ad (bo + 1 + 1))]) := by rw [hg_55, gu_ne (by omega)]; exact hc_45
        have hc_58 : g_54 (bo + 3) = .inr (5, [.ref (ad (bo + 3 + 1))]) := by rw [hg_55, gu_ne (by omega)]; exact hc_46
        have hc_59 : g_54 (bo + 3 + 1) = aW κ 602 W_13 := by rw [hg_55, gu_ne (by omega)]; exact hc_47
        have hc_60 : g_54 lo = .inr (3, [.int (iz w), .int (iz sd), .int (iz ho), .int (iz st0)]) := by rw [hg_55, gu_ne (by omega)]; exact hc_48
        have hc_61 : g_54 qo = .inr (3, [.int (iz w2), .int (iz sd2), .int (iz ho2), .int (iz st2)]) := by rw [hg_55, gu_ne (by omega)]; exact hc_49
        have hc_62 : g_54 (bo + 1 + 1) = aW κ 602 W_52 := by rw [hg_55]; exact gu_self _ _ _
        have hc_63 : g_54 (bo + 5) = .inr (3, [.int (iz w), .int (iz sd), .int (iz ho), .int (iz z_40)]) := by rw [hg_55, gu_ne (by omega)]; exact hc_51
        refine g_aload_n C dX0_turnBetween_63 rfl hl 0 rfl ?_
        refine g_get C G (pos := bo) fX0_turnBetween_12 (by omega) hc_56 rfl dX0_turnBetween_64 ?_
        refine g_iload_n C dX0_turnBetween_67 rfl hl 1 rfl ?_
        refine g_aload_n C dX0_turnBetween_68 rfl hl 0 rfl ?_
        refine g_get C G (pos := bo) fX0_turnBetween_24 (by omega) hc_56 rfl dX0_turnBetween_69 ?_
        refine g_cv C G (g_runV (As := [.int (iz ring), .ref (ad (bo + 5))]) (rest := []) (pos := bo + 1) C G (c_X5_cutRosette l κ B n ad g_54 (bo + 1) W_52 (bo + 5) w sd ho z_40 (fun _ _ => False) ring (by omega) hc_57 hc_62 (by omega) hc_63 (by omega) hok (by omega) (by omega) (repW.zero hW_53)) (cwV 2 C.1.2.2.2.2 gX0_turnBetween_X5_cutRosette rfl rfl rfl (by decide +kernel) ⟨Nat.le_of_ble_eq_true rfl, Nat.le_of_ble_eq_true rfl⟩) (by omega) hc_57 (T := TX5) (N := 1) rfl rfl hl rfl (Nat.le_of_ble_eq_true rfl) dX0_turnBetween_72 ⟨Nat.le_of_ble_eq_true rfl, Nat.le_of_ble_eq_true rfl⟩) (fun g9 H locs hw9 G => ?_)
        obtain ⟨W_64, hw9, hW_65⟩ := hw9
        subst hw9
        obtain ⟨g_66, hg_67⟩ : ∃ g9, g9 = va_up g_54 (bo + 1 + 1) (aW κ 602 W_64) := ⟨_, rfl⟩
        rw [← hg_67] at G
        have hc_68 : g_66 bo = .inr (0, [.ref (ad (bo + 1)), .ref (ad (bo + 3)), .ref (ad (bo + 5))]) := by rw [hg_67, gu_ne (by omega)]; exact hc_56
        have hc_69 : g_66 (bo + 1) = .inr (5, [.ref (ad (bo + 1 + 1))]) := by rw [hg_67, gu_ne (by omega)]; exact hc_57
        have hc_70 : g_66 (bo + 3) = .inr (5, [.ref (ad (bo + 3 + 1))]) := by rw [hg_67, gu_ne (by omega)]; exact hc_58
        have hc_71 : g_66 (bo + 3 + 1) = aW κ 602 W_13 := by rw [hg_67, gu_ne (by omega)]; exact hc_59
        have hc_72 : g_66 lo = .inr (3, [.int (iz w), .int (iz sd), .int (iz ho), .int (iz st0)]) := by rw [hg_67, gu_ne (by omega)]; exact hc_60
        have hc_73 : g_66 qo = .inr (3, [.int (iz w2), .int (iz sd2), .int (iz ho2), .int (iz st2)]) := by rw [hg_67, gu_ne (by omega)]; exact hc_61
        have hc_74 : g_66 (bo + 1 + 1) = aW κ 602 W_64 := by rw [hg_67]; exact gu_self _ _ _
        have hc_75 : g_66 (bo + 5) = .inr (3, [.int (iz w), .int (iz sd), .int (iz ho), .int (iz z_40)]) := by rw [hg_67, gu_ne (by omega)]; exact hc_63
        refine g_aload_n C dX0_turnBetween_75 rfl hl 0 rfl ?_
        refine g_get C G (pos := bo) fX0_turnBetween_12 (by omega) hc_68 rfl dX0_turnBetween_76 ?_
        refine g_aload_n C dX0_turnBetween_79 rfl hl 0 rfl ?_
        refine g_get C G (pos := bo) fX0_turnBetween_18 (by omega) hc_68 rfl dX0_turnBetween_80 ?_
        refine g_ci C G (g_runV (As := [.ref (ad (bo + 3))]) (rest := []) (pos := bo + 1) C G (c_X5_isSameAs l κ B n ad g_66 (bo + 1) W_64 (bo + 3) W_13 (by omega) hc_69 hc_74 (by omega) hc_70 hc_71 hW_65.lt hW_14.lt) (cwV 1 C.1.2.2.2.2 gX0_turnBetween_X5_isSameAs rfl rfl rfl (by decide +kernel) ⟨Nat.le_of_ble_eq_true rfl, Nat.le_of_ble_eq_true rfl⟩) (by omega) hc_69 (T := TX5) (N := 1) rfl rfl hl rfl (Nat.le_of_ble_eq_true rfl) dX0_turnBetween_83 ⟨Nat.le_of_ble_eq_true rfl, Nat.le_of_ble_eq_true rfl⟩) (fun z_77 g9 H locs hw G => ?_)
        obtain ⟨hg9, hw⟩ := hw
        replace hg9 := hg9.symm
        subst hg9
        rcases hw with ⟨b_76, rfl⟩ | ⟨b_76, rfl⟩
        · have hs_780 := ((hW_65.iff (fun a r _ _ _ _ => ⟨fun q => q.elim False.elim id, Or.inr⟩)).same (hW_14.iff (fun a r _ _ _ _ => ⟨fun q => q.elim False.elim id, Or.inr⟩)))
          rw [h_41.2.2] at hs_780
          have hs_78 : SameR ring w sd ho ((st0 + d) % ring) w2 sd2 ho2 st2 := hs_780.mp b_76
          refine g_if_eq (tgt := 92) C (by decide) dX0_turnBetween_86 (by decide) (fun c9 => absurd c9 (by decide)) (fun _ => ?_)
          refine g_iload C dX0_turnBetween_89 hl 5 rfl ?_
          refine g_iret C G hr hlk (Nat.le_of_ble_eq_true rfl) (Nat.le_of_ble_eq_true rfl) dX0_turnBetween_91 ?_
          exact ⟨⟨hc_68, hc_69, hc_70, ⟨_, hc_74⟩, ⟨_, hc_71⟩, ⟨_, _, _, _, hc_75⟩⟩, (by rw [hg_67]; exact (by rw [hg_55]; exact (by rw [hg_43]; exact hfb.up (by omega) (by omega) : frB g g_42 bo).up (by omega) (by omega) : frB g g_54 bo).up (by omega) (by omega) : frB g g_66 bo), isFirst.ext (gd_pos (by omega)) (gd_le (by omega)) (fun d9 d0 => same_per (by omega) (by omega) d0) (Or.inl ⟨hd0, by omega, hs_78, hnb⟩)⟩
        · have hs_790 := ((hW_65.iff (fun a r _ _ _ _ => ⟨fun q => q.elim False.elim id, Or.inr⟩)).same (hW_14.iff (fun a r _ _ _ _ => ⟨fun q => q.elim False.elim id, Or.inr⟩)))
          rw [h_41.2.2] at hs_790
          have hs_79 : ¬ SameR ring w sd ho ((st0 + d) % ring) w2 sd2 ho2 st2 := fun q => b_76 (hs_790.mpr q)
          refine g_if_eq (tgt := 92) C (by decide) dX0_turnBetween_86 (by decide) (fun _ => ?_) (fun c9 => absurd c9 (by decide))
          refine lv_iinc (v := iz (d + 1)) (lv' := [(5, .int (iz (d + 1))), (0, .ref (ad bo)), (1, .int (iz ring)), (2, .ref (ad lo)), (3, .ref (ad qo)), (4, .int (iz z_35))]) C.1.1 C.1.2.1 dX0_turnBetween_92 hl (k := 5) rfl (g_inc (by omega)) (by decide) rfl (fun ls hl => ?_)
          refine g_goto (tgt := 34) C dX0_turnBetween_95 (by decide) ?_
          exact ih_lp_34_n_38 (d + 1) W_64 z_40 g_66 (by omega) (by omega) (by omega) hc_68 hc_69 hc_70 hc_71 hc_72 hc_73 hc_74 hc_75 (by rw [hg_67]; exact (by rw [hg_55]; exact (by rw [hg_43]; exact hfb.up (by omega) (by omega) : frB g g_42 bo).up (by omega) (by omega) : frB g g_54 bo).up (by omega) (by omega) : frB g g_66 bo) (fun j j0 j1 => by
              by_cases hj : j = d
              · rw [hj]; exact hs_79
              · exact hnb j j0 (by omega)) _ _ G _ (lv_sub hl [1, 2, 3, 4, 5, 0] rfl)
  exact lp_34_n_38 _ 0 W1 st0 g_25 (Nat.lt_succ_self _) (by omega) (by omega) hc_27 hc_28 hc_29 hc_31 hc_33 hc_34 hc_30 hc_32 (by rw [hg_26]; exact (by rw [hg_16]; exact (by rw [hg_4]; exact frB.rf.up (by omega) (by omega) : frB g g_3 bo).up (by omega) (by omega) : frB g g_15 bo).up (by omega) (by omega) : frB g g_25 bo) (fun j j0 j1 => absurd j1 (by omega)) _ _ G _ (lv_sub hl [2, 3, 4, 5, 1, 0] rfl)
theorem fX0_startWithMost_18 : gFld wsX0_startWithMost RX0 18 0 1 := ⟨RX0, TX0, 3, rfl, by decide, by decide +kernel, by decide +kernel⟩
theorem fX0_startWithMost_24 : gFld wsX0_startWithMost RX0 24 0 2 := ⟨RX0, TX0, 3, rfl, by decide, by decide +kernel, by decide +kernel⟩
theorem fwX0_startWithMost_71 : gFldW wsX0_startWithMost RX0 71 3 3 .int false := ⟨RX3, TX3, 4, tyX3, rfl, by decide, by decide +kernel, by decide +kernel, tyX3_ok, nmX3, rfl, by decide +kernel, by decide +kernel⟩
theorem fX0_startWithMost_12 : gFld wsX0_startWithMost RX0 12 0 0 := ⟨RX0, TX0, 3, rfl, by decide, by decide +kernel, by decide +kernel⟩
set_option maxHeartbeats 4000000 in
set_option maxRecDepth 100000 in
theorem c_X0_startWithMost (l : Launch) (κ : gKap) (B n : Nat) (ad : Nat → Nat) (g : Nat → va_E) (bo : Nat) (ring : Int) (lo : Nat) (w : Int) (sd : Int) (ho : Int) (st0 : Int) (qo : Nat) (w2 : Int) (sd2 : Int) (ho2 : Int) (st2 : Int) (hbn9 : bo + 6 ≤ n) (hbn : isBn κ ad g bo) (hrg : 12 ≤ ring ∧ ring ≤ 96) (hlp : lo < n) (hel : g lo = oL w sd ho st0) (hlo : lo < bo ∨ bo + 6 ≤ lo) (hok : okL w sd ho) (hst : 0 ≤ st0 ∧ st0 < ring) (hqp : qo < n) (heq : g qo = oL w2 sd2 ho2 st2) (hqo : qo < bo ∨ bo + 6 ≤ qo) (hok2 : okL w2 sd2 ho2) (hst2 : 0 ≤ st2 ∧ st2 < ring) : Met l yX0_startWithMost wsX0_startWithMost ({ frames := 3, cells := 0, slots := 0, locals := 77 }) (gPre κ B n ad g [.ref (ad bo), .int (iz ring), .ref (ad lo), .ref (ad qo)]) (gQi κ B n ad (fun z g' => isBn κ ad g' bo ∧ frB g g' bo ∧ z = (bsf (cmF ring w sd ho w2 sd2 ho2 st2) ring.toNat).1 ∧ 0 ≤ z ∧ z < ring)) 0 0 (gFree B) := by
  refine g_met RX0 (cc := cX0_startWithMost) (maxL := 9) (ret := (some .int)) (by decide) rfl rfl (Nat.le_of_ble_eq_true rfl) ?_
  intro p e s m args below meth c C hr hlk hnm G ls hl
  have hl : lv_has ls 9 [(0, .ref (ad bo)), (1, .int (iz ring)), (2, .ref (ad lo)), (3, .ref (ad qo))] := hl
  obtain ⟨hb0, hb1, hb3, ⟨W1, hb2⟩, ⟨W2, hb4⟩, tw9, ts9, th9, tt9, hb5⟩ := id hbn
  refine g_aload_n C dX0_startWithMost_0 rfl hl 0 rfl ?_
  refine g_get C G (pos := bo) fX0_startWithMost_18 (by omega) hb0 rfl dX0_startWithMost_1 ?_
  refine g_cv C G (g_runV (As := []) (rest := []) (pos := bo + 3) C G (c_X5_clear l κ B n ad g (bo + 3) W2 (by omega) hb3 hb4) (cwV 0 C.1.2.2.2.2 gX0_startWithMost_X5_clear rfl rfl rfl (by decide +kernel) ⟨Nat.le_of_ble_eq_true rfl, Nat.le_of_ble_eq_true rfl⟩) (by omega) hb3 (T := TX5) (N := 1) rfl rfl hl rfl (Nat.le_of_ble_eq_true rfl) dX0_startWithMost_4 ⟨Nat.le_of_ble_eq_true rfl, Nat.le_of_ble_eq_true rfl⟩) (fun g9 H locs hw9 G => ?_)
  obtain ⟨W_1, hw9, hW_2⟩ := hw9
  subst hw9
  obtain ⟨g_3, hg_4⟩ : ∃ g9, g9 = va_up g (bo + 3 + 1) (aW κ 602 W_1) := ⟨_, rfl⟩
  rw [← hg_4] at G
  have hc_5 : g_3 bo = .inr (0, [.ref (ad (bo + 1)), .ref (ad (bo + 3)), .ref (ad (bo + 5))]) := by rw [hg_4, gu_ne (by omega)]; exact hb0
  have hc_6 : g_3 (bo + 1) = .inr (5, [.ref (ad (bo + 1 + 1))]) := by rw [hg_4, gu_ne (by omega)]; exact hb1
  have hc_7 : g_3 (bo + 3) = .inr (5, [.ref (ad (bo + 3 + 1))]) := by rw [hg_4, gu_ne (by omega)]; exact hb3
  have hc_8 : g_3 (bo + 1 + 1) = aW κ 602 W1 := by rw [hg_4, gu_ne (by omega)]; exact hb2
  have hc_9 : g_3 (bo + 3 + 1) = aW κ 602 W_1 := by rw [hg_4]; exact gu_self _ _ _
  have hc_10 : g_3 (bo + 5) = .inr (3, [.int (iz tw9), .int (iz ts9), .int (iz th9), .int (iz tt9)]) := by rw [hg_4, gu_ne (by omega)]; exact hb5
  have hc_11 : g_3 lo = .inr (3, [.int (iz w), .int (iz sd), .int (iz ho), .int (iz st0)]) := by rw [hg_4, gu_ne (by omega)]; exact hel
  have hc_12 : g_3 qo = .inr (3, [.int (iz w2), .int (iz sd2), .int (iz ho2), .int (iz st2)]) := by rw [hg_4, gu_ne (by omega)]; exact heq
  refine g_aload_n C dX0_startWithMost_7 rfl hl 0 rfl ?_
  refine g_get C G (pos := bo) fX0_startWithMost_18 (by omega) hc_5 rfl dX0_startWithMost_8 ?_
  refine g_iload_n C dX0_startWithMost_11 rfl hl 1 rfl ?_
  refine g_aload_n C dX0_startWithMost_12 rfl hl 3 rfl ?_
  refine g_cv C G (g_runV (As := [.int (iz ring), .ref (ad qo)]) (rest := []) (pos := bo + 3) C G (c_X5_cutRosette l κ B n ad g_3 (bo + 3) W_1 qo w2 sd2 ho2 st2 (fun _ _ => False) ring (by omega) hc_7 hc_9 (by omega) hc_12 (by omega) hok2 (by omega) hst2 (repW.zero hW_2)) (cwV 2 C.1.2.2.2.2 gX0_startWithMost_X5_cutRosette rfl rfl rfl (by decide +kernel) ⟨Nat.le_of_ble_eq_true rfl, Nat.le_of_ble_eq_true rfl⟩) (by omega) hc_7 (T := TX5) (N := 1) rfl rfl hl rfl (Nat.le_of_ble_eq_true rfl) dX0_startWithMost_13 ⟨Nat.le_of_ble_eq_true rfl, Nat.le_of_ble_eq_true rfl⟩) (fun g9 H locs hw9 G => ?_)
  obtain ⟨W_13, hw9, hW_14⟩ := hw9
  subst hw9
  obtain ⟨g_15, hg_16⟩ : ∃ g9, g9 = va_up g_3 (bo + 3 + 1) (aW κ 602 W_13) := ⟨_, rfl⟩
  rw [← hg_16] at G
  have hc_17 : g_15 bo = .inr (0, [.ref (ad (bo + 1)), .ref (ad (bo + 3)), .ref (ad (bo + 5))]) := by rw [hg_16, gu_ne (by omega)]; exact hc_5
  have hc_18 : g_15 (bo + 1) = .inr (5, [.ref (ad (bo + 1 + 1))]) := by rw [hg_16, gu_ne (by omega)]; exact hc_6
  have hc_19 : g_15 (bo + 3) = .inr (5, [.ref (ad (bo + 3 + 1))]) := by rw [hg_16, gu_ne (by omega)]; exact hc_7
  have hc_20 : g_15 (bo + 1 + 1) = aW κ 602 W1 := by rw [hg_16, gu_ne (by omega)]; exact hc_8
  have hc_21 : g_15 (bo + 3 + 1) = aW κ 602 W_13 := by rw [hg_16]; exact gu_self _ _ _
  have hc_22 : g_15 (bo + 5) = .inr (3, [.int (iz tw9), .int (iz ts9), .int (iz th9), .int (iz tt9)]) := by rw [hg_16, gu_ne (by omega)]; exact hc_10
  have hc_23 : g_15 lo = .inr (3, [.int (iz w), .int (iz sd), .int (iz ho), .int (iz st0)]) := by rw [hg_16, gu_ne (by omega)]; exact hc_11
  have hc_24 : g_15 qo = .inr (3, [.int (iz w2), .int (iz sd2), .int (iz ho2), .int (iz st2)]) := by rw [hg_16, gu_ne (by omega)]; exact hc_12
  refine g_aload_n C dX0_startWithMost_16 rfl hl 0 rfl ?_
  refine g_get C G (pos := bo) fX0_startWithMost_24 (by omega) hc_17 rfl dX0_startWithMost_17 ?_
  refine g_aload_n C dX0_startWithMost_20 rfl hl 2 rfl ?_
  refine g_cv C G (g_runV (As := [.ref (ad lo)]) (rest := []) (pos := bo + 5) C G (c_X3_become l κ B n ad g_15 (bo + 5) tw9 ts9 th9 tt9 lo w sd ho st0 (by omega) hc_22 (by omega) hc_23 (by omega)) (cwV 1 C.1.2.2.2.2 gX0_startWithMost_X3_become rfl rfl rfl (by decide +kernel) ⟨Nat.le_of_ble_eq_true rfl, Nat.le_of_ble_eq_true rfl⟩) (by omega) hc_22 (T := TX3) (N := 4) rfl rfl hl rfl (Nat.le_of_ble_eq_true rfl) dX0_startWithMost_21 ⟨Nat.le_of_ble_eq_true rfl, Nat.le_of_ble_eq_true rfl⟩) (fun g9 H locs hw G => ?_)
  subst hw
  obtain ⟨g_25, hg_26⟩ : ∃ g9, g9 = va_up g_15 (bo + 5) (.inr (3, [.int (iz w), .int (iz sd), .int (iz ho), .int (iz st0)])) := ⟨_, rfl⟩
  rw [← hg_26] at G
  have hc_27 : g_25 bo = .inr (0, [.ref (ad (bo + 1)), .ref (ad (bo + 3)), .ref (ad (bo + 5))]) := by rw [hg_26, gu_ne (by omega)]; exact hc_17
  have hc_28 : g_25 (bo + 1) = .inr (5, [.ref (ad (bo + 1 + 1))]) := by rw [hg_26, gu_ne (by omega)]; exact hc_18
  have hc_29 : g_25 (bo + 3) = .inr (5, [.ref (ad (bo + 3 + 1))]) := by rw [hg_26, gu_ne (by omega)]; exact hc_19
  have hc_30 : g_25 (bo + 1 + 1) = aW κ 602 W1 := by rw [hg_26, gu_ne (by omega)]; exact hc_20
  have hc_31 : g_25 (bo + 3 + 1) = aW κ 602 W_13 := by rw [hg_26, gu_ne (by omega)]; exact hc_21
  have hc_32 : g_25 (bo + 5) = .inr (3, [.int (iz w), .int (iz sd), .int (iz ho), .int (iz st0)]) := by rw [hg_26]; exact gu_self _ _ _
  have hc_33 : g_25 lo = .inr (3, [.int (iz w), .int (iz sd), .int (iz ho), .int (iz st0)]) := by rw [hg_26, gu_ne (by omega)]; exact hc_23
  have hc_34 : g_25 qo = .inr (3, [.int (iz w2), .int (iz sd2), .int (iz ho2), .int (iz st2)]) := by rw [hg_26, gu_ne (by omega)]; exact hc_24
  refine g_iload_n C dX0_startWithMost_24 rfl hl 1 rfl ?_
  refine g_aload_n C dX0_startWithMost_25 rfl hl 2 rfl ?_
  refine g_ci C G (g_runS (As := [.int (iz ring), .ref (ad lo)]) (rest := []) C G (c_X0_differentStarts l κ B n ad g_25 ring lo w sd ho st0 (by omega) (by omega) hc_33 (by omega)) (va_cwS 2 C.1.2.2.2.2 gX0_startWithMost_X0_differentStarts rfl rfl rfl (by decide +kernel) ⟨Nat.le_of_ble_eq_true rfl, Nat.le_of_ble_eq_true rfl⟩) rfl hl rfl (Nat.le_of_ble_eq_true rfl) dX0_startWithMost_26 ⟨Nat.le_of_ble_eq_true rfl, Nat.le_of_ble_eq_true rfl⟩) (fun z_35 g9 H locs hw G => ?_)
  obtain ⟨hg9, h_36⟩ := hw
  replace hg9 := hg9.symm
  subst hg9
  refine lv_istore (lv' := [(4, .int (iz z_35)), (0, .ref (ad bo)), (1, .int (iz ring)), (2, .ref (ad lo)), (3, .ref (ad qo))]) C.1.1 C.1.2.1 dX0_startWithMost_29 hl (by decide) rfl (fun ls hl => ?_)
  refine g_iconst (a := 0) C dX0_startWithMost_31 rfl ?_
  refine lv_istore (lv' := [(5, .int (iz 0)), (4, .int (iz z_35)), (0, .ref (ad bo)), (1, .int (iz ring)), (2, .ref (ad lo)), (3, .ref (ad qo))]) C.1.1 C.1.2.1 dX0_startWithMost_32 hl (by decide) rfl (fun ls hl => ?_)
  refine g_bipush (a := (-9)) C dX0_startWithMost_34 (by decide) ?_
  refine lv_istore (lv' := [(6, .int (iz (-9))), (5, .int (iz 0)), (4, .int (iz z_35)), (0, .ref (ad bo)), (1, .int (iz ring)), (2, .ref (ad lo)), (3, .ref (ad qo))]) C.1.1 C.1.2.1 dX0_startWithMost_36 hl (by decide) rfl (fun ls hl => ?_)
  refine g_iconst (a := 0) C dX0_startWithMost_38 rfl ?_
  refine lv_istore (lv' := [(7, .int (iz 0)), (6, .int (iz (-9))), (5, .int (iz 0)), (4, .int (iz z_35)), (0, .ref (ad bo)), (1, .int (iz ring)), (2, .ref (ad lo)), (3, .ref (ad qo))]) C.1.1 C.1.2.1 dX0_startWithMost_39 hl (by decide) rfl (fun ls hl => ?_)
  have lp_41_n_38 : ∀ (k_37 : Nat) (b : Int) (mo : Int) (d : Int) (V1 : Int → Nat) (t9 : Int) (gv : Nat → va_E), (gd ring w - d).toNat < k_37 → (0 ≤ d) → (d ≤ gd ring w) → (gv bo = .inr (0, [.ref (ad (bo + 1)), .ref (ad (bo + 3)), .ref (ad (bo + 5))])) → (gv (bo + 1) = .inr (5, [.ref (ad (bo + 1 + 1))])) → (gv (bo + 3) = .inr (5, [.ref (ad (bo + 3 + 1))])) → (gv (bo + 3 + 1) = aW κ 602 W_13) → (gv lo = .inr (3, [.int (iz w), .int (iz sd), .int (iz ho), .int (iz st0)])) → (gv qo = .inr (3, [.int (iz w2), .int (iz sd2), .int (iz ho2), .int (iz st2)])) → (gv (bo + 1 + 1) = aW κ 602 V1) → (gv (bo + 5) = oL w sd ho t9) → (frB g gv bo) → (-9 ≤ mo ∧ mo ≤ 38528) → (0 ≤ b ∧ b < ring) → ((b, mo) = bsf (cmF ring w sd ho w2 sd2 ho2 st2) d.toNat) → ∀ (H : Heap) (locs : List Loc), gG κ B n ad s gv H locs → ∀ (ls : Array Slot), lv_has ls 9 [(0, .ref (ad bo)), (1, .int (iz ring)), (2, .ref (ad lo)), (3, .ref (ad qo)), (4, .int (iz z_35)), (5, .int (iz b)), (6, .int (iz mo)), (7, .int (iz d))] → W p l e ({ frames := 3, cells := 0, slots := 0, locals := 77 }) s m args below meth c H locs 0 0 (MQ below (gQi κ B n ad (fun z g' => isBn κ ad g' bo ∧ frB g g' bo ∧ z = (bsf (cmF ring w sd ho w2 sd2 ho2 st2) ring.toNat).1 ∧ 0 ≤ z ∧ z < ring)) args s 0 0 (gFree B)) (F0 m 41 ls []) := by
    intro k_37
    induction k_37 with
    | zero => intro b mo d V1 t9 gv hm; exact absurd hm (Nat.not_lt_zero _)
    | succ k_37 ih_lp_41_n_38 =>
      intro b mo d V1 t9 gv hm hd0 hd1 hk0 hk1 hk3 hk5 hkl hkq hk4 hk6 hfb hmo hbb hbs H locs G ls hl
      refine g_iload C dX0_startWithMost_41 hl 7 rfl ?_
      refine g_iload C dX0_startWithMost_43 hl 4 rfl ?_
      refine g_icmp_ge (tgt := 110) C (by omega) (by omega) dX0_startWithMost_45 (by decide) (fun c_39 => ?_) (fun c_39 => ?_)
      · refine g_iload C dX0_startWithMost_110 hl 5 rfl ?_
        refine g_iret C G hr hlk (Nat.le_of_ble_eq_true rfl) (Nat.le_of_ble_eq_true rfl) dX0_startWithMost_112 ?_
        exact ⟨⟨hk0, hk1, hk3, ⟨_, hk4⟩, ⟨_, hk5⟩, ⟨_, _, _, _, hk6⟩⟩, hfb, by rw [← best_ext (by omega) (by omega), ← show d = gd ring w by omega, ← hbs], by omega, by omega⟩
      · refine g_aload_n C dX0_startWithMost_48 rfl hl 0 rfl ?_
        refine g_get C G (pos := bo) fX0_startWithMost_24 (by omega) hk0 rfl dX0_startWithMost_49 ?_
        refine g_iload C dX0_startWithMost_52 hl 7 rfl ?_
        refine g_put C G (pos := bo + 5) (fs' := [.int (iz w), .int (iz sd), .int (iz ho), .int (iz d)]) fwX0_startWithMost_71 (by omega) hk6 (Nat.le_of_ble_eq_true rfl) rfl rfl rfl dX0_startWithMost_54 (fun H locs G => ?_)
        obtain ⟨g_40, hg_41⟩ : ∃ g9, g9 = va_up gv (bo + 5) (.inr (3, [.int (iz w), .int (iz sd), .int (iz ho), .int (iz d)])) := ⟨_, rfl⟩
        rw [← hg_41] at G
        have hc_42 : g_40 bo = .inr (0, [.ref (ad (bo + 1)), .ref (ad (bo + 3)), .ref (ad (bo + 5))]) := by rw [hg_41, gu_ne (by omega)]; exact hk0
        have hc_43 : g_40 (bo + 1) = .inr (5, [.ref (ad (bo + 1 + 1))]) := by rw [hg_41, gu_ne (by omega)]; exact hk1
        have hc_44 : g_40 (bo + 3) = .inr (5, [.ref (ad (bo + 3 + 1))]) := by rw [hg_41, gu_ne (by omega)]; exact hk3
        have hc_45 : g_40 (bo + 3 + 1) = aW κ 602 W_13 := by rw [hg_41, gu_ne (by omega)]; exact hk5
        have hc_46 : g_40 lo = .inr (3, [.int (iz w), .int (iz sd), .int (iz ho), .int (iz st0)]) := by rw [hg_41, gu_ne (by omega)]; exact hkl
        have hc_47 : g_40 qo = .inr (3, [.int (iz w2), .int (iz sd2), .int (iz ho2), .int (iz st2)]) := by rw [hg_41, gu_ne (by omega)]; exact hkq
        have hc_48 : g_40 (bo + 1 + 1) = aW κ 602 V1 := by rw [hg_41, gu_ne (by omega)]; exact hk4
        have hc_49 : g_40 (bo + 5) = .inr (3, [.int (iz w), .int (iz sd), .int (iz ho), .int (iz d)]) := by rw [hg_41]; exact gu_self _ _ _
        refine g_aload_n C dX0_startWithMost_57 rfl hl 0 rfl ?_
        refine g_get C G (pos := bo) fX0_startWithMost_12 (by omega) hc_42 rfl dX0_startWithMost_58 ?_
        refine g_cv C G (g_runV (As := []) (rest := []) (pos := bo + 1) C G (c_X5_clear l κ B n ad g_40 (bo + 1) V1 (by omega) hc_43 hc_48) (cwV 0 C.1.2.2.2.2 gX0_startWithMost_X5_clear rfl rfl rfl (by decide +kernel) ⟨Nat.le_of_ble_eq_true rfl, Nat.le_of_ble_eq_true rfl⟩) (by omega) hc_43 (T := TX5) (N := 1) rfl rfl hl rfl (Nat.le_of_ble_eq_true rfl) dX0_startWithMost_61 ⟨Nat.le_of_ble_eq_true rfl, Nat.le_of_ble_eq_true rfl⟩) (fun g9 H locs hw9 G => ?_)
        obtain ⟨W_50, hw9, hW_51⟩ := hw9
        subst hw9
        obtain ⟨g_52, hg_53⟩ : ∃ g9, g9 = va_up g_40 (bo + 1 + 1) (aW κ 602 W_50) := ⟨_, rfl⟩
        rw [← hg_53] at G
        have hc_54 : g_52 bo = .inr (0, [.ref (ad (bo + 1)), .ref (ad (bo + 3)), .ref (ad (bo + 5))]) := by rw [hg_53, gu_ne (by omega)]; exact hc_42
        have hc_55 : g_52 (bo + 1) = .inr (5, [.ref (ad (bo + 1 + 1))]) := by rw [hg_53, gu_ne (by omega)]; exact hc_43
        have hc_56 : g_52 (bo + 3) = .inr (5, [.ref (ad (bo + 3 + 1))]) := by rw [hg_53, gu_ne (by omega)]; exact hc_44
        have hc_57 : g_52 (bo + 3 + 1) = aW κ 602 W_13 := by rw [hg_53, gu_ne (by omega)]; exact hc_45
        have hc_58 : g_52 lo = .inr (3, [.int (iz w), .int (iz sd), .int (iz ho), .int (iz st0)]) := by rw [hg_53, gu_ne (by omega)]; exact hc_46
        have hc_59 : g_52 qo = .inr (3, [.int (iz w2), .int (iz sd2), .int (iz ho2), .int (iz st2)]) := by rw [hg_53, gu_ne (by omega)]; exact hc_47
        have hc_60 : g_52 (bo + 1 + 1) = aW κ 602 W_50 := by rw [hg_53]; exact gu_self _ _ _
        have hc_61 : g_52 (bo + 5) = .inr (3, [.int (iz w), .int (iz sd), .int (iz ho), .int (iz d)]) := by rw [hg_53, gu_ne (by omega)]; exact hc_49
        refine g_aload_n C dX0_startWithMost_64 rfl hl 0 rfl ?_
        refine g_get C G (pos := bo) fX0_startWithMost_12 (by omega) hc_54 rfl dX0_startWithMost_65 ?_
        refine g_iload_n C dX0_startWithMost_68 rfl hl 1 rfl ?_
        refine g_aload_n C dX0_startWithMost_69 rfl hl 0 rfl ?_
        refine g_get C G (pos := bo) fX0_startWithMost_24 (by omega) hc_54 rfl dX0_startWithMost_70 ?_
        refine g_cv C G (g_runV (As := [.int (iz ring), .ref (ad (bo + 5))]) (rest := []) (pos := bo + 1) C G (c_X5_cutRosette l κ B n ad g_52 (bo + 1) W_50 (bo + 5) w sd ho d (fun _ _ => False) ring (by omega) hc_55 hc_60 (by omega) hc_61 (by omega) hok (by omega) (by omega) (repW.zero hW_51)) (cwV 2 C.1.2.2.2.2 gX0_startWithMost_X5_cutRosette rfl rfl rfl (by decide +kernel) ⟨Nat.le_of_ble_eq_true rfl, Nat.le_of_ble_eq_true rfl⟩) (by omega) hc_55 (T := TX5) (N := 1) rfl rfl hl rfl (Nat.le_of_ble_eq_true rfl) dX0_startWithMost_73 ⟨Nat.le_of_ble_eq_true rfl, Nat.le_of_ble_eq_true rfl⟩) (fun g9 H locs hw9 G => ?_)
        obtain ⟨W_62, hw9, hW_63⟩ := hw9
        subst hw9
        obtain ⟨g_64, hg_65⟩ : ∃ g9, g9 = va_up g_52 (bo + 1 + 1) (aW κ 602 W_62) := ⟨_, rfl⟩
        rw [← hg_65] at G
        have hc_66 : g_64 bo = .inr (0, [.ref (ad (bo + 1)), .ref (ad (bo + 3)), .ref (ad (bo + 5))]) := by rw [hg_65, gu_ne (by omega)]; exact hc_54
        have hc_67 : g_64 (bo + 1) = .inr (5, [.ref (ad (bo + 1 + 1))]) := by rw [hg_65, gu_ne (by omega)]; exact hc_55
        have hc_68 : g_64 (bo + 3) = .inr (5, [.ref (ad (bo + 3 + 1))]) := by rw [hg_65, gu_ne (by omega)]; exact hc_56
        have hc_69 : g_64 (bo + 3 + 1) = aW κ 602 W_13 := by rw [hg_65, gu_ne (by omega)]; exact hc_57
        have hc_70 : g_64 lo = .inr (3, [.int (iz w), .int (iz sd), .int (iz ho), .int (iz st0)]) := by rw [hg_65, gu_ne (by omega)]; exact hc_58
        have hc_71 : g_64 qo = .inr (3, [.int (iz w2), .int (iz sd2), .int (iz ho2), .int (iz st2)]) := by rw [hg_65, gu_ne (by omega)]; exact hc_59
        have hc_72 : g_64 (bo + 1 + 1) = aW κ 602 W_62 := by rw [hg_65]; exact gu_self _ _ _
        have hc_73 : g_64 (bo + 5) = .inr (3, [.int (iz w), .int (iz sd), .int (iz ho), .int (iz d)]) := by rw [hg_65, gu_ne (by omega)]; exact hc_61
        refine g_aload_n C dX0_startWithMost_76 rfl hl 0 rfl ?_
        refine g_get C G (pos := bo) fX0_startWithMost_12 (by omega) hc_66 rfl dX0_startWithMost_77 ?_
        refine g_aload_n C dX0_startWithMost_80 rfl hl 0 rfl ?_
        refine g_get C G (pos := bo) fX0_startWithMost_18 (by omega) hc_66 rfl dX0_startWithMost_81 ?_
        refine g_ci C G (g_runV (As := [.ref (ad (bo + 3))]) (rest := []) (pos := bo + 1) C G (c_X5_sizeOfBoth l κ B n ad g_64 (bo + 1) W_62 (bo + 3) W_13 (by omega) hc_67 hc_72 (by omega) hc_68 hc_69 hW_63.lt) (cwV 1 C.1.2.2.2.2 gX0_startWithMost_X5_sizeOfBoth rfl rfl rfl (by decide +kernel) ⟨Nat.le_of_ble_eq_true rfl, Nat.le_of_ble_eq_true rfl⟩) (by omega) hc_67 (T := TX5) (N := 1) rfl rfl hl rfl (Nat.le_of_ble_eq_true rfl) dX0_startWithMost_84 ⟨Nat.le_of_ble_eq_true rfl, Nat.le_of_ble_eq_true rfl⟩) (fun z_74 g9 H locs hw G => ?_)
        obtain ⟨hg9, h_75⟩ := hw
        replace hg9 := hg9.symm
        subst hg9
        have hz_76 : z_74 = cmF ring w sd ho w2 sd2 ho2 st2 d := by rw [h_75.1, (hW_63.both hW_14).cnt]; exact congrArg (fun x : Nat => (x : Int)) (cntS_congr (fun a r _ _ _ _ => ⟨fun q => ⟨q.1.elim False.elim id, q.2.elim False.elim id⟩, fun q => ⟨Or.inr q.1, Or.inr q.2⟩⟩))
        refine lv_istore (lv' := [(8, .int (iz z_74)), (0, .ref (ad bo)), (1, .int (iz ring)), (2, .ref (ad lo)), (3, .ref (ad qo)), (4, .int (iz z_35)), (5, .int (iz b)), (6, .int (iz mo)), (7, .int (iz d))]) C.1.1 C.1.2.1 dX0_startWithMost_87 hl (by decide) rfl (fun ls hl => ?_)
        refine g_iload C dX0_startWithMost_89 hl 0 rfl ?_
        refine g_iload C dX0_startWithMost_91 hl 7 rfl ?_
        refine g_icmp_le (tgt := 104) C (by omega) (by omega) dX0_startWithMost_93 (by decide) (fun c_77 => ?_) (fun c_77 => ?_)
        · refine lv_iinc (v := iz (d + 1)) (lv' := [(7, .int (iz (d + 1))), (8, .int (iz z_74)), (0, .ref (ad bo)), (1, .int (iz ring)), (2, .ref (ad lo)), (3, .ref (ad qo)), (4, .int (iz z_35)), (5, .int (iz b)), (6, .int (iz mo))]) C.1.1 C.1.2.1 dX0_startWithMost_104 hl (k := 8) rfl (g_inc (by omega)) (by decide) rfl (fun ls hl => ?_)
          refine g_goto (tgt := 41) C dX0_startWithMost_107 (by decide) ?_
          exact ih_lp_41_n_38 b mo (d + 1) W_62 d g_64 (by omega) (by omega) (by omega) hc_66 hc_67 hc_68 hc_69 hc_70 hc_71 hc_72 hc_73 (by rw [hg_65]; exact (by rw [hg_53]; exact (by rw [hg_41]; exact hfb.up (by omega) (by omega) : frB g g_40 bo).up (by omega) (by omega) : frB g g_52 bo).up (by omega) (by omega) : frB g g_64 bo) (by omega) (by omega) (by rw [bsf_step _ hd0, ← hbs, if_neg (by show ¬ mo < _; omega)]) _ _ G _ (lv_sub hl [2, 3, 4, 5, 6, 7, 8, 0] rfl)
        · refine g_iload C dX0_startWithMost_96 hl 0 rfl ?_
          refine lv_istore (lv' := [(6, .int (iz z_74)), (8, .int (iz z_74)), (0, .ref (ad bo)), (1, .int (iz ring)), (2, .ref (ad lo)), (3, .ref (ad qo)), (4, .int (iz z_35)), (5, .int (iz b)), (7, .int (iz d))]) C.1.1 C.1.2.1 dX0_startWithMost_98 hl (by decide) rfl (fun ls hl => ?_)
          refine g_iload C dX0_startWithMost_100 hl 8 rfl ?_
          refine lv_istore (lv' := [(5, .int (iz d)), (6, .int (iz z_74)), (8, .int (iz z_74)), (0, .ref (ad bo)), (1, .int (iz ring)), (2, .ref (ad lo)), (3, .ref (ad qo)), (4, .int (iz z_35)), (7, .int (iz d))]) C.1.1 C.1.2.1 dX0_startWithMost_102 hl (by decide) rfl (fun ls hl => ?_)
          refine lv_iinc (v := iz (d + 1)) (lv' := [(7, .int (iz (d + 1))), (5, .int (iz d)), (6, .int (iz z_74)), (8, .int (iz z_74)), (0, .ref (ad bo)), (1, .int (iz ring)), (2, .ref (ad lo)), (3, .ref (ad qo)), (4, .int (iz z_35))]) C.1.1 C.1.2.1 dX0_startWithMost_104 hl (k := 8) rfl (g_inc (by omega)) (by decide) rfl (fun ls hl => ?_)
          refine g_goto (tgt := 41) C dX0_startWithMost_107 (by decide) ?_
          exact ih_lp_41_n_38 d z_74 (d + 1) W_62 d g_64 (by omega) (by omega) (by omega) hc_66 hc_67 hc_68 hc_69 hc_70 hc_71 hc_72 hc_73 (by rw [hg_65]; exact (by rw [hg_53]; exact (by rw [hg_41]; exact hfb.up (by omega) (by omega) : frB g g_40 bo).up (by omega) (by omega) : frB g g_52 bo).up (by omega) (by omega) : frB g g_64 bo) (by omega) (by omega) (by rw [bsf_step _ hd0, ← hbs, if_pos (by show mo < _; omega), hz_76]) _ _ G _ (lv_sub hl [4, 5, 6, 7, 8, 1, 2, 0] rfl)
  exact lp_41_n_38 _ 0 (-9) 0 W1 st0 g_25 (Nat.lt_succ_self _) (by omega) (by omega) hc_27 hc_28 hc_29 hc_31 hc_33 hc_34 hc_30 hc_32 (by rw [hg_26]; exact (by rw [hg_16]; exact (by rw [hg_4]; exact frB.rf.up (by omega) (by omega) : frB g g_3 bo).up (by omega) (by omega) : frB g g_15 bo).up (by omega) (by omega) : frB g g_25 bo) (by omega) (by omega) rfl _ _ G _ (lv_sub hl [4, 5, 6, 7, 3, 2, 1, 0] rfl)
