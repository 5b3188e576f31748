/-! ROSETTEPLATEMODEL (X8): what a layer comes to -/
set_option maxHeartbeats 4000000 in
set_option maxRecDepth 100000 in
theorem c_X8_least (l : Launch) (κ : gKap) (B n : Nat) (ad : Nat → Nat) (g : Nat → va_E) (ly : Int) (th : Int) (mk : Int) (tx : Int) (rl : Int) (a0 : Int) (wr : Int) (s0 : Int) (s1 : Int) (rm : Int) (f : Int → Int) (li : Int) (hn8 : 200 ≤ n) (hM : g 192 = oM ad ly th mk tx rl a0 wr s0 s1 rm) (hN : g 193 = aI κ 42 f) (hok : okPl ly f) (hli : 0 ≤ li ∧ li < ly) : Met l yX8_least wsX8_least ({ frames := 2, cells := 0, slots := 0, locals := 50 }) (gPre κ B n ad g [.ref (ad 192), .int (iz li)]) (gQi κ B n ad (fun z g' => g' = g ∧ (z = lsr f li ∧ 120 ≤ z ∧ z ≤ 280))) 0 0 (gFree B) := by
  refine g_met RX8 (cc := cX8_least) (maxL := 5) (ret := (some .int)) (by decide) rfl rfl (Nat.le_of_ble_eq_true rfl) ?_
  intro p e s m args below meth c C hr hlk hnm G ls hl
  have hl : lv_has ls 5 [(0, .ref (ad 192)), (1, .int (iz li))] := hl
  obtain ⟨hn6, hv0, hv25, hlay, hsee⟩ := id hok
  have hla := hlay li hli.1 hli.2
  refine g_aload_n C dX8_least_0 rfl hl 0 rfl ?_
  refine g_iload_n C dX8_least_1 rfl hl 1 rfl ?_
  refine g_lconst (a := 0) C dX8_least_2 (by decide) ?_
  refine g_ci C G (g_runV (As := [.int (iz li), .long (jz 0)]) (rest := []) (pos := 192) C G (c_X8_radiusAt l κ B n ad g ly th mk tx rl a0 wr s0 s1 rm f li 0 hn8 hM hN hok hli (by omega)) (cwV 2 C.1.2.2.2.2 gX8_least_X8_radiusAt rfl rfl rfl (by decide +kernel) ⟨Nat.le_of_ble_eq_true rfl, Nat.le_of_ble_eq_true rfl⟩) (by omega) hM (T := TX8) (N := 17) rfl rfl hl rfl (Nat.le_of_ble_eq_true rfl) dX8_least_3 ⟨Nat.le_of_ble_eq_true rfl, Nat.le_of_ble_eq_true rfl⟩) (fun z_1 g9 H locs hw G => ?_)
  obtain ⟨hg9, h_2⟩ := hw
  replace hg9 := hg9.symm
  subst hg9
  refine lv_istore_n (lv' := [(2, .int (iz z_1)), (0, .ref (ad 192)), (1, .int (iz li))]) C.1.1 C.1.2.1 dX8_least_6 rfl hl (by decide) rfl (fun ls hl => ?_)
  refine g_iconst (a := 1) C dX8_least_7 rfl ?_
  refine lv_istore_n (lv' := [(3, .int (iz 1)), (2, .int (iz z_1)), (0, .ref (ad 192)), (1, .int (iz li))]) C.1.1 C.1.2.1 dX8_least_8 rfl hl (by decide) rfl (fun ls hl => ?_)
  have lp_9_n_4 : ∀ (k_3 : Nat) (le : Int) (u : Int), (f (4 * li + 1) - u).toNat < k_3 → (1 ≤ u ∧ u ≤ f (4 * li + 1)) → (120 ≤ le ∧ le ≤ 280) → (le = mnf (rad (f (4 * li + 1)) (f (4 * li + 2)) (f (4 * li + 3))) (u - 1).toNat) → ∀ (H : Heap) (locs : List Loc), gG κ B n ad s g H locs → ∀ (ls : Array Slot), lv_has ls 5 [(0, .ref (ad 192)), (1, .int (iz li)), (2, .int (iz le)), (3, .int (iz u))] → W p l e ({ frames := 2, cells := 0, slots := 0, locals := 50 }) s m args below meth c H locs 0 0 (MQ below (gQi κ B n ad (fun z g' => g' = g ∧ (z = lsr f li ∧ 120 ≤ z ∧ z ≤ 280))) args s 0 0 (gFree B)) (F0 m 9 ls []) := by
    intro k_3
    induction k_3 with
    | zero => intro le u hm; exact absurd hm (Nat.not_lt_zero _)
    | succ k_3 ih_lp_9_n_4 =>
      intro le u hm hu hlr hle H locs G ls hl
      refine g_iload_n C dX8_least_9 rfl hl 3 rfl ?_
      refine g_aload_n C dX8_least_10 rfl hl 0 rfl ?_
      refine g_iload_n C dX8_least_11 rfl hl 1 rfl ?_
      refine g_ci C G (g_runV (As := [.int (iz li)]) (rest := [.int (iz u)]) (pos := 192) C G (c_X8_wheel l κ B n ad g ly th mk tx rl a0 wr s0 s1 rm f li hn8 hM hN (by omega)) (cwV 1 C.1.2.2.2.2 gX8_least_X8_wheel rfl rfl rfl (by decide +kernel) ⟨Nat.le_of_ble_eq_true rfl, Nat.le_of_ble_eq_true rfl⟩) (by omega) hM (T := TX8) (N := 17) rfl rfl hl rfl (Nat.le_of_ble_eq_true rfl) dX8_least_12 ⟨Nat.le_of_ble_eq_true rfl, Nat.le_of_ble_eq_true rfl⟩) (fun z_5 g9 H locs hw G => ?_)
      obtain ⟨hg9, h_6⟩ := hw
      replace hg9 := hg9.symm
      subst hg9
      subst h_6
      refine g_icmp_ge (tgt := 46) C (by omega) (by omega) dX8_least_15 (by decide) (fun c_7 => ?_) (fun c_7 => ?_)
      · refine g_iload_n C dX8_least_46 rfl hl 2 rfl ?_
        refine g_iret C G hr hlk (Nat.le_of_ble_eq_true rfl) (Nat.le_of_ble_eq_true rfl) dX8_least_47 ?_
        exact ⟨rfl, by unfold lsr; rw [hle, show u = f (4 * li + 1) by omega], hlr⟩
      · refine g_aload_n C dX8_least_18 rfl hl 0 rfl ?_
        refine g_iload_n C dX8_least_19 rfl hl 1 rfl ?_
        refine g_iload_n C dX8_least_20 rfl hl 3 rfl ?_
        refine g_i2l C (by omega) dX8_least_21 ?_
        refine g_ci C G (g_runV (As := [.int (iz li), .long (jz u)]) (rest := []) (pos := 192) C G (c_X8_radiusAt l κ B n ad g ly th mk tx rl a0 wr s0 s1 rm f li u hn8 hM hN hok hli (by omega)) (cwV 2 C.1.2.2.2.2 gX8_least_X8_radiusAt rfl rfl rfl (by decide +kernel) ⟨Nat.le_of_ble_eq_true rfl, Nat.le_of_ble_eq_true rfl⟩) (by omega) hM (T := TX8) (N := 17) rfl rfl hl rfl (Nat.le_of_ble_eq_true rfl) dX8_least_22 ⟨Nat.le_of_ble_eq_true rfl, Nat.le_of_ble_eq_true rfl⟩) (fun z_8 g9 H locs hw G => ?_)
        obtain ⟨hg9, h_9⟩ := hw
        replace hg9 := hg9.symm
        subst hg9
        refine lv_istore (lv' := [(4, .int (iz z_8)), (0, .ref (ad 192)), (1, .int (iz li)), (2, .int (iz le)), (3, .int (iz u))]) C.1.1 C.1.2.1 dX8_least_25 hl (by decide) rfl (fun ls hl => ?_)
        refine g_iload C dX8_least_27 hl 0 rfl ?_
        refine g_iload_n C dX8_least_29 rfl hl 3 rfl ?_
        refine g_icmp_ge (tgt := 38) C (by omega) (by omega) dX8_least_30 (by decide) (fun c_10 => ?_) (fun c_10 => ?_)
        · refine g_iload_n C dX8_least_38 rfl hl 3 rfl ?_
          refine lv_istore_n (lv' := [(2, .int (iz le)), (4, .int (iz z_8)), (0, .ref (ad 192)), (1, .int (iz li)), (3, .int (iz u))]) C.1.1 C.1.2.1 dX8_least_39 rfl hl (by decide) rfl (fun ls hl => ?_)
          refine lv_iinc (v := iz (u + 1)) (lv' := [(3, .int (iz (u + 1))), (2, .int (iz le)), (4, .int (iz z_8)), (0, .ref (ad 192)), (1, .int (iz li))]) C.1.1 C.1.2.1 dX8_least_40 hl (k := 4) rfl (g_inc (by omega)) (by decide) rfl (fun ls hl => ?_)
          refine g_goto (tgt := 9) C dX8_least_43 (by decide) ?_
          exact ih_lp_9_n_4 le (u + 1) (by omega) (by omega) (by omega) (by have e1 : z_8 = (rad (f (4 * li + 1)) (f (4 * li + 2)) (f (4 * li + 3))) u := (by rw [h_9.1, Int.emod_eq_of_lt (by omega) (by omega)]); rw [mnf_step (rad (f (4 * li + 1)) (f (4 * li + 2)) (f (4 * li + 3))) hu.1, ← hle, ← e1]; omega) _ _ G _ (lv_sub hl [3, 4, 1, 0] rfl)
        · refine g_iload C dX8_least_33 hl 0 rfl ?_
          refine g_goto (tgt := 39) C dX8_least_35 (by decide) ?_
          refine lv_istore_n (lv' := [(2, .int (iz z_8)), (4, .int (iz z_8)), (0, .ref (ad 192)), (1, .int (iz li)), (3, .int (iz u))]) C.1.1 C.1.2.1 dX8_least_39 rfl hl (by decide) rfl (fun ls hl => ?_)
          refine lv_iinc (v := iz (u + 1)) (lv' := [(3, .int (iz (u + 1))), (2, .int (iz z_8)), (4, .int (iz z_8)), (0, .ref (ad 192)), (1, .int (iz li))]) C.1.1 C.1.2.1 dX8_least_40 hl (k := 4) rfl (g_inc (by omega)) (by decide) rfl (fun ls hl => ?_)
          refine g_goto (tgt := 9) C dX8_least_43 (by decide) ?_
          exact ih_lp_9_n_4 z_8 (u + 1) (by omega) (by omega) (by omega) (by have e1 : z_8 = (rad (f (4 * li + 1)) (f (4 * li + 2)) (f (4 * li + 3))) u := (by rw [h_9.1, Int.emod_eq_of_lt (by omega) (by omega)]); rw [mnf_step (rad (f (4 * li + 1)) (f (4 * li + 2)) (f (4 * li + 3))) hu.1, ← hle, ← e1]; omega) _ _ G _ (lv_sub hl [3, 4, 1, 0] rfl)
  exact lp_9_n_4 _ z_1 1 (Nat.lt_succ_self _) (by omega) (by omega) (by rw [h_2.1, Int.zero_emod]; rfl) _ _ G _ (lv_sub hl [2, 3, 1, 0] rfl)
set_option maxHeartbeats 4000000 in
set_option maxRecDepth 100000 in
theorem c_X8_greatest (l : Launch) (κ : gKap) (B n : Nat) (ad : Nat → Nat) (g : Nat → va_E) (ly : Int) (th : Int) (mk : Int) (tx : Int) (rl : Int) (a0 : Int) (wr : Int) (s0 : Int) (s1 : Int) (rm : Int) (f : Int → Int) (li : Int) (hn8 : 200 ≤ n) (hM : g 192 = oM ad ly th mk tx rl a0 wr s0 s1 rm) (hN : g 193 = aI κ 42 f) (hok : okPl ly f) (hli : 0 ≤ li ∧ li < ly) : Met l yX8_greatest wsX8_greatest ({ frames := 2, cells := 0, slots := 0, locals := 50 }) (gPre κ B n ad g [.ref (ad 192), .int (iz li)]) (gQi κ B n ad (fun z g' => g' = g ∧ (z = grr f li ∧ 120 ≤ z ∧ z ≤ 280))) 0 0 (gFree B) := by
  refine g_met RX8 (cc := cX8_greatest) (maxL := 5) (ret := (some .int)) (by decide) rfl rfl (Nat.le_of_ble_eq_true rfl) ?_
  intro p e s m args below meth c C hr hlk hnm G ls hl
  have hl : lv_has ls 5 [(0, .ref (ad 192)), (1, .int (iz li))] := hl
  obtain ⟨hn6, hv0, hv25, hlay, hsee⟩ := id hok
  have hla := hlay li hli.1 hli.2
  refine g_aload_n C dX8_greatest_0 rfl hl 0 rfl ?_
  refine g_iload_n C dX8_greatest_1 rfl hl 1 rfl ?_
  refine g_lconst (a := 0) C dX8_greatest_2 (by decide) ?_
  refine g_ci C G (g_runV (As := [.int (iz li), .long (jz 0)]) (rest := []) (pos := 192) C G (c_X8_radiusAt l κ B n ad g ly th mk tx rl a0 wr s0 s1 rm f li 0 hn8 hM hN hok hli (by omega)) (cwV 2 C.1.2.2.2.2 gX8_greatest_X8_radiusAt rfl rfl rfl (by decide +kernel) ⟨Nat.le_of_ble_eq_true rfl, Nat.le_of_ble_eq_true rfl⟩) (by omega) hM (T := TX8) (N := 17) rfl rfl hl rfl (Nat.le_of_ble_eq_true rfl) dX8_greatest_3 ⟨Nat.le_of_ble_eq_true rfl, Nat.le_of_ble_eq_true rfl⟩) (fun z_1 g9 H locs hw G => ?_)
  obtain ⟨hg9, h_2⟩ := hw
  replace hg9 := hg9.symm
  subst hg9
  refine lv_istore_n (lv' := [(2, .int (iz z_1)), (0, .ref (ad 192)), (1, .int (iz li))]) C.1.1 C.1.2.1 dX8_greatest_6 rfl hl (by decide) rfl (fun ls hl => ?_)
  refine g_iconst (a := 1) C dX8_greatest_7 rfl ?_
  refine lv_istore_n (lv' := [(3, .int (iz 1)), (2, .int (iz z_1)), (0, .ref (ad 192)), (1, .int (iz li))]) C.1.1 C.1.2.1 dX8_greatest_8 rfl hl (by decide) rfl (fun ls hl => ?_)
  have lp_9_n_4 : ∀ (k_3 : Nat) (le : Int) (u : Int), (f (4 * li + 1) - u).toNat < k_3 → (1 ≤ u ∧ u ≤ f (4 * li + 1)) → (120 ≤ le ∧ le ≤ 280) → (le = mxf (rad (f (4 * li + 1)) (f (4 * li + 2)) (f (4 * li + 3))) (u - 1).toNat) → ∀ (H : Heap) (locs : List Loc), gG κ B n ad s g H locs → ∀ (ls : Array Slot), lv_has ls 5 [(0, .ref (ad 192)), (1, .int (iz li)), (2, .int (iz le)), (3, .int (iz u))] → W p l e ({ frames := 2, cells := 0, slots := 0, locals := 50 }) s m args below meth c H locs 0 0 (MQ below (gQi κ B n ad (fun z g' => g' = g ∧ (z = grr f li ∧ 120 ≤ z ∧ z ≤ 280))) args s 0 0 (gFree B)) (F0 m 9 ls []) := by
    intro k_3
    induction k_3 with
    | zero => intro le u hm; exact absurd hm (Nat.not_lt_zero _)
    | succ k_3 ih_lp_9_n_4 =>
      intro le u hm hu hlr hle H locs G ls hl
      refine g_iload_n C dX8_greatest_9 rfl hl 3 rfl ?_
      refine g_aload_n C dX8_greatest_10 rfl hl 0 rfl ?_
      refine g_iload_n C dX8_greatest_11 rfl hl 1 rfl ?_
      refine g_ci C G (g_runV (As := [.int (iz li)]) (rest := [.int (iz u)]) (pos := 192) C G (c_X8_wheel l κ B n ad g ly th mk tx rl a0 wr s0 s1 rm f li hn8 hM hN (by omega)) (cwV 1 C.1.2.2.2.2 gX8_greatest_X8_wheel rfl rfl rfl (by decide +kernel) ⟨Nat.le_of_ble_eq_true rfl, Nat.le_of_ble_eq_true rfl⟩) (by omega) hM (T := TX8) (N := 17) rfl rfl hl rfl (Nat.le_of_ble_eq_true rfl) dX8_greatest_12 ⟨Nat.le_of_ble_eq_true rfl, Nat.le_of_ble_eq_true rfl⟩) (fun z_5 g9 H locs hw G => ?_)
      obtain ⟨hg9, h_6⟩ := hw
      replace hg9 := hg9.symm
      subst hg9
      subst h_6
      refine g_icmp_ge (tgt := 46) C (by omega) (by omega) dX8_greatest_15 (by decide) (fun c_7 => ?_) (fun c_7 => ?_)
      · refine g_iload_n C dX8_greatest_46 rfl hl 2 rfl ?_
        refine g_iret C G hr hlk (Nat.le_of_ble_eq_true rfl) (Nat.le_of_ble_eq_true rfl) dX8_greatest_47 ?_
        exact ⟨rfl, by unfold grr; rw [hle, show u = f (4 * li + 1) by omega], hlr⟩
      · refine g_aload_n C dX8_greatest_18 rfl hl 0 rfl ?_
        refine g_iload_n C dX8_greatest_19 rfl hl 1 rfl ?_
        refine g_iload_n C dX8_greatest_20 rfl hl 3 rfl ?_
        refine g_i2l C (by omega) dX8_greatest_21 ?_
        refine g_ci C G (g_runV (As := [.int (iz li), .long (jz u)]) (rest := []) (pos := 192) C G (c_X8_radiusAt l κ B n ad g ly th mk tx rl a0 wr s0 s1 rm f li u hn8 hM hN hok hli (by omega)) (cwV 2 C.1.2.2.2.2 gX8_greatest_X8_radiusAt rfl rfl rfl (by decide +kernel) ⟨Nat.le_of_ble_eq_true rfl, Nat.le_of_ble_eq_true rfl⟩) (by omega) hM (T := TX8) (N := 17) rfl rfl hl rfl (Nat.le_of_ble_eq_true rfl) dX8_greatest_22 ⟨Nat.le_of_ble_eq_true rfl, Nat.le_of_ble_eq_true rfl⟩) (fun z_8 g9 H locs hw G => ?_)
        obtain ⟨hg9, h_9⟩ := hw
        replace hg9 := hg9.symm
        subst hg9
        refine lv_istore (lv' := [(4, .int (iz z_8)), (0, .ref (ad 192)), (1, .int (iz li)), (2, .int (iz le)), (3, .int (iz u))]) C.1.1 C.1.2.1 dX8_greatest_25 hl (by decide) rfl (fun ls hl => ?_)
        refine g_iload C dX8_greatest_27 hl 0 rfl ?_
        refine g_iload_n C dX8_greatest_29 rfl hl 3 rfl ?_
        refine g_icmp_le (tgt := 38) C (by omega) (by omega) dX8_greatest_30 (by decide) (fun c_10 => ?_) (fun c_10 => ?_)
        · refine g_iload_n C dX8_greatest_38 rfl hl 3 rfl ?_
          refine lv_istore_n (lv' := [(2, .int (iz le)), (4, .int (iz z_8)), (0, .ref (ad 192)), (1, .int (iz li)), (3, .int (iz u))]) C.1.1 C.1.2.1 dX8_greatest_39 rfl hl (by decide) rfl (fun ls hl => ?_)
          refine lv_iinc (v := iz (u + 1)) (lv' := [(3, .int (iz (u + 1))), (2, .int (iz le)), (4, .int (iz z_8)), (0, .ref (ad 192)), (1, .int (iz li))]) C.1.1 C.1.2.1 dX8_greatest_40 hl (k := 4) rfl (g_inc (by omega)) (by decide) rfl (fun ls hl => ?_)
          refine g_goto (tgt := 9) C dX8_greatest_43 (by decide) ?_
          exact ih_lp_9_n_4 le (u + 1) (by omega) (by omega) (by omega) (by have e1 : z_8 = (rad (f (4 * li + 1)) (f (4 * li + 2)) (f (4 * li + 3))) u := (by rw [h_9.1, Int.emod_eq_of_lt (by omega) (by omega)]); rw [mxf_step (rad (f (4 * li + 1)) (f (4 * li + 2)) (f (4 * li + 3))) hu.1, ← hle, ← e1]; omega) _ _ G _ (lv_sub hl [3, 4, 1, 0] rfl)
        · refine g_iload C dX8_greatest_33 hl 0 rfl ?_
          refine g_goto (tgt := 39) C dX8_greatest_35 (by decide) ?_
          refine lv_istore_n (lv' := [(2, .int (iz z_8)), (4, .int (iz z_8)), (0, .ref (ad 192)), (1, .int (iz li)), (3, .int (iz u))]) C.1.1 C.1.2.1 dX8_greatest_39 rfl hl (by decide) rfl (fun ls hl => ?_)
          refine lv_iinc (v := iz (u + 1)) (lv' := [(3, .int (iz (u + 1))), (2, .int (iz z_8)), (4, .int (iz z_8)), (0, .ref (ad 192)), (1, .int (iz li))]) C.1.1 C.1.2.1 dX8_greatest_40 hl (k := 4) rfl (g_inc (by omega)) (by decide) rfl (fun ls hl => ?_)
          refine g_goto (tgt := 9) C dX8_greatest_43 (by decide) ?_
          exact ih_lp_9_n_4 z_8 (u + 1) (by omega) (by omega) (by omega) (by have e1 : z_8 = (rad (f (4 * li + 1)) (f (4 * li + 2)) (f (4 * li + 3))) u := (by rw [h_9.1, Int.emod_eq_of_lt (by omega) (by omega)]); rw [mxf_step (rad (f (4 * li + 1)) (f (4 * li + 2)) (f (4 * li + 3))) hu.1, ← hle, ← e1]; omega) _ _ G _ (lv_sub hl [3, 4, 1, 0] rfl)
  exact lp_9_n_4 _ z_1 1 (Nat.lt_succ_self _) (by omega) (by omega) (by rw [h_2.1, Int.zero_emod]; rfl) _ _ G _ (lv_sub hl [2, 3, 1, 0] rfl)
set_option maxHeartbeats 4000000 in
set_option maxRecDepth 100000 in
theorem c_X8_comesTo (l : Launch) (κ : gKap) (B n : Nat) (ad : Nat → Nat) (g : Nat → va_E) (ly : Int) (th : Int) (mk : Int) (tx : Int) (rl : Int) (a0 : Int) (wr : Int) (s0 : Int) (s1 : Int) (rm : Int) (f : Int → Int) (li : Int) (an : Int) (ra : Int) (hn8 : 200 ≤ n) (hM : g 192 = oM ad ly th mk tx rl a0 wr s0 s1 rm) (hN : g 193 = aI κ 42 f) (hok : okPl ly f) (hli : 0 ≤ li ∧ li < ly) (han : 0 ≤ an ∧ an < 96) (hra : 0 ≤ ra ∧ ra ≤ 300) : Met l yX8_comesTo wsX8_comesTo ({ frames := 3, cells := 0, slots := 0, locals := 72 }) (gPre κ B n ad g [.ref (ad 192), .int (iz li), .int (iz an), .int (iz ra)]) (gQi κ B n ad (fun z g' => g' = g ∧ (isFirst (fun t => (f (4 * li + 4) + t) % f 0 = an ∧ rad (f (4 * li + 1)) (f (4 * li + 2)) (f (4 * li + 3)) (t % f (4 * li + 1)) = ra) (pd (f 0) (f (4 * li + 1))) z))) 0 0 (gFree B) := by
  refine g_met RX8 (cc := cX8_comesTo) (maxL := 7) (ret := (some .int)) (by decide) rfl rfl (Nat.le_of_ble_eq_true rfl) ?_
  intro p e s m args below meth c C hr hlk hnm G ls hl
  have hl : lv_has ls 7 [(0, .ref (ad 192)), (1, .int (iz li)), (2, .int (iz an)), (3, .int (iz ra))] := hl
  obtain ⟨hn6, hv0, hv25, hlay, hsee⟩ := id hok
  have hla := hlay li hli.1 hli.2
  have hpd := pd_range (ring := f 0) (w := f (4 * li + 1)) hv0 (by omega) (by omega)
  refine g_aload_n C dX8_comesTo_0 rfl hl 0 rfl ?_
  refine g_iload_n C dX8_comesTo_1 rfl hl 1 rfl ?_
  refine g_ci C G (g_runV (As := [.int (iz li)]) (rest := []) (pos := 192) C G (c_X8_period l κ B n ad g ly th mk tx rl a0 wr s0 s1 rm f li hn8 hM hN hok (by omega)) (cwV 1 C.1.2.2.2.2 gX8_comesTo_X8_period rfl rfl rfl (by decide +kernel) ⟨Nat.le_of_ble_eq_true rfl, Nat.le_of_ble_eq_true rfl⟩) (by omega) hM (T := TX8) (N := 17) rfl rfl hl rfl (Nat.le_of_ble_eq_true rfl) dX8_comesTo_2 ⟨Nat.le_of_ble_eq_true rfl, Nat.le_of_ble_eq_true rfl⟩) (fun z_1 g9 H locs hw G => ?_)
  obtain ⟨hg9, h_2⟩ := hw
  replace hg9 := hg9.symm
  subst hg9
  refine lv_istore (lv' := [(4, .int (iz z_1)), (0, .ref (ad 192)), (1, .int (iz li)), (2, .int (iz an)), (3, .int (iz ra))]) C.1.1 C.1.2.1 dX8_comesTo_5 hl (by decide) rfl (fun ls hl => ?_)
  refine g_iload_n C dX8_comesTo_7 rfl hl 3 rfl ?_
  refine g_sipush (a := 301) C dX8_comesTo_8 (by decide) ?_
  refine g_imul C dX8_comesTo_11 ?_
  refine g_iload_n C dX8_comesTo_12 rfl hl 4 rfl ?_
  refine g_iadd C dX8_comesTo_13 ?_
  refine lv_istore (lv' := [(5, .int (iz ((an * 301) + ra))), (4, .int (iz z_1)), (0, .ref (ad 192)), (1, .int (iz li)), (2, .int (iz an)), (3, .int (iz ra))]) C.1.1 C.1.2.1 dX8_comesTo_14 hl (by decide) rfl (fun ls hl => ?_)
  refine g_iconst (a := 0) C dX8_comesTo_16 rfl ?_
  refine lv_istore (lv' := [(6, .int (iz 0)), (5, .int (iz ((an * 301) + ra))), (4, .int (iz z_1)), (0, .ref (ad 192)), (1, .int (iz li)), (2, .int (iz an)), (3, .int (iz ra))]) C.1.1 C.1.2.1 dX8_comesTo_17 hl (by decide) rfl (fun ls hl => ?_)
  have lp_19_n_4 : ∀ (k_3 : Nat) (t : Int), (pd (f 0) (f (4 * li + 1)) - t).toNat < k_3 → (0 ≤ t ∧ t ≤ pd (f 0) (f (4 * li + 1))) → (∀ j, 0 ≤ j → j < t → ¬ ((f (4 * li + 4) + j) % f 0 = an ∧ rad (f (4 * li + 1)) (f (4 * li + 2)) (f (4 * li + 3)) (j % f (4 * li + 1)) = ra)) → ∀ (H : Heap) (locs : List Loc), gG κ B n ad s g H locs → ∀ (ls : Array Slot), lv_has ls 7 [(0, .ref (ad 192)), (1, .int (iz li)), (2, .int (iz an)), (3, .int (iz ra)), (4, .int (iz z_1)), (5, .int (iz ((an * 301) + ra))), (6, .int (iz t))] → W p l e ({ frames := 3, cells := 0, slots := 0, locals := 72 }) s m args below meth c H locs 0 0 (MQ below (gQi κ B n ad (fun z g' => g' = g ∧ (isFirst (fun t => (f (4 * li + 4) + t) % f 0 = an ∧ rad (f (4 * li + 1)) (f (4 * li + 2)) (f (4 * li + 3)) (t % f (4 * li + 1)) = ra) (pd (f 0) (f (4 * li + 1))) z))) args s 0 0 (gFree B)) (F0 m 19 ls []) := by
    intro k_3
    induction k_3 with
    | zero => intro t hm; exact absurd hm (Nat.not_lt_zero _)
    | succ k_3 ih_lp_19_n_4 =>
      intro t hm ht hno H locs G ls hl
      refine g_iload C dX8_comesTo_19 hl 6 rfl ?_
      refine g_iload C dX8_comesTo_21 hl 4 rfl ?_
      refine g_icmp_ge (tgt := 47) C (by omega) (by omega) dX8_comesTo_23 (by decide) (fun c_5 => ?_) (fun c_5 => ?_)
      · refine g_bipush (a := (-9)) C dX8_comesTo_47 (by decide) ?_
        refine g_iret C G hr hlk (Nat.le_of_ble_eq_true rfl) (Nat.le_of_ble_eq_true rfl) dX8_comesTo_49 ?_
        exact ⟨rfl, Or.inr ⟨rfl, fun j j0 j1 => hno j j0 (by omega)⟩⟩
      · refine g_aload_n C dX8_comesTo_26 rfl hl 0 rfl ?_
        refine g_iload_n C dX8_comesTo_27 rfl hl 1 rfl ?_
        refine g_iload C dX8_comesTo_28 hl 6 rfl ?_
        refine g_ci C G (g_runV (As := [.int (iz li), .int (iz t)]) (rest := []) (pos := 192) C G (c_X8_spot l κ B n ad g ly th mk tx rl a0 wr s0 s1 rm f li t hn8 hM hN hok hli (by omega)) (cwV 2 C.1.2.2.2.2 gX8_comesTo_X8_spot rfl rfl rfl (by decide +kernel) ⟨Nat.le_of_ble_eq_true rfl, Nat.le_of_ble_eq_true rfl⟩) (by omega) hM (T := TX8) (N := 17) rfl rfl hl rfl (Nat.le_of_ble_eq_true rfl) dX8_comesTo_30 ⟨Nat.le_of_ble_eq_true rfl, Nat.le_of_ble_eq_true rfl⟩) (fun z_6 g9 H locs hw G => ?_)
        obtain ⟨hg9, h_7⟩ := hw
        replace hg9 := hg9.symm
        subst hg9
        obtain ⟨a9, r9, hez, hea, her, hra8, hrr8⟩ := h_7
        refine g_iload C dX8_comesTo_33 hl 5 rfl ?_
        refine g_icmp_ne (tgt := 41) C (by omega) (by omega) dX8_comesTo_35 (by decide) (fun c_8 => ?_) (fun c_8 => ?_)
        · refine lv_iinc (v := iz (t + 1)) (lv' := [(6, .int (iz (t + 1))), (0, .ref (ad 192)), (1, .int (iz li)), (2, .int (iz an)), (3, .int (iz ra)), (4, .int (iz z_1)), (5, .int (iz ((an * 301) + ra)))]) C.1.1 C.1.2.1 dX8_comesTo_41 hl (k := 6) rfl (g_inc (by omega)) (by decide) rfl (fun ls hl => ?_)
          refine g_goto (tgt := 19) C dX8_comesTo_44 (by decide) ?_
          exact ih_lp_19_n_4 (t + 1) (by omega) (by omega) (fun j j0 j1 => by
              by_cases hj : j = t
              · rw [hj, ← hea, ← her]; omega
              · exact hno j j0 (by omega)) _ _ G _ (lv_sub hl [1, 2, 3, 4, 5, 6, 0] rfl)
        · refine g_iload C dX8_comesTo_38 hl 6 rfl ?_
          refine g_iret C G hr hlk (Nat.le_of_ble_eq_true rfl) (Nat.le_of_ble_eq_true rfl) dX8_comesTo_40 ?_
          exact ⟨rfl, Or.inl ⟨ht.1, by omega, ⟨by rw [← hea]; omega, by rw [← her]; omega⟩, hno⟩⟩
  exact lp_19_n_4 _ 0 (Nat.lt_succ_self _) (by omega) (fun j j0 j1 => absurd j1 (by omega)) _ _ G _ (lv_sub hl [3, 4, 5, 6, 2, 1, 0] rfl)
theorem fX8_fits_7 : gFld wsX8_fits RX8 7 8 0 := ⟨RX8, TX8, 17, rfl, by decide, by decide +kernel, by decide +kernel⟩
set_option maxHeartbeats 4000000 in
set_option maxRecDepth 100000 in
theorem c_X8_fits (l : Launch) (κ : gKap) (B n : Nat) (ad : Nat → Nat) (g : Nat → va_E) (ly : Int) (th : Int) (mk : Int) (tx : Int) (rl : Int) (a0 : Int) (wr : Int) (s0 : Int) (s1 : Int) (rm : Int) (f : Int → Int) (li : Int) (hn8 : 200 ≤ n) (hM : g 192 = oM ad ly th mk tx rl a0 wr s0 s1 rm) (hN : g 193 = aI κ 42 f) (hok : okPl ly f) (hli : 0 ≤ li ∧ li < ly) : Met l yX8_fits wsX8_fits ({ frames := 4, cells := 0, slots := 0, locals := 98 }) (gPre κ B n ad g [.ref (ad 192), .int (iz li)]) (gQi κ B n ad (fun z g' => g' = g ∧ (((FITl f li) ∧ z = 1) ∨ (¬ (FITl f li) ∧ z = 0)))) 0 0 (gFree B) := by
  refine g_met RX8 (cc := cX8_fits) (maxL := 3) (ret := (some .boolean)) (by decide) rfl rfl (Nat.le_of_ble_eq_true rfl) ?_
  intro p e s m args below meth c C hr hlk hnm G ls hl
  have hl : lv_has ls 3 [(0, .ref (ad 192)), (1, .int (iz li))] := hl
  obtain ⟨hn6, hv0, hv25, hlay, hsee⟩ := id hok
  have hla := hlay li hli.1 hli.2
  have hpd := pd_range (ring := f 0) (w := f (4 * li + 1)) hv0 (by omega) (by omega)
  refine g_iconst (a := 0) C dX8_fits_0 rfl ?_
  refine lv_istore_n (lv' := [(2, .int (iz 0)), (0, .ref (ad 192)), (1, .int (iz li))]) C.1.1 C.1.2.1 dX8_fits_1 rfl hl (by decide) rfl (fun ls hl => ?_)
  have lp_2_n_2 : ∀ (k_1 : Nat) (i : Int), (f 25 - i).toNat < k_1 → (0 ≤ i ∧ i ≤ f 25) → (∀ j, 0 ≤ j → j < i → PT (f 0) (f (4 * li + 1)) (f (4 * li + 2)) (f (4 * li + 3)) (f (4 * li + 4)) (f (26 + 2 * j)) (f (27 + 2 * j))) → ∀ (H : Heap) (locs : List Loc), gG κ B n ad s g H locs → ∀ (ls : Array Slot), lv_has ls 3 [(0, .ref (ad 192)), (1, .int (iz li)), (2, .int (iz i))] → W p l e ({ frames := 4, cells := 0, slots := 0, locals := 98 }) s m args below meth c H locs 0 0 (MQ below (gQi κ B n ad (fun z g' => g' = g ∧ (((FITl f li) ∧ z = 1) ∨ (¬ (FITl f li) ∧ z = 0)))) args s 0 0 (gFree B)) (F0 m 2 ls []) := by
    intro k_1
    induction k_1 with
    | zero => intro i hm; exact absurd hm (Nat.not_lt_zero _)
    | succ k_1 ih_lp_2_n_2 =>
      intro i hm hi hf H locs G ls hl
      refine g_iload_n C dX8_fits_2 rfl hl 2 rfl ?_
      refine g_aload_n C dX8_fits_3 rfl hl 0 rfl ?_
      refine g_get C G (pos := 192) fX8_fits_7 (by omega) hM rfl dX8_fits_4 ?_
      refine g_bipush (a := 25) C dX8_fits_7 (by decide) ?_
      refine g_iaload C G (pos := 193) (by omega) hN (by omega) (by omega) (by omega) dX8_fits_9 ?_
      refine g_icmp_ge (tgt := 51) C (by omega) (by omega) dX8_fits_10 (by decide) (fun c_3 => ?_) (fun c_3 => ?_)
      · refine g_iconst (a := 1) C dX8_fits_51 rfl ?_
        refine g_zret C G hr hlk (by decide) (Nat.le_of_ble_eq_true rfl) (Nat.le_of_ble_eq_true rfl) dX8_fits_52 ?_
        exact ⟨rfl, Or.inl ⟨fun j j0 j1 => hf j j0 (by omega), rfl⟩⟩
      · refine g_aload_n C dX8_fits_13 rfl hl 0 rfl ?_
        refine g_iload_n C dX8_fits_14 rfl hl 1 rfl ?_
        refine g_aload_n C dX8_fits_15 rfl hl 0 rfl ?_
        refine g_get C G (pos := 192) fX8_fits_7 (by omega) hM rfl dX8_fits_16 ?_
        refine g_bipush (a := 26) C dX8_fits_19 (by decide) ?_
        refine g_iconst (a := 2) C dX8_fits_21 rfl ?_
        refine g_iload_n C dX8_fits_22 rfl hl 2 rfl ?_
        refine g_imul C dX8_fits_23 ?_
        refine g_iadd C dX8_fits_24 ?_
        refine g_iaload C G (pos := 193) (by omega) hN (by omega) (by omega) (by omega) dX8_fits_25 ?_
        refine g_aload_n C dX8_fits_26 rfl hl 0 rfl ?_
        refine g_get C G (pos := 192) fX8_fits_7 (by omega) hM rfl dX8_fits_27 ?_
        refine g_bipush (a := 27) C dX8_fits_30 (by decide) ?_
        refine g_iconst (a := 2) C dX8_fits_32 rfl ?_
        refine g_iload_n C dX8_fits_33 rfl hl 2 rfl ?_
        refine g_imul C dX8_fits_34 ?_
        refine g_iadd C dX8_fits_35 ?_
        refine g_iaload C G (pos := 193) (by omega) hN (by omega) (by omega) (by omega) dX8_fits_36 ?_
        have hsi := hsee i hi.1 (by omega)
        refine g_ci C G (g_runV (As := [.int (iz li), .int (iz (f (26 + (2 * i)))), .int (iz (f (27 + (2 * i))))]) (rest := []) (pos := 192) C G (c_X8_comesTo l κ B n ad g ly th mk tx rl a0 wr s0 s1 rm f li (f (26 + (2 * i))) (f (27 + (2 * i))) hn8 hM hN hok hli (by omega) (by omega)) (cwV 3 C.1.2.2.2.2 gX8_fits_X8_comesTo rfl rfl rfl (by decide +kernel) ⟨Nat.le_of_ble_eq_true rfl, Nat.le_of_ble_eq_true rfl⟩) (by omega) hM (T := TX8) (N := 17) rfl rfl hl rfl (Nat.le_of_ble_eq_true rfl) dX8_fits_37 ⟨Nat.le_of_ble_eq_true rfl, Nat.le_of_ble_eq_true rfl⟩) (fun z_4 g9 H locs hw G => ?_)
        obtain ⟨hg9, h_5⟩ := hw
        replace hg9 := hg9.symm
        subst hg9
        have hrg9 := h_5.rg
        have hpt9 := h_5.pt
        refine g_if_ge (tgt := 45) C (by omega) dX8_fits_40 (by decide) (fun c_6 => ?_) (fun c_6 => ?_)
        · refine lv_iinc (v := iz (i + 1)) (lv' := [(2, .int (iz (i + 1))), (0, .ref (ad 192)), (1, .int (iz li))]) C.1.1 C.1.2.1 dX8_fits_45 hl (k := 2) rfl (g_inc (by omega)) (by decide) rfl (fun ls hl => ?_)
          refine g_goto (tgt := 2) C dX8_fits_48 (by decide) ?_
          exact ih_lp_2_n_2 (i + 1) (by omega) (by omega) (fun j j0 j1 => by
              by_cases hj : j = i
              · rw [hj]; exact Classical.byContradiction (fun q => absurd (h_5.pt.1.mpr q) (by omega))
              · exact hf j j0 (by omega)) _ _ G _ (lv_sub hl [1, 2, 0] rfl)
        · refine g_iconst (a := 0) C dX8_fits_43 rfl ?_
          refine g_zret C G hr hlk (by decide) (Nat.le_of_ble_eq_true rfl) (Nat.le_of_ble_eq_true rfl) dX8_fits_44 ?_
          exact ⟨rfl, Or.inr ⟨fun q => absurd (q i hi.1 (by omega)) (h_5.pt.1.mp (by omega)), rfl⟩⟩
  exact lp_2_n_2 _ 0 (Nat.lt_succ_self _) (by omega) (fun j j0 j1 => absurd j1 (by omega)) _ _ G _ (lv_sub hl [1, 2, 0] rfl)
theorem fX8_fitting_35 : gFld wsX8_fitting RX8 35 8 1 := ⟨RX8, TX8, 17, rfl, by decide, by decide +kernel, by decide +kernel⟩
set_option maxHeartbeats 4000000 in
set_option maxRecDepth 100000 in
theorem c_X8_fitting (l : Launch) (κ : gKap) (B n : Nat) (ad : Nat → Nat) (g : Nat → va_E) (ly : Int) (th : Int) (mk : Int) (tx : Int) (rl : Int) (a0 : Int) (wr : Int) (s0 : Int) (s1 : Int) (rm : Int) (f : Int → Int) (hn8 : 200 ≤ n) (hM : g 192 = oM ad ly th mk tx rl a0 wr s0 s1 rm) (hN : g 193 = aI κ 42 f) (hok : okPl ly f) : Met l yX8_fitting wsX8_fitting ({ frames := 5, cells := 0, slots := 0, locals := 120 }) (gPre κ B n ad g [.ref (ad 192)]) (gQi κ B n ad (fun z g' => g' = g ∧ (z = fitN ly f ∧ 0 ≤ z ∧ z ≤ 6))) 0 0 (gFree B) := by
  refine g_met RX8 (cc := cX8_fitting) (maxL := 3) (ret := (some .int)) (by decide) rfl rfl (Nat.le_of_ble_eq_true rfl) ?_
  intro p e s m args below meth c C hr hlk hnm G ls hl
  have hl : lv_has ls 3 [(0, .ref (ad 192))] := hl
  obtain ⟨hn6, hv0, hv25, hlay, hsee⟩ := id hok
  refine g_iconst (a := 0) C dX8_fitting_0 rfl ?_
  refine lv_istore_n (lv' := [(1, .int (iz 0)), (0, .ref (ad 192))]) C.1.1 C.1.2.1 dX8_fitting_1 rfl hl (by decide) rfl (fun ls hl => ?_)
  refine g_iconst (a := 0) C dX8_fitting_2 rfl ?_
  refine lv_istore_n (lv' := [(2, .int (iz 0)), (1, .int (iz 0)), (0, .ref (ad 192))]) C.1.1 C.1.2.1 dX8_fitting_3 rfl hl (by decide) rfl (fun ls hl => ?_)
  have lp_4_n_2 : ∀ (k_1 : Nat) (nu : Int) (k : Int), (ly - k).toNat < k_1 → (0 ≤ k ∧ k ≤ ly) → (0 ≤ nu ∧ nu ≤ k) → (nu = (fb_ct (fun l => dB (FITl f (l : Int))) k.toNat : Int)) → ∀ (H : Heap) (locs : List Loc), gG κ B n ad s g H locs → ∀ (ls : Array Slot), lv_has ls 3 [(0, .ref (ad 192)), (1, .int (iz nu)), (2, .int (iz k))] → W p l e ({ frames := 5, cells := 0, slots := 0, locals := 120 }) s m args below meth c H locs 0 0 (MQ below (gQi κ B n ad (fun z g' => g' = g ∧ (z = fitN ly f ∧ 0 ≤ z ∧ z ≤ 6))) args s 0 0 (gFree B)) (F0 m 4 ls []) := by
    intro k_1
    induction k_1 with
    | zero => intro nu k hm; exact absurd hm (Nat.not_lt_zero _)
    | succ k_1 ih_lp_4_n_2 =>
      intro nu k hm hk hnb hnu H locs G ls hl
      refine g_iload_n C dX8_fitting_4 rfl hl 2 rfl ?_
      refine g_aload_n C dX8_fitting_5 rfl hl 0 rfl ?_
      refine g_get C G (pos := 192) fX8_fitting_35 (by omega) hM rfl dX8_fitting_6 ?_
      refine g_icmp_ge (tgt := 34) C (by omega) (by omega) dX8_fitting_9 (by decide) (fun c_3 => ?_) (fun c_3 => ?_)
      · refine g_iload_n C dX8_fitting_34 rfl hl 1 rfl ?_
        refine g_iret C G hr hlk (Nat.le_of_ble_eq_true rfl) (Nat.le_of_ble_eq_true rfl) dX8_fitting_35 ?_
        have hk9 : k = ly := by omega
        rw [hk9] at hnu
        exact ⟨rfl, hnu, by omega, by omega⟩
      · refine g_iload_n C dX8_fitting_12 rfl hl 1 rfl ?_
        refine g_aload_n C dX8_fitting_13 rfl hl 0 rfl ?_
        refine g_iload_n C dX8_fitting_14 rfl hl 2 rfl ?_
        refine g_ci C G (g_runV (As := [.int (iz k)]) (rest := [.int (iz nu)]) (pos := 192) C G (c_X8_fits l κ B n ad g ly th mk tx rl a0 wr s0 s1 rm f k hn8 hM hN hok (by omega)) (cwV 1 C.1.2.2.2.2 gX8_fitting_X8_fits rfl rfl rfl (by decide +kernel) ⟨Nat.le_of_ble_eq_true rfl, Nat.le_of_ble_eq_true rfl⟩) (by omega) hM (T := TX8) (N := 17) rfl rfl hl rfl (Nat.le_of_ble_eq_true rfl) dX8_fitting_15 ⟨Nat.le_of_ble_eq_true rfl, Nat.le_of_ble_eq_true rfl⟩) (fun z_5 g9 H locs hw G => ?_)
        obtain ⟨hg9, hw⟩ := hw
        replace hg9 := hg9.symm
        subst hg9
        rcases hw with ⟨b_4, rfl⟩ | ⟨b_4, rfl⟩
        · refine g_if_eq (tgt := 25) C (by decide) dX8_fitting_18 (by decide) (fun c9 => absurd c9 (by decide)) (fun _ => ?_)
          refine g_iconst (a := 1) C dX8_fitting_21 rfl ?_
          refine g_goto (tgt := 26) C dX8_fitting_22 (by decide) ?_
          refine g_iadd C dX8_fitting_26 ?_
          refine lv_istore_n (lv' := [(1, .int (iz (nu + 1))), (0, .ref (ad 192)), (2, .int (iz k))]) C.1.1 C.1.2.1 dX8_fitting_27 rfl hl (by decide) rfl (fun ls hl => ?_)
          refine lv_iinc (v := iz (k + 1)) (lv' := [(2, .int (iz (k + 1))), (1, .int (iz (nu + 1))), (0, .ref (ad 192))]) C.1.1 C.1.2.1 dX8_fitting_28 hl (k := 2) rfl (g_inc (by omega)) (by decide) rfl (fun ls hl => ?_)
          refine g_goto (tgt := 4) C dX8_fitting_31 (by decide) ?_
          exact ih_lp_4_n_2 (nu + 1) (k + 1) (by omega) (by omega) (by omega) (ct_in (P := FITl f) hk.1 hnu b_4) _ _ G _ (lv_sub hl [2, 1, 0] rfl)
        · refine g_if_eq (tgt := 25) C (by decide) dX8_fitting_18 (by decide) (fun _ => ?_) (fun c9 => absurd c9 (by decide))
          refine g_iconst (a := 0) C dX8_fitting_25 rfl ?_
          refine g_iadd C dX8_fitting_26 ?_
          rw [show (nu + 0 : Int) = nu from (by omega)]
          refine lv_istore_n (lv' := [(1, .int (iz nu)), (0, .ref (ad 192)), (2, .int (iz k))]) C.1.1 C.1.2.1 dX8_fitting_27 rfl hl (by decide) rfl (fun ls hl => ?_)
          refine lv_iinc (v := iz (k + 1)) (lv' := [(2, .int (iz (k + 1))), (1, .int (iz nu)), (0, .ref (ad 192))]) C.1.1 C.1.2.1 dX8_fitting_28 hl (k := 2) rfl (g_inc (by omega)) (by decide) rfl (fun ls hl => ?_)
          refine g_goto (tgt := 4) C dX8_fitting_31 (by decide) ?_
          exact ih_lp_4_n_2 nu (k + 1) (by omega) (by omega) (by omega) (ct_out (P := FITl f) hk.1 hnu b_4) _ _ G _ (lv_sub hl [2, 1, 0] rfl)
  exact lp_4_n_2 _ 0 0 (Nat.lt_succ_self _) (by omega) (by omega) rfl _ _ G _ (lv_sub hl [2, 1, 0] rfl)
