/-! ROSETTEPLATEMODEL (X8): the numbers of a layer -/
set_option maxHeartbeats 4000000 in
set_option maxRecDepth 100000 in
theorem c_X8_in (l : Launch) (κ : gKap) (B n : Nat) (ad : Nat → Nat) (g : Nat → va_E) (a : Int) (b : Int) (c9 : Int) (ha : inJ a) (hb : inJ b) (hc : inJ c9) : Met l yX8_in wsX8_in ({ frames := 0, cells := 0, slots := 0, locals := 0 }) (gPre κ B n ad g [.long (jz a), .long (jz b), .long (jz c9)]) (gQi κ B n ad (fun z g' => g' = g ∧ (((b ≤ a ∧ a ≤ c9) ∧ z = 1) ∨ (¬ (b ≤ a ∧ a ≤ c9) ∧ z = 0)))) 0 0 (gFree B) := by
  refine g_met RX8 (cc := cX8_in) (maxL := 6) (ret := (some .boolean)) (by decide) rfl rfl (Nat.le_of_ble_eq_true rfl) ?_
  intro p e s m args below meth c C hr hlk hnm G ls hl
  have hl : lv_has ls 6 [(0, .long (jz a)), (2, .long (jz b)), (4, .long (jz c9))] := hl
  refine g_lload_n C dX8_in_0 rfl hl 0 rfl ?_
  refine g_lload_n C dX8_in_1 rfl hl 1 rfl ?_
  refine g_lcmp C (by omega) (by omega) dX8_in_2 (fun z_1 h_2 => ?_)
  refine g_if_lt (tgt := 17) C (by omega) dX8_in_3 (by decide) (fun c_3 => ?_) (fun c_3 => ?_)
  · refine g_iconst (a := 0) C dX8_in_17 rfl ?_
    refine g_zret C G hr hlk (by decide) (Nat.le_of_ble_eq_true rfl) (Nat.le_of_ble_eq_true rfl) dX8_in_18 ?_
    exact ⟨rfl, by omega⟩
  · refine g_lload_n C dX8_in_6 rfl hl 0 rfl ?_
    refine g_lload C dX8_in_7 hl 2 rfl ?_
    refine g_lcmp C (by omega) (by omega) dX8_in_9 (fun z_4 h_5 => ?_)
    refine g_if_gt (tgt := 17) C (by omega) dX8_in_10 (by decide) (fun c_6 => ?_) (fun c_6 => ?_)
    · refine g_iconst (a := 0) C dX8_in_17 rfl ?_
      refine g_zret C G hr hlk (by decide) (Nat.le_of_ble_eq_true rfl) (Nat.le_of_ble_eq_true rfl) dX8_in_18 ?_
      exact ⟨rfl, by omega⟩
    · refine g_iconst (a := 1) C dX8_in_13 rfl ?_
      refine g_goto (tgt := 18) C dX8_in_14 (by decide) ?_
      refine g_zret C G hr hlk (by decide) (Nat.le_of_ble_eq_true rfl) (Nat.le_of_ble_eq_true rfl) dX8_in_18 ?_
      exact ⟨rfl, by omega⟩
set_option maxHeartbeats 4000000 in
set_option maxRecDepth 100000 in
theorem c_X8_divisor (l : Launch) (κ : gKap) (B n : Nat) (ad : Nat → Nat) (g : Nat → va_E) (a : Int) (b : Int) (ha : 0 < a ∧ a ≤ 2147483647) (hb : 0 ≤ b ∧ b ≤ 2147483647) : Met l yX8_divisor wsX8_divisor ({ frames := 0, cells := 0, slots := 0, locals := 0 }) (gPre κ B n ad g [.int (iz a), .int (iz b)]) (gQi κ B n ad (fun z g' => g' = g ∧ (z = gd a b ∧ 1 ≤ z ∧ z ≤ a))) 0 0 (gFree B) := by
  refine g_met RX8 (cc := cX8_divisor) (maxL := 5) (ret := (some .int)) (by decide) rfl rfl (Nat.le_of_ble_eq_true rfl) ?_
  intro p e s m args below meth c C hr hlk hnm G ls hl
  have hl : lv_has ls 5 [(0, .int (iz a)), (1, .int (iz b))] := hl
  refine g_iload_n C dX8_divisor_0 rfl hl 0 rfl ?_
  refine lv_istore_n (lv' := [(2, .int (iz a)), (0, .int (iz a)), (1, .int (iz b))]) C.1.1 C.1.2.1 dX8_divisor_1 rfl hl (by decide) rfl (fun ls hl => ?_)
  refine g_iload_n C dX8_divisor_2 rfl hl 2 rfl ?_
  refine lv_istore_n (lv' := [(3, .int (iz b)), (2, .int (iz a)), (0, .int (iz a)), (1, .int (iz b))]) C.1.1 C.1.2.1 dX8_divisor_3 rfl hl (by decide) rfl (fun ls hl => ?_)
  have lp_4_n_2 : ∀ (k_1 : Nat) (x : Int) (y : Int), y.toNat < k_1 → (0 < x ∧ x ≤ 2147483647) → (0 ≤ y ∧ y ≤ 2147483647) → (Int.gcd x y = Int.gcd a b) → ∀ (H : Heap) (locs : List Loc), gG κ B n ad s g H locs → ∀ (ls : Array Slot), lv_has ls 5 [(0, .int (iz a)), (1, .int (iz b)), (2, .int (iz x)), (3, .int (iz y))] → W p l e ({ frames := 0, cells := 0, slots := 0, locals := 0 }) s m args below meth c H locs 0 0 (MQ below (gQi κ B n ad (fun z g' => g' = g ∧ (z = gd a b ∧ 1 ≤ z ∧ z ≤ a))) args s 0 0 (gFree B)) (F0 m 4 ls []) := by
    intro k_1
    induction k_1 with
    | zero => intro x y hm; exact absurd hm (Nat.not_lt_zero _)
    | succ k_1 ih_lp_4_n_2 =>
      intro x y hm hx hy hg H locs G ls hl
      refine g_iload_n C dX8_divisor_4 rfl hl 3 rfl ?_
      refine g_if_eq (tgt := 21) C (by omega) dX8_divisor_5 (by decide) (fun c_3 => ?_) (fun c_3 => ?_)
      · refine g_iload_n C dX8_divisor_21 rfl hl 2 rfl ?_
        refine g_iret C G hr hlk (Nat.le_of_ble_eq_true rfl) (Nat.le_of_ble_eq_true rfl) dX8_divisor_22 ?_
        have hy9 : y = 0 := by omega
        subst hy9
        have hz9 : x = gd a b := by unfold gd; rw [← hg, Int.gcd_zero_right]; omega
        have hgp := gd_pos (b := b) ha.1
        have hgl := gd_le (b := b) ha.1
        exact ⟨rfl, hz9, by omega, by omega⟩
      · refine g_iload_n C dX8_divisor_8 rfl hl 2 rfl ?_
        refine g_iload_n C dX8_divisor_9 rfl hl 3 rfl ?_
        refine g_irem C (by omega) (by omega) (by omega) dX8_divisor_10 ?_
        rw [show (Int.tmod x y : Int) = x % y from (tmod_pos (by omega))]
        have hxy0 := Int.emod_nonneg x (show y ≠ 0 by omega)
        have hxy1 := Int.emod_lt_of_pos x (show 0 < y by omega)
        refine lv_istore (lv' := [(4, .int (iz (x % y))), (0, .int (iz a)), (1, .int (iz b)), (2, .int (iz x)), (3, .int (iz y))]) C.1.1 C.1.2.1 dX8_divisor_11 hl (by decide) rfl (fun ls hl => ?_)
        refine g_iload_n C dX8_divisor_13 rfl hl 4 rfl ?_
        refine lv_istore_n (lv' := [(2, .int (iz y)), (4, .int (iz (x % y))), (0, .int (iz a)), (1, .int (iz b)), (3, .int (iz y))]) C.1.1 C.1.2.1 dX8_divisor_14 rfl hl (by decide) rfl (fun ls hl => ?_)
        refine g_iload C dX8_divisor_15 hl 1 rfl ?_
        refine lv_istore_n (lv' := [(3, .int (iz (x % y))), (2, .int (iz y)), (4, .int (iz (x % y))), (0, .int (iz a)), (1, .int (iz b))]) C.1.1 C.1.2.1 dX8_divisor_17 rfl hl (by decide) rfl (fun ls hl => ?_)
        refine g_goto (tgt := 4) C dX8_divisor_18 (by decide) ?_
        exact ih_lp_4_n_2 y (x % y) (by omega) (by omega) (by omega) (by rw [eu_gcd (by omega) (by omega), hg]) _ _ G _ (lv_sub hl [3, 4, 1, 0] rfl)
  exact lp_4_n_2 _ a b (Nat.lt_succ_self _) (by omega) (by omega) rfl _ _ G _ (lv_sub hl [2, 3, 1, 0] rfl)
theorem fX8_thrown_31 : gFld wsX8_thrown RX8 31 8 2 := ⟨RX8, TX8, 17, rfl, by decide, by decide +kernel, by decide +kernel⟩
set_option maxHeartbeats 4000000 in
set_option maxRecDepth 100000 in
theorem c_X8_thrown (l : Launch) (κ : gKap) (B n : Nat) (ad : Nat → Nat) (g : Nat → va_E) (ly : Int) (th : Int) (mk : Int) (tx : Int) (rl : Int) (a0 : Int) (wr : Int) (s0 : Int) (s1 : Int) (rm : Int) (hn8 : 200 ≤ n) (hM : g 192 = oM ad ly th mk tx rl a0 wr s0 s1 rm) : Met l yX8_thrown wsX8_thrown ({ frames := 0, cells := 0, slots := 0, locals := 0 }) (gPre κ B n ad g [.ref (ad 192)]) (gQi κ B n ad (fun z g' => g' = g ∧ (z = th))) 0 0 (gFree B) := by
  refine g_met RX8 (cc := cX8_thrown) (maxL := 1) (ret := (some .int)) (by decide) rfl rfl (Nat.le_of_ble_eq_true rfl) ?_
  intro p e s m args below meth c C hr hlk hnm G ls hl
  have hl : lv_has ls 1 [(0, .ref (ad 192))] := hl
  refine g_aload_n C dX8_thrown_0 rfl hl 0 rfl ?_
  refine g_get C G (pos := 192) fX8_thrown_31 (by omega) hM rfl dX8_thrown_1 ?_
  refine g_iret C G hr hlk (Nat.le_of_ble_eq_true rfl) (Nat.le_of_ble_eq_true rfl) dX8_thrown_4 ?_
  exact ⟨rfl, rfl⟩
theorem fX8_isLayer_35 : gFld wsX8_isLayer RX8 35 8 1 := ⟨RX8, TX8, 17, rfl, by decide, by decide +kernel, by decide +kernel⟩
set_option maxHeartbeats 4000000 in
set_option maxRecDepth 100000 in
theorem c_X8_isLayer (l : Launch) (κ : gKap) (B n : Nat) (ad : Nat → Nat) (g : Nat → va_E) (ly : Int) (th : Int) (mk : Int) (tx : Int) (rl : Int) (a0 : Int) (wr : Int) (s0 : Int) (s1 : Int) (rm : Int) (li : Int) (hn8 : 200 ≤ n) (hM : g 192 = oM ad ly th mk tx rl a0 wr s0 s1 rm) (hli : inI li) (hn6 : 0 ≤ ly ∧ ly ≤ 6) : Met l yX8_isLayer wsX8_isLayer ({ frames := 1, cells := 0, slots := 0, locals := 25 }) (gPre κ B n ad g [.ref (ad 192), .int (iz li)]) (gQi κ B n ad (fun z g' => g' = g ∧ (((0 ≤ li ∧ li < ly) ∧ z = 1) ∨ (¬ (0 ≤ li ∧ li < ly) ∧ z = 0)))) 0 0 (gFree B) := by
  refine g_met RX8 (cc := cX8_isLayer) (maxL := 2) (ret := (some .boolean)) (by decide) rfl rfl (Nat.le_of_ble_eq_true rfl) ?_
  intro p e s m args below meth c C hr hlk hnm G ls hl
  have hl : lv_has ls 2 [(0, .ref (ad 192)), (1, .int (iz li))] := hl
  refine g_iload_n C dX8_isLayer_0 rfl hl 1 rfl ?_
  refine g_i2l C (by omega) dX8_isLayer_1 ?_
  refine g_lconst (a := 0) C dX8_isLayer_2 (by decide) ?_
  refine g_aload_n C dX8_isLayer_3 rfl hl 0 rfl ?_
  refine g_get C G (pos := 192) fX8_isLayer_35 (by omega) hM rfl dX8_isLayer_4 ?_
  refine g_iconst (a := 1) C dX8_isLayer_7 rfl ?_
  refine g_isub C dX8_isLayer_8 ?_
  refine g_i2l C (by omega) dX8_isLayer_9 ?_
  refine g_ci C G (g_runS (As := [.long (jz li), .long (jz 0), .long (jz (ly - 1))]) (rest := []) C G (c_X8_in l κ B n ad g li 0 (ly - 1) (by omega) (by omega) (by omega)) (va_cwS 3 C.1.2.2.2.2 gX8_isLayer_X8_in rfl rfl rfl (by decide +kernel) ⟨Nat.le_of_ble_eq_true rfl, Nat.le_of_ble_eq_true rfl⟩) rfl hl rfl (Nat.le_of_ble_eq_true rfl) dX8_isLayer_10 ⟨Nat.le_of_ble_eq_true rfl, Nat.le_of_ble_eq_true rfl⟩) (fun z_2 g9 H locs hw G => ?_)
  obtain ⟨hg9, hw⟩ := hw
  replace hg9 := hg9.symm
  subst hg9
  rcases hw with ⟨b_1, rfl⟩ | ⟨b_1, rfl⟩
  · refine g_zret C G hr hlk (by decide) (Nat.le_of_ble_eq_true rfl) (Nat.le_of_ble_eq_true rfl) dX8_isLayer_13 ?_
    exact ⟨rfl, by omega⟩
  · refine g_zret C G hr hlk (by decide) (Nat.le_of_ble_eq_true rfl) (Nat.le_of_ble_eq_true rfl) dX8_isLayer_13 ?_
    exact ⟨rfl, by omega⟩
theorem fX8_wheel_7 : gFld wsX8_wheel RX8 7 8 0 := ⟨RX8, TX8, 17, rfl, by decide, by decide +kernel, by decide +kernel⟩
set_option maxHeartbeats 4000000 in
set_option maxRecDepth 100000 in
theorem c_X8_wheel (l : Launch) (κ : gKap) (B n : Nat) (ad : Nat → Nat) (g : Nat → va_E) (ly : Int) (th : Int) (mk : Int) (tx : Int) (rl : Int) (a0 : Int) (wr : Int) (s0 : Int) (s1 : Int) (rm : Int) (f : Int → Int) (li : Int) (hn8 : 200 ≤ n) (hM : g 192 = oM ad ly th mk tx rl a0 wr s0 s1 rm) (hN : g 193 = aI κ 42 f) (hli : 0 ≤ li ∧ li < 6) : Met l yX8_wheel wsX8_wheel ({ frames := 0, cells := 0, slots := 0, locals := 0 }) (gPre κ B n ad g [.ref (ad 192), .int (iz li)]) (gQi κ B n ad (fun z g' => g' = g ∧ (z = f (4 * li + 1)))) 0 0 (gFree B) := by
  refine g_met RX8 (cc := cX8_wheel) (maxL := 2) (ret := (some .int)) (by decide) rfl rfl (Nat.le_of_ble_eq_true rfl) ?_
  intro p e s m args below meth c C hr hlk hnm G ls hl
  have hl : lv_has ls 2 [(0, .ref (ad 192)), (1, .int (iz li))] := hl
  refine g_aload_n C dX8_wheel_0 rfl hl 0 rfl ?_
  refine g_get C G (pos := 192) fX8_wheel_7 (by omega) hM rfl dX8_wheel_1 ?_
  refine g_iconst (a := 4) C dX8_wheel_4 rfl ?_
  refine g_iload_n C dX8_wheel_5 rfl hl 1 rfl ?_
  refine g_imul C dX8_wheel_6 ?_
  refine g_iconst (a := 1) C dX8_wheel_7 rfl ?_
  refine g_iadd C dX8_wheel_8 ?_
  refine g_iaload C G (pos := 193) (by omega) hN (by omega) (by omega) (by omega) dX8_wheel_9 ?_
  refine g_iret C G hr hlk (Nat.le_of_ble_eq_true rfl) (Nat.le_of_ble_eq_true rfl) dX8_wheel_10 ?_
  exact ⟨rfl, rfl⟩
theorem fX8_start_7 : gFld wsX8_start RX8 7 8 0 := ⟨RX8, TX8, 17, rfl, by decide, by decide +kernel, by decide +kernel⟩
set_option maxHeartbeats 4000000 in
set_option maxRecDepth 100000 in
theorem c_X8_start (l : Launch) (κ : gKap) (B n : Nat) (ad : Nat → Nat) (g : Nat → va_E) (ly : Int) (th : Int) (mk : Int) (tx : Int) (rl : Int) (a0 : Int) (wr : Int) (s0 : Int) (s1 : Int) (rm : Int) (f : Int → Int) (li : Int) (hn8 : 200 ≤ n) (hM : g 192 = oM ad ly th mk tx rl a0 wr s0 s1 rm) (hN : g 193 = aI κ 42 f) (hli : 0 ≤ li ∧ li < 6) : Met l yX8_start wsX8_start ({ frames := 0, cells := 0, slots := 0, locals := 0 }) (gPre κ B n ad g [.ref (ad 192), .int (iz li)]) (gQi κ B n ad (fun z g' => g' = g ∧ (z = f (4 * li + 4)))) 0 0 (gFree B) := by
  refine g_met RX8 (cc := cX8_start) (maxL := 2) (ret := (some .int)) (by decide) rfl rfl (Nat.le_of_ble_eq_true rfl) ?_
  intro p e s m args below meth c C hr hlk hnm G ls hl
  have hl : lv_has ls 2 [(0, .ref (ad 192)), (1, .int (iz li))] := hl
  refine g_aload_n C dX8_start_0 rfl hl 0 rfl ?_
  refine g_get C G (pos := 192) fX8_start_7 (by omega) hM rfl dX8_start_1 ?_
  refine g_iconst (a := 4) C dX8_start_4 rfl ?_
  refine g_iload_n C dX8_start_5 rfl hl 1 rfl ?_
  refine g_imul C dX8_start_6 ?_
  refine g_iconst (a := 4) C dX8_start_7 rfl ?_
  refine g_iadd C dX8_start_8 ?_
  refine g_iaload C G (pos := 193) (by omega) hN (by omega) (by omega) (by omega) dX8_start_9 ?_
  refine g_iret C G hr hlk (Nat.le_of_ble_eq_true rfl) (Nat.le_of_ble_eq_true rfl) dX8_start_10 ?_
  exact ⟨rfl, rfl⟩
set_option maxHeartbeats 4000000 in
set_option maxRecDepth 100000 in
theorem c_X8_radius (l : Launch) (κ : gKap) (B n : Nat) (ad : Nat → Nat) (g : Nat → va_E) (w : Int) (sd : Int) (ho : Int) (u : Int) (hok : okL w sd ho) (hu : 0 ≤ u ∧ u < w) : Met l yX8_radius wsX8_radius ({ frames := 0, cells := 0, slots := 0, locals := 0 }) (gPre κ B n ad g [.int (iz w), .int (iz sd), .int (iz ho), .int (iz u)]) (gQi κ B n ad (fun z g' => g' = g ∧ (z = rad w sd ho u ∧ 120 ≤ z ∧ z ≤ 280))) 0 0 (gFree B) := by
  refine g_met RX8 (cc := cX8_radius) (maxL := 7) (ret := (some .int)) (by decide) rfl rfl (Nat.le_of_ble_eq_true rfl) ?_
  intro p e s m args below meth c C hr hlk hnm G ls hl
  have hl : lv_has ls 7 [(0, .int (iz w)), (1, .int (iz sd)), (2, .int (iz ho)), (3, .int (iz u))] := hl
  refine g_iconst (a := 2) C dX8_radius_0 rfl ?_
  refine g_iload_n C dX8_radius_1 rfl hl 3 rfl ?_
  refine g_imul C dX8_radius_2 ?_
  refine g_iload_n C dX8_radius_3 rfl hl 0 rfl ?_
  refine g_isub C dX8_radius_4 ?_
  refine lv_istore (lv' := [(4, .int (iz ((2 * u) - w))), (0, .int (iz w)), (1, .int (iz sd)), (2, .int (iz ho)), (3, .int (iz u))]) C.1.1 C.1.2.1 dX8_radius_5 hl (by decide) rfl (fun ls hl => ?_)
  refine g_iload C dX8_radius_7 hl 0 rfl ?_
  refine g_if_ge (tgt := 18) C (by omega) dX8_radius_9 (by decide) (fun c_1 => ?_) (fun c_1 => ?_)
  · refine g_iload C dX8_radius_18 hl 0 rfl ?_
    refine lv_istore (lv' := [(5, .int (iz ((2 * u) - w))), (4, .int (iz ((2 * u) - w))), (0, .int (iz w)), (1, .int (iz sd)), (2, .int (iz ho)), (3, .int (iz u))]) C.1.1 C.1.2.1 dX8_radius_20 hl (by decide) rfl (fun ls hl => ?_)
    refine g_iload_n C dX8_radius_22 rfl hl 3 rfl ?_
    refine g_if_ne (tgt := 34) C (by omega) dX8_radius_23 (by decide) (fun c_2 => ?_) (fun c_2 => ?_)
    · refine g_sipush (a := 200) C dX8_radius_34 (by decide) ?_
      refine g_iload_n C dX8_radius_37 rfl hl 2 rfl ?_
      refine g_iadd C dX8_radius_38 ?_
      refine lv_istore (lv' := [(6, .int (iz (200 + w))), (5, .int (iz ((2 * u) - w))), (4, .int (iz ((2 * u) - w))), (0, .int (iz w)), (1, .int (iz sd)), (2, .int (iz ho)), (3, .int (iz u))]) C.1.1 C.1.2.1 dX8_radius_39 hl (by decide) rfl (fun ls hl => ?_)
      refine g_iload C dX8_radius_41 hl 0 rfl ?_
      refine g_iload_n C dX8_radius_43 rfl hl 5 rfl ?_
      refine g_iconst (a := 2) C dX8_radius_44 rfl ?_
      refine g_iload C dX8_radius_45 hl 1 rfl ?_
      refine g_imul C dX8_radius_47 ?_
      refine g_iload_n C dX8_radius_48 rfl hl 3 rfl ?_
      refine g_isub C dX8_radius_49 ?_
      have hmb := mul_b (h := ho) (t := (2 * ((2 * u) - w)) - w) (by omega) (by omega) (by omega) (by omega)
      refine g_imul C dX8_radius_50 ?_
      refine g_iload_n C dX8_radius_51 rfl hl 3 rfl ?_
      refine g_idiv C (by omega) (by omega) (by omega) dX8_radius_52 ?_
      refine g_iadd C dX8_radius_53 ?_
      refine g_iret C G hr hlk (Nat.le_of_ble_eq_true rfl) (Nat.le_of_ble_eq_true rfl) dX8_radius_54 ?_
      have hr9 : (200 + w) + (Int.tdiv (ho * ((2 * ((2 * u) - w)) - w)) w) = rad w sd ho u := by
        unfold rad
        by_cases h1 : 0 ≤ 2 * u - w
        · rw [if_pos h1]
          by_cases h0 : sd = 0
          · first | (rw [if_pos h0]; done) | (exfalso; omega)
          · first | (rw [if_neg h0]; done) | (exfalso; omega)
        · rw [if_neg h1]
          by_cases h0 : sd = 0
          · first | (rw [if_pos h0]; done) | (exfalso; omega)
          · first | (rw [if_neg h0]; done) | (exfalso; omega)
      have hr8 := rad_range hok hu.1 hu.2
      rw [← hr9] at hr8
      exact ⟨rfl, hr9, hr8.1, hr8.2⟩
    · refine g_sipush (a := 200) C dX8_radius_26 (by decide) ?_
      refine g_iload_n C dX8_radius_29 rfl hl 2 rfl ?_
      refine g_isub C dX8_radius_30 ?_
      refine g_goto (tgt := 39) C dX8_radius_31 (by decide) ?_
      refine lv_istore (lv' := [(6, .int (iz (200 - w))), (5, .int (iz ((2 * u) - w))), (4, .int (iz ((2 * u) - w))), (0, .int (iz w)), (1, .int (iz sd)), (2, .int (iz ho)), (3, .int (iz u))]) C.1.1 C.1.2.1 dX8_radius_39 hl (by decide) rfl (fun ls hl => ?_)
      refine g_iload C dX8_radius_41 hl 0 rfl ?_
      refine g_iload_n C dX8_radius_43 rfl hl 5 rfl ?_
      refine g_iconst (a := 2) C dX8_radius_44 rfl ?_
      refine g_iload C dX8_radius_45 hl 1 rfl ?_
      refine g_imul C dX8_radius_47 ?_
      refine g_iload_n C dX8_radius_48 rfl hl 3 rfl ?_
      refine g_isub C dX8_radius_49 ?_
      have hmb := mul_b (h := ho) (t := (2 * ((2 * u) - w)) - w) (by omega) (by omega) (by omega) (by omega)
      refine g_imul C dX8_radius_50 ?_
      refine g_iload_n C dX8_radius_51 rfl hl 3 rfl ?_
      refine g_idiv C (by omega) (by omega) (by omega) dX8_radius_52 ?_
      refine g_iadd C dX8_radius_53 ?_
      refine g_iret C G hr hlk (Nat.le_of_ble_eq_true rfl) (Nat.le_of_ble_eq_true rfl) dX8_radius_54 ?_
      have hr9 : (200 - w) + (Int.tdiv (ho * ((2 * ((2 * u) - w)) - w)) w) = rad w sd ho u := by
        unfold rad
        by_cases h1 : 0 ≤ 2 * u - w
        · rw [if_pos h1]
          by_cases h0 : sd = 0
          · first | (rw [if_pos h0]; done) | (exfalso; omega)
          · first | (rw [if_neg h0]; done) | (exfalso; omega)
        · rw [if_neg h1]
          by_cases h0 : sd = 0
          · first | (rw [if_pos h0]; done) | (exfalso; omega)
          · first | (rw [if_neg h0]; done) | (exfalso; omega)
      have hr8 := rad_range hok hu.1 hu.2
      rw [← hr9] at hr8
      exact ⟨rfl, hr9, hr8.1, hr8.2⟩
  · refine g_iload C dX8_radius_12 hl 0 rfl ?_
    refine g_ineg C dX8_radius_14 ?_
    refine g_goto (tgt := 20) C dX8_radius_15 (by decide) ?_
    refine lv_istore (lv' := [(5, .int (iz (-((2 * u) - w)))), (4, .int (iz ((2 * u) - w))), (0, .int (iz w)), (1, .int (iz sd)), (2, .int (iz ho)), (3, .int (iz u))]) C.1.1 C.1.2.1 dX8_radius_20 hl (by decide) rfl (fun ls hl => ?_)
    refine g_iload_n C dX8_radius_22 rfl hl 3 rfl ?_
    refine g_if_ne (tgt := 34) C (by omega) dX8_radius_23 (by decide) (fun c_3 => ?_) (fun c_3 => ?_)
    · refine g_sipush (a := 200) C dX8_radius_34 (by decide) ?_
      refine g_iload_n C dX8_radius_37 rfl hl 2 rfl ?_
      refine g_iadd C dX8_radius_38 ?_
      refine lv_istore (lv' := [(6, .int (iz (200 + w))), (5, .int (iz (-((2 * u) - w)))), (4, .int (iz ((2 * u) - w))), (0, .int (iz w)), (1, .int (iz sd)), (2, .int (iz ho)), (3, .int (iz u))]) C.1.1 C.1.2.1 dX8_radius_39 hl (by decide) rfl (fun ls hl => ?_)
      refine g_iload C dX8_radius_41 hl 0 rfl ?_
      refine g_iload_n C dX8_radius_43 rfl hl 5 rfl ?_
      refine g_iconst (a := 2) C dX8_radius_44 rfl ?_
      refine g_iload C dX8_radius_45 hl 1 rfl ?_
      refine g_imul C dX8_radius_47 ?_
      refine g_iload_n C dX8_radius_48 rfl hl 3 rfl ?_
      refine g_isub C dX8_radius_49 ?_
      have hmb := mul_b (h := ho) (t := (2 * (-((2 * u) - w))) - w) (by omega) (by omega) (by omega) (by omega)
      refine g_imul C dX8_radius_50 ?_
      refine g_iload_n C dX8_radius_51 rfl hl 3 rfl ?_
      refine g_idiv C (by omega) (by omega) (by omega) dX8_radius_52 ?_
      refine g_iadd C dX8_radius_53 ?_
      refine g_iret C G hr hlk (Nat.le_of_ble_eq_true rfl) (Nat.le_of_ble_eq_true rfl) dX8_radius_54 ?_
      have hr9 : (200 + w) + (Int.tdiv (ho * ((2 * (-((2 * u) - w))) - w)) w) = rad w sd ho u := by
        unfold rad
        by_cases h1 : 0 ≤ 2 * u - w
        · rw [if_pos h1]
          by_cases h0 : sd = 0
          · first | (rw [if_pos h0]; done) | (exfalso; omega)
          · first | (rw [if_neg h0]; done) | (exfalso; omega)
        · rw [if_neg h1]
          by_cases h0 : sd = 0
          · first | (rw [if_pos h0]; done) | (exfalso; omega)
          · first | (rw [if_neg h0]; done) | (exfalso; omega)
      have hr8 := rad_range hok hu.1 hu.2
      rw [← hr9] at hr8
      exact ⟨rfl, hr9, hr8.1, hr8.2⟩
    · refine g_sipush (a := 200) C dX8_radius_26 (by decide) ?_
      refine g_iload_n C dX8_radius_29 rfl hl 2 rfl ?_
      refine g_isub C dX8_radius_30 ?_
      refine g_goto (tgt := 39) C dX8_radius_31 (by decide) ?_
      refine lv_istore (lv' := [(6, .int (iz (200 - w))), (5, .int (iz (-((2 * u) - w)))), (4, .int (iz ((2 * u) - w))), (0, .int (iz w)), (1, .int (iz sd)), (2, .int (iz ho)), (3, .int (iz u))]) C.1.1 C.1.2.1 dX8_radius_39 hl (by decide) rfl (fun ls hl => ?_)
      refine g_iload C dX8_radius_41 hl 0 rfl ?_
      refine g_iload_n C dX8_radius_43 rfl hl 5 rfl ?_
      refine g_iconst (a := 2) C dX8_radius_44 rfl ?_
      refine g_iload C dX8_radius_45 hl 1 rfl ?_
      refine g_imul C dX8_radius_47 ?_
      refine g_iload_n C dX8_radius_48 rfl hl 3 rfl ?_
      refine g_isub C dX8_radius_49 ?_
      have hmb := mul_b (h := ho) (t := (2 * (-((2 * u) - w))) - w) (by omega) (by omega) (by omega) (by omega)
      refine g_imul C dX8_radius_50 ?_
      refine g_iload_n C dX8_radius_51 rfl hl 3 rfl ?_
      refine g_idiv C (by omega) (by omega) (by omega) dX8_radius_52 ?_
      refine g_iadd C dX8_radius_53 ?_
      refine g_iret C G hr hlk (Nat.le_of_ble_eq_true rfl) (Nat.le_of_ble_eq_true rfl) dX8_radius_54 ?_
      have hr9 : (200 - w) + (Int.tdiv (ho * ((2 * (-((2 * u) - w))) - w)) w) = rad w sd ho u := by
        unfold rad
        by_cases h1 : 0 ≤ 2 * u - w
        · rw [if_pos h1]
          by_cases h0 : sd = 0
          · first | (rw [if_pos h0]; done) | (exfalso; omega)
          · first | (rw [if_neg h0]; done) | (exfalso; omega)
        · rw [if_neg h1]
          by_cases h0 : sd = 0
          · first | (rw [if_pos h0]; done) | (exfalso; omega)
          · first | (rw [if_neg h0]; done) | (exfalso; omega)
      have hr8 := rad_range hok hu.1 hu.2
      rw [← hr9] at hr8
      exact ⟨rfl, hr9, hr8.1, hr8.2⟩
theorem fX8_radiusAt_7 : gFld wsX8_radiusAt RX8 7 8 0 := ⟨RX8, TX8, 17, rfl, by decide, by decide +kernel, by decide +kernel⟩
set_option maxHeartbeats 4000000 in
set_option maxRecDepth 100000 in
theorem c_X8_radiusAt (l : Launch) (κ : gKap) (B n : Nat) (ad : Nat → Nat) (g : Nat → va_E) (ly : Int) (th : Int) (mk : Int) (tx : Int) (rl : Int) (a0 : Int) (wr : Int) (s0 : Int) (s1 : Int) (rm : Int) (f : Int → Int) (li : Int) (t : Int) (hn8 : 200 ≤ n) (hM : g 192 = oM ad ly th mk tx rl a0 wr s0 s1 rm) (hN : g 193 = aI κ 42 f) (hok : okPl ly f) (hli : 0 ≤ li ∧ li < ly) (ht : 0 ≤ t ∧ t ≤ 9223372036854775807) : Met l yX8_radiusAt wsX8_radiusAt ({ frames := 1, cells := 0, slots := 0, locals := 26 }) (gPre κ B n ad g [.ref (ad 192), .int (iz li), .long (jz t)]) (gQi κ B n ad (fun z g' => g' = g ∧ (z = rad (f (4 * li + 1)) (f (4 * li + 2)) (f (4 * li + 3)) (t % f (4 * li + 1)) ∧ 120 ≤ z ∧ z ≤ 280))) 0 0 (gFree B) := by
  refine g_met RX8 (cc := cX8_radiusAt) (maxL := 5) (ret := (some .int)) (by decide) rfl rfl (Nat.le_of_ble_eq_true rfl) ?_
  intro p e s m args below meth c C hr hlk hnm G ls hl
  have hl : lv_has ls 5 [(0, .ref (ad 192)), (1, .int (iz li)), (2, .long (jz t))] := hl
  obtain ⟨hn6, hv0, hv25, hlay, hsee⟩ := id hok
  have hla := hlay li hli.1 hli.2
  refine g_aload_n C dX8_radiusAt_0 rfl hl 0 rfl ?_
  refine g_iload_n C dX8_radiusAt_1 rfl hl 1 rfl ?_
  refine g_ci C G (g_runV (As := [.int (iz li)]) (rest := []) (pos := 192) C G (c_X8_wheel l κ B n ad g ly th mk tx rl a0 wr s0 s1 rm f li hn8 hM hN (by omega)) (cwV 1 C.1.2.2.2.2 gX8_radiusAt_X8_wheel rfl rfl rfl (by decide +kernel) ⟨Nat.le_of_ble_eq_true rfl, Nat.le_of_ble_eq_true rfl⟩) (by omega) hM (T := TX8) (N := 17) rfl rfl hl rfl (Nat.le_of_ble_eq_true rfl) dX8_radiusAt_2 ⟨Nat.le_of_ble_eq_true rfl, Nat.le_of_ble_eq_true rfl⟩) (fun z_1 g9 H locs hw G => ?_)
  obtain ⟨hg9, h_2⟩ := hw
  replace hg9 := hg9.symm
  subst hg9
  subst h_2
  refine lv_istore (lv' := [(4, .int (iz (f (4 * li + 1)))), (0, .ref (ad 192)), (1, .int (iz li)), (2, .long (jz t))]) C.1.1 C.1.2.1 dX8_radiusAt_5 hl (by decide) rfl (fun ls hl => ?_)
  refine g_iload C dX8_radiusAt_7 hl 0 rfl ?_
  refine g_aload_n C dX8_radiusAt_9 rfl hl 1 rfl ?_
  refine g_get C G (pos := 192) fX8_radiusAt_7 (by omega) hM rfl dX8_radiusAt_10 ?_
  refine g_iconst (a := 4) C dX8_radiusAt_13 rfl ?_
  refine g_iload_n C dX8_radiusAt_14 rfl hl 2 rfl ?_
  refine g_imul C dX8_radiusAt_15 ?_
  refine g_iconst (a := 2) C dX8_radiusAt_16 rfl ?_
  refine g_iadd C dX8_radiusAt_17 ?_
  refine g_iaload C G (pos := 193) (by omega) hN (by omega) (by omega) (by omega) dX8_radiusAt_18 ?_
  refine g_aload_n C dX8_radiusAt_19 rfl hl 1 rfl ?_
  refine g_get C G (pos := 192) fX8_radiusAt_7 (by omega) hM rfl dX8_radiusAt_20 ?_
  refine g_iconst (a := 4) C dX8_radiusAt_23 rfl ?_
  refine g_iload_n C dX8_radiusAt_24 rfl hl 2 rfl ?_
  refine g_imul C dX8_radiusAt_25 ?_
  refine g_iconst (a := 3) C dX8_radiusAt_26 rfl ?_
  refine g_iadd C dX8_radiusAt_27 ?_
  refine g_iaload C G (pos := 193) (by omega) hN (by omega) (by omega) (by omega) dX8_radiusAt_28 ?_
  refine g_lload_n C dX8_radiusAt_29 rfl hl 3 rfl ?_
  refine g_iload C dX8_radiusAt_30 hl 0 rfl ?_
  refine g_i2l C (by omega) dX8_radiusAt_32 ?_
  refine g_lrem C (by omega) (by omega) (by omega) dX8_radiusAt_33 ?_
  rw [show Int.tmod t (f (4 * li + 1)) = t % f (4 * li + 1) from tmod_pos (by omega)]
  have hm0 := Int.emod_nonneg t (show f (4 * li + 1) ≠ 0 by omega)
  have hm1 := Int.emod_lt_of_pos t (show 0 < f (4 * li + 1) by omega)
  refine g_l2i C dX8_radiusAt_34 ?_
  refine g_ci C G (g_runS (As := [.int (iz (f (4 * li + 1))), .int (iz (f ((4 * li) + 2))), .int (iz (f ((4 * li) + 3))), .int (iz (t % f (4 * li + 1)))]) (rest := []) C G (c_X8_radius l κ B n ad g (f (4 * li + 1)) (f ((4 * li) + 2)) (f ((4 * li) + 3)) (t % f (4 * li + 1)) hla.1 ⟨hm0, hm1⟩) (va_cwS 4 C.1.2.2.2.2 gX8_radiusAt_X8_radius rfl rfl rfl (by decide +kernel) ⟨Nat.le_of_ble_eq_true rfl, Nat.le_of_ble_eq_true rfl⟩) rfl hl rfl (Nat.le_of_ble_eq_true rfl) dX8_radiusAt_35 ⟨Nat.le_of_ble_eq_true rfl, Nat.le_of_ble_eq_true rfl⟩) (fun z_3 g9 H locs hw G => ?_)
  obtain ⟨hg9, h_4⟩ := hw
  replace hg9 := hg9.symm
  subst hg9
  refine g_iret C G hr hlk (Nat.le_of_ble_eq_true rfl) (Nat.le_of_ble_eq_true rfl) dX8_radiusAt_38 ?_
  exact ⟨rfl, h_4⟩
theorem fX8_period_7 : gFld wsX8_period RX8 7 8 0 := ⟨RX8, TX8, 17, rfl, by decide, by decide +kernel, by decide +kernel⟩
set_option maxHeartbeats 4000000 in
set_option maxRecDepth 100000 in
theorem c_X8_period (l : Launch) (κ : gKap) (B n : Nat) (ad : Nat → Nat) (g : Nat → va_E) (ly : Int) (th : Int) (mk : Int) (tx : Int) (rl : Int) (a0 : Int) (wr : Int) (s0 : Int) (s1 : Int) (rm : Int) (f : Int → Int) (li : Int) (hn8 : 200 ≤ n) (hM : g 192 = oM ad ly th mk tx rl a0 wr s0 s1 rm) (hN : g 193 = aI κ 42 f) (hok : okPl ly f) (hli : 0 ≤ li ∧ li < ly) : Met l yX8_period wsX8_period ({ frames := 1, cells := 0, slots := 0, locals := 24 }) (gPre κ B n ad g [.ref (ad 192), .int (iz li)]) (gQi κ B n ad (fun z g' => g' = g ∧ (z = pd (f 0) (f (4 * li + 1)) ∧ 1 ≤ z ∧ z ≤ 5760))) 0 0 (gFree B) := by
  refine g_met RX8 (cc := cX8_period) (maxL := 2) (ret := (some .int)) (by decide) rfl rfl (Nat.le_of_ble_eq_true rfl) ?_
  intro p e s m args below meth c C hr hlk hnm G ls hl
  have hl : lv_has ls 2 [(0, .ref (ad 192)), (1, .int (iz li))] := hl
  obtain ⟨hn6, hv0, hv25, hlay, hsee⟩ := id hok
  have hla := hlay li hli.1 hli.2
  refine g_aload_n C dX8_period_0 rfl hl 0 rfl ?_
  refine g_get C G (pos := 192) fX8_period_7 (by omega) hM rfl dX8_period_1 ?_
  refine g_iconst (a := 0) C dX8_period_4 rfl ?_
  refine g_iaload C G (pos := 193) (by omega) hN (by omega) (by omega) (by omega) dX8_period_5 ?_
  refine g_aload_n C dX8_period_6 rfl hl 0 rfl ?_
  refine g_get C G (pos := 192) fX8_period_7 (by omega) hM rfl dX8_period_7 ?_
  refine g_iconst (a := 0) C dX8_period_10 rfl ?_
  refine g_iaload C G (pos := 193) (by omega) hN (by omega) (by omega) (by omega) dX8_period_11 ?_
  refine g_aload_n C dX8_period_12 rfl hl 0 rfl ?_
  refine g_iload_n C dX8_period_13 rfl hl 1 rfl ?_
  refine g_ci C G (g_runV (As := [.int (iz li)]) (rest := [.int (iz (f 0)), .int (iz (f 0))]) (pos := 192) C G (c_X8_wheel l κ B n ad g ly th mk tx rl a0 wr s0 s1 rm f li hn8 hM hN (by omega)) (cwV 1 C.1.2.2.2.2 gX8_period_X8_wheel rfl rfl rfl (by decide +kernel) ⟨Nat.le_of_ble_eq_true rfl, Nat.le_of_ble_eq_true rfl⟩) (by omega) hM (T := TX8) (N := 17) rfl rfl hl rfl (Nat.le_of_ble_eq_true rfl) dX8_period_14 ⟨Nat.le_of_ble_eq_true rfl, Nat.le_of_ble_eq_true rfl⟩) (fun z_1 g9 H locs hw G => ?_)
  obtain ⟨hg9, h_2⟩ := hw
  replace hg9 := hg9.symm
  subst hg9
  subst h_2
  refine g_ci C G (g_runS (As := [.int (iz (f 0)), .int (iz (f (4 * li + 1)))]) (rest := [.int (iz (f 0))]) C G (c_X8_divisor l κ B n ad g (f 0) (f (4 * li + 1)) (by omega) (by omega)) (va_cwS 2 C.1.2.2.2.2 gX8_period_X8_divisor rfl rfl rfl (by decide +kernel) ⟨Nat.le_of_ble_eq_true rfl, Nat.le_of_ble_eq_true rfl⟩) rfl hl rfl (Nat.le_of_ble_eq_true rfl) dX8_period_17 ⟨Nat.le_of_ble_eq_true rfl, Nat.le_of_ble_eq_true rfl⟩) (fun z_3 g9 H locs hw G => ?_)
  obtain ⟨hg9, h_4⟩ := hw
  replace hg9 := hg9.symm
  subst hg9
  refine g_idiv C (by omega) (by omega) (by omega) dX8_period_20 ?_
  have hlb := lb_range (ring := f 0) (w := f (4 * li + 1)) (by omega)
  rw [show (Int.tdiv (f 0) z_3 : Int) = lb (f 0) (f (4 * li + 1)) from (by rw [h_4.1, tdiv_pos (by omega)]; rfl)]
  refine g_aload_n C dX8_period_21 rfl hl 0 rfl ?_
  refine g_iload_n C dX8_period_22 rfl hl 1 rfl ?_
  refine g_ci C G (g_runV (As := [.int (iz li)]) (rest := [.int (iz (lb (f 0) (f (4 * li + 1))))]) (pos := 192) C G (c_X8_wheel l κ B n ad g ly th mk tx rl a0 wr s0 s1 rm f li hn8 hM hN (by omega)) (cwV 1 C.1.2.2.2.2 gX8_period_X8_wheel rfl rfl rfl (by decide +kernel) ⟨Nat.le_of_ble_eq_true rfl, Nat.le_of_ble_eq_true rfl⟩) (by omega) hM (T := TX8) (N := 17) rfl rfl hl rfl (Nat.le_of_ble_eq_true rfl) dX8_period_23 ⟨Nat.le_of_ble_eq_true rfl, Nat.le_of_ble_eq_true rfl⟩) (fun z_5 g9 H locs hw G => ?_)
  obtain ⟨hg9, h_6⟩ := hw
  replace hg9 := hg9.symm
  subst hg9
  subst h_6
  refine g_imul C dX8_period_26 ?_
  refine g_iret C G hr hlk (Nat.le_of_ble_eq_true rfl) (Nat.le_of_ble_eq_true rfl) dX8_period_27 ?_
  have hp9 := pd_range (ring := f 0) (w := f (4 * li + 1)) hv0 (by omega) (by omega)
  rw [pd_lb (by omega) (by omega)] at hp9
  exact ⟨rfl, (pd_lb (by omega) (by omega)).symm, hp9.1, hp9.2⟩
theorem fX8_turns_7 : gFld wsX8_turns RX8 7 8 0 := ⟨RX8, TX8, 17, rfl, by decide, by decide +kernel, by decide +kernel⟩
set_option maxHeartbeats 4000000 in
set_option maxRecDepth 100000 in
theorem c_X8_turns (l : Launch) (κ : gKap) (B n : Nat) (ad : Nat → Nat) (g : Nat → va_E) (ly : Int) (th : Int) (mk : Int) (tx : Int) (rl : Int) (a0 : Int) (wr : Int) (s0 : Int) (s1 : Int) (rm : Int) (f : Int → Int) (li : Int) (hn8 : 200 ≤ n) (hM : g 192 = oM ad ly th mk tx rl a0 wr s0 s1 rm) (hN : g 193 = aI κ 42 f) (hok : okPl ly f) (hli : 0 ≤ li ∧ li < ly) : Met l yX8_turns wsX8_turns ({ frames := 2, cells := 0, slots := 0, locals := 45 }) (gPre κ B n ad g [.ref (ad 192), .int (iz li)]) (gQi κ B n ad (fun z g' => g' = g ∧ (z = tn (f 0) (f (4 * li + 1)) ∧ 1 ≤ z ∧ z ≤ 96))) 0 0 (gFree B) := by
  refine g_met RX8 (cc := cX8_turns) (maxL := 2) (ret := (some .int)) (by decide) rfl rfl (Nat.le_of_ble_eq_true rfl) ?_
  intro p e s m args below meth c C hr hlk hnm G ls hl
  have hl : lv_has ls 2 [(0, .ref (ad 192)), (1, .int (iz li))] := hl
  obtain ⟨hn6, hv0, hv25, hlay, hsee⟩ := id hok
  have hla := hlay li hli.1 hli.2
  refine g_aload_n C dX8_turns_0 rfl hl 0 rfl ?_
  refine g_iload_n C dX8_turns_1 rfl hl 1 rfl ?_
  refine g_ci C G (g_runV (As := [.int (iz li)]) (rest := []) (pos := 192) C G (c_X8_period l κ B n ad g ly th mk tx rl a0 wr s0 s1 rm f li hn8 hM hN hok (by omega)) (cwV 1 C.1.2.2.2.2 gX8_turns_X8_period rfl rfl rfl (by decide +kernel) ⟨Nat.le_of_ble_eq_true rfl, Nat.le_of_ble_eq_true rfl⟩) (by omega) hM (T := TX8) (N := 17) rfl rfl hl rfl (Nat.le_of_ble_eq_true rfl) dX8_turns_2 ⟨Nat.le_of_ble_eq_true rfl, Nat.le_of_ble_eq_true rfl⟩) (fun z_1 g9 H locs hw G => ?_)
  obtain ⟨hg9, h_2⟩ := hw
  replace hg9 := hg9.symm
  subst hg9
  refine g_aload_n C dX8_turns_5 rfl hl 0 rfl ?_
  refine g_get C G (pos := 192) fX8_turns_7 (by omega) hM rfl dX8_turns_6 ?_
  refine g_iconst (a := 0) C dX8_turns_9 rfl ?_
  refine g_iaload C G (pos := 193) (by omega) hN (by omega) (by omega) (by omega) dX8_turns_10 ?_
  refine g_idiv C (by omega) (by omega) (by omega) dX8_turns_11 ?_
  rw [show (Int.tdiv z_1 (f 0) : Int) = tn (f 0) (f (4 * li + 1)) from (by rw [h_2.1, tdiv_pos (by have := h_2; rw [← h_2.1]; omega)]; exact Int.mul_ediv_cancel_left _ (by omega))]
  refine g_iret C G hr hlk (Nat.le_of_ble_eq_true rfl) (Nat.le_of_ble_eq_true rfl) dX8_turns_12 ?_
  have hr9 := tn_range (ring := f 0) (w := f (4 * li + 1)) (by omega) (by omega)
  exact ⟨rfl, rfl, by omega, by omega⟩
set_option maxHeartbeats 4000000 in
set_option maxRecDepth 100000 in
theorem c_X8_lobes (l : Launch) (κ : gKap) (B n : Nat) (ad : Nat → Nat) (g : Nat → va_E) (ly : Int) (th : Int) (mk : Int) (tx : Int) (rl : Int) (a0 : Int) (wr : Int) (s0 : Int) (s1 : Int) (rm : Int) (f : Int → Int) (li : Int) (hn8 : 200 ≤ n) (hM : g 192 = oM ad ly th mk tx rl a0 wr s0 s1 rm) (hN : g 193 = aI κ 42 f) (hok : okPl ly f) (hli : 0 ≤ li ∧ li < ly) : Met l yX8_lobes wsX8_lobes ({ frames := 2, cells := 0, slots := 0, locals := 45 }) (gPre κ B n ad g [.ref (ad 192), .int (iz li)]) (gQi κ B n ad (fun z g' => g' = g ∧ (z = lb (f 0) (f (4 * li + 1)) ∧ 1 ≤ z ∧ z ≤ 96))) 0 0 (gFree B) := by
  refine g_met RX8 (cc := cX8_lobes) (maxL := 2) (ret := (some .int)) (by decide) rfl rfl (Nat.le_of_ble_eq_true rfl) ?_
  intro p e s m args below meth c C hr hlk hnm G ls hl
  have hl : lv_has ls 2 [(0, .ref (ad 192)), (1, .int (iz li))] := hl
  obtain ⟨hn6, hv0, hv25, hlay, hsee⟩ := id hok
  have hla := hlay li hli.1 hli.2
  refine g_aload_n C dX8_lobes_0 rfl hl 0 rfl ?_
  refine g_iload_n C dX8_lobes_1 rfl hl 1 rfl ?_
  refine g_ci C G (g_runV (As := [.int (iz li)]) (rest := []) (pos := 192) C G (c_X8_period l κ B n ad g ly th mk tx rl a0 wr s0 s1 rm f li hn8 hM hN hok (by omega)) (cwV 1 C.1.2.2.2.2 gX8_lobes_X8_period rfl rfl rfl (by decide +kernel) ⟨Nat.le_of_ble_eq_true rfl, Nat.le_of_ble_eq_true rfl⟩) (by omega) hM (T := TX8) (N := 17) rfl rfl hl rfl (Nat.le_of_ble_eq_true rfl) dX8_lobes_2 ⟨Nat.le_of_ble_eq_true rfl, Nat.le_of_ble_eq_true rfl⟩) (fun z_1 g9 H locs hw G => ?_)
  obtain ⟨hg9, h_2⟩ := hw
  replace hg9 := hg9.symm
  subst hg9
  refine g_aload_n C dX8_lobes_5 rfl hl 0 rfl ?_
  refine g_iload_n C dX8_lobes_6 rfl hl 1 rfl ?_
  refine g_ci C G (g_runV (As := [.int (iz li)]) (rest := [.int (iz z_1)]) (pos := 192) C G (c_X8_wheel l κ B n ad g ly th mk tx rl a0 wr s0 s1 rm f li hn8 hM hN (by omega)) (cwV 1 C.1.2.2.2.2 gX8_lobes_X8_wheel rfl rfl rfl (by decide +kernel) ⟨Nat.le_of_ble_eq_true rfl, Nat.le_of_ble_eq_true rfl⟩) (by omega) hM (T := TX8) (N := 17) rfl rfl hl rfl (Nat.le_of_ble_eq_true rfl) dX8_lobes_7 ⟨Nat.le_of_ble_eq_true rfl, Nat.le_of_ble_eq_true rfl⟩) (fun z_3 g9 H locs hw G => ?_)
  obtain ⟨hg9, h_4⟩ := hw
  replace hg9 := hg9.symm
  subst hg9
  subst h_4
  refine g_idiv C (by omega) (by omega) (by omega) dX8_lobes_10 ?_
  rw [show (Int.tdiv z_1 (f (4 * li + 1)) : Int) = lb (f 0) (f (4 * li + 1)) from (by rw [h_2.1, tdiv_pos (by have := h_2; rw [← h_2.1]; omega)]; rw [pd_lb (by omega) (by omega)]; exact Int.mul_ediv_cancel _ (by omega))]
  refine g_iret C G hr hlk (Nat.le_of_ble_eq_true rfl) (Nat.le_of_ble_eq_true rfl) dX8_lobes_11 ?_
  have hr9 := lb_range (ring := f 0) (w := f (4 * li + 1)) (by omega)
  exact ⟨rfl, rfl, by omega, by omega⟩
theorem fX8_spot_7 : gFld wsX8_spot RX8 7 8 0 := ⟨RX8, TX8, 17, rfl, by decide, by decide +kernel, by decide +kernel⟩
set_option maxHeartbeats 4000000 in
set_option maxRecDepth 100000 in
theorem c_X8_spot (l : Launch) (κ : gKap) (B n : Nat) (ad : Nat → Nat) (g : Nat → va_E) (ly : Int) (th : Int) (mk : Int) (tx : Int) (rl : Int) (a0 : Int) (wr : Int) (s0 : Int) (s1 : Int) (rm : Int) (f : Int → Int) (li : Int) (t : Int) (hn8 : 200 ≤ n) (hM : g 192 = oM ad ly th mk tx rl a0 wr s0 s1 rm) (hN : g 193 = aI κ 42 f) (hok : okPl ly f) (hli : 0 ≤ li ∧ li < ly) (ht : 0 ≤ t ∧ t ≤ 5760) : Met l yX8_spot wsX8_spot ({ frames := 2, cells := 0, slots := 0, locals := 50 }) (gPre κ B n ad g [.ref (ad 192), .int (iz li), .int (iz t)]) (gQi κ B n ad (fun z g' => g' = g ∧ (∃ a9 r9, z = a9 * 301 + r9 ∧ a9 = (f (4 * li + 4) + t) % f 0 ∧ r9 = rad (f (4 * li + 1)) (f (4 * li + 2)) (f (4 * li + 3)) (t % f (4 * li + 1)) ∧ (0 ≤ a9 ∧ a9 < f 0) ∧ 120 ≤ r9 ∧ r9 ≤ 280))) 0 0 (gFree B) := by
  refine g_met RX8 (cc := cX8_spot) (maxL := 3) (ret := (some .int)) (by decide) rfl rfl (Nat.le_of_ble_eq_true rfl) ?_
  intro p e s m args below meth c C hr hlk hnm G ls hl
  have hl : lv_has ls 3 [(0, .ref (ad 192)), (1, .int (iz li)), (2, .int (iz t))] := hl
  obtain ⟨hn6, hv0, hv25, hlay, hsee⟩ := id hok
  have hla := hlay li hli.1 hli.2
  refine g_aload_n C dX8_spot_0 rfl hl 0 rfl ?_
  refine g_iload_n C dX8_spot_1 rfl hl 1 rfl ?_
  refine g_ci C G (g_runV (As := [.int (iz li)]) (rest := []) (pos := 192) C G (c_X8_start l κ B n ad g ly th mk tx rl a0 wr s0 s1 rm f li hn8 hM hN (by omega)) (cwV 1 C.1.2.2.2.2 gX8_spot_X8_start rfl rfl rfl (by decide +kernel) ⟨Nat.le_of_ble_eq_true rfl, Nat.le_of_ble_eq_true rfl⟩) (by omega) hM (T := TX8) (N := 17) rfl rfl hl rfl (Nat.le_of_ble_eq_true rfl) dX8_spot_2 ⟨Nat.le_of_ble_eq_true rfl, Nat.le_of_ble_eq_true rfl⟩) (fun z_1 g9 H locs hw G => ?_)
  obtain ⟨hg9, h_2⟩ := hw
  replace hg9 := hg9.symm
  subst hg9
  subst h_2
  refine g_iload_n C dX8_spot_5 rfl hl 2 rfl ?_
  refine g_iadd C dX8_spot_6 ?_
  refine g_aload_n C dX8_spot_7 rfl hl 0 rfl ?_
  refine g_get C G (pos := 192) fX8_spot_7 (by omega) hM rfl dX8_spot_8 ?_
  refine g_iconst (a := 0) C dX8_spot_11 rfl ?_
  refine g_iaload C G (pos := 193) (by omega) hN (by omega) (by omega) (by omega) dX8_spot_12 ?_
  refine g_irem C (by omega) (by omega) (by omega) dX8_spot_13 ?_
  rw [show (Int.tmod ((f (4 * li + 4)) + t) (f 0) : Int) = (f (4 * li + 4) + t) % f 0 from (tmod_pos (by omega))]
  have hs0 := Int.emod_nonneg (f (4 * li + 4) + t) (show f 0 ≠ 0 by omega)
  have hs1 := Int.emod_lt_of_pos (f (4 * li + 4) + t) (show 0 < f 0 by omega)
  refine g_sipush (a := 301) C dX8_spot_14 (by decide) ?_
  refine g_imul C dX8_spot_17 ?_
  refine g_aload_n C dX8_spot_18 rfl hl 0 rfl ?_
  refine g_iload_n C dX8_spot_19 rfl hl 1 rfl ?_
  refine g_iload_n C dX8_spot_20 rfl hl 2 rfl ?_
  refine g_i2l C (by omega) dX8_spot_21 ?_
  refine g_ci C G (g_runV (As := [.int (iz li), .long (jz t)]) (rest := [.int (iz (((f (4 * li + 4) + t) % f 0) * 301))]) (pos := 192) C G (c_X8_radiusAt l κ B n ad g ly th mk tx rl a0 wr s0 s1 rm f li t hn8 hM hN hok hli (by omega)) (cwV 2 C.1.2.2.2.2 gX8_spot_X8_radiusAt rfl rfl rfl (by decide +kernel) ⟨Nat.le_of_ble_eq_true rfl, Nat.le_of_ble_eq_true rfl⟩) (by omega) hM (T := TX8) (N := 17) rfl rfl hl rfl (Nat.le_of_ble_eq_true rfl) dX8_spot_22 ⟨Nat.le_of_ble_eq_true rfl, Nat.le_of_ble_eq_true rfl⟩) (fun z_3 g9 H locs hw G => ?_)
  obtain ⟨hg9, h_4⟩ := hw
  replace hg9 := hg9.symm
  subst hg9
  refine g_iadd C dX8_spot_25 ?_
  refine g_iret C G hr hlk (Nat.le_of_ble_eq_true rfl) (Nat.le_of_ble_eq_true rfl) dX8_spot_26 ?_
  exact ⟨rfl, _, _, rfl, rfl, h_4.1, ⟨hs0, hs1⟩, h_4.2⟩
