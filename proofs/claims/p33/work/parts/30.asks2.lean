/-! ROSETTEPLATE (X7): together, wheels, simulate -/
def tgA (v : Int → Int) : Nat → Int
  | 0 => 1
  | k + 1 => tgA v k / gd (tgA v k) (pd (v 0) (v (4 * (k : Int) + 1))) * pd (v 0) (v (4 * (k : Int) + 1))
theorem tgA_step (v : Int → Int) {k : Int} (hk : 0 ≤ k) : tgA v (k + 1).toNat = tgA v k.toNat / gd (tgA v k.toNat) (pd (v 0) (v (4 * k + 1))) * pd (v 0) (v (4 * k + 1)) := by
  have h1 : (k + 1).toNat = k.toNat + 1 := by omega
  have h2 : ((k.toNat : Nat) : Int) = k := Int.toNat_of_nonneg hk
  rw [h1]
  show tgA v k.toNat / gd (tgA v k.toNat) (pd (v 0) (v (4 * ((k.toNat : Nat) : Int) + 1))) * pd (v 0) (v (4 * ((k.toNat : Nat) : Int) + 1)) = _
  rw [h2]
theorem lcm_le {a r w : Int} (hr : 0 < r) (hw : 0 < w) (ha : 0 < a) (hd : r ∣ a) : 0 < a / gd a (pd r w) * pd r w ∧ a / gd a (pd r w) * pd r w ≤ a * w ∧ r ∣ a / gd a (pd r w) * pd r w := by
  have h0 : 0 < tn r w := by have := tn_range hr hw; omega
  have hb : 0 < pd r w := Int.mul_pos hr h0
  have hg : 0 < gd a (pd r w) := gd_pos ha
  have hrb : r ∣ pd r w := Int.dvd_mul_right r _
  have hrg : r ∣ gd a (pd r w) := Int.dvd_coe_gcd hd hrb
  have h1 : r ≤ gd a (pd r w) := Int.le_of_dvd hg hrg
  have h2 : lb r w ≤ r := (lb_range hr).2
  have h3 : pd r w = lb r w * w := pd_lb hr hw
  have h4 : pd r w ≤ gd a (pd r w) * w := by
    rw [h3]
    exact Int.mul_le_mul_of_nonneg_right (by rw [← h3]; omega) (by omega)
  have h5 : a / gd a (pd r w) * gd a (pd r w) = a := Int.ediv_mul_cancel (gd_dvd_left _ _)
  have h6 : 0 < a / gd a (pd r w) := by
    by_cases h : 0 < a / gd a (pd r w)
    · exact h
    · have := Int.mul_le_mul_of_nonneg_right (show a / gd a (pd r w) ≤ 0 by omega) (show 0 ≤ gd a (pd r w) by omega)
      omega
  refine ⟨Int.mul_pos h6 hb, ?_, Int.dvd_mul_of_dvd_right hrb⟩
  calc a / gd a (pd r w) * pd r w ≤ a / gd a (pd r w) * (gd a (pd r w) * w) := Int.mul_le_mul_of_nonneg_left h4 (by omega)
    _ = a / gd a (pd r w) * gd a (pd r w) * w := by rw [Int.mul_assoc]
    _ = a * w := by rw [h5]
theorem tgA_ok {nl : Int} {v : Int → Int} (h : okPl nl v) (k : Nat) (hk : (k : Int) ≤ nl) : 0 < tgA v k ∧ tgA v k ≤ 562949953421312 ∧ (0 < k → v 0 ∣ tgA v k) := by
  obtain ⟨hn, hr, -, hl, -⟩ := h
  have main : ∀ j : Nat, (j : Int) ≤ nl → 0 < tgA v j ∧ tgA v j ≤ ((96 * 60 ^ j : Nat) : Int) ∧ (0 < j → v 0 ∣ tgA v j) := by
    intro j
    induction j with
    | zero => intro _; exact ⟨by show (0 : Int) < 1; decide, by show (1 : Int) ≤ ((96 * 60 ^ 0 : Nat) : Int); decide, fun q => absurd q (Nat.lt_irrefl 0)⟩
    | succ j ih =>
      intro hj
      obtain ⟨i1, i2, i3⟩ := ih (by omega)
      have hw := (hl j (by omega) (by omega)).1
      have e1 : tgA v (j + 1) = tgA v j / gd (tgA v j) (pd (v 0) (v (4 * (j : Int) + 1))) * pd (v 0) (v (4 * (j : Int) + 1)) := rfl
      rw [e1]
      have h9 : ((96 * 60 ^ (j + 1) : Nat) : Int) = ((96 * 60 ^ j : Nat) : Int) * 60 := by
        rw [Nat.pow_succ, ← Nat.mul_assoc, Int.natCast_mul]
        rfl
      cases j with
      | zero =>
        have g1 : tgA v 0 = 1 := rfl
        have g2 : gd 1 (pd (v 0) (v (4 * ((0 : Nat) : Int) + 1))) = 1 := by
          have := gd_le (a := 1) (b := pd (v 0) (v (4 * ((0 : Nat) : Int) + 1))) (by omega)
          have := gd_pos (a := 1) (b := pd (v 0) (v (4 * ((0 : Nat) : Int) + 1))) (by omega)
          omega
        have g3 := pd_range (ring := v 0) (w := v (4 * ((0 : Nat) : Int) + 1)) hr (by omega) (by omega)
        rw [g1, g2, Int.ediv_one, Int.one_mul, h9]
        exact ⟨by omega, by show _ ≤ ((96 * 60 ^ 0 : Nat) : Int) * 60; omega, fun _ => Int.dvd_mul_right _ _⟩
      | succ i =>
        obtain ⟨q1, q2, q3⟩ := lcm_le (a := tgA v (i + 1)) (r := v 0) (w := v (4 * ((i + 1 : Nat) : Int) + 1)) (by omega) (by omega) i1 (i3 (by omega))
        refine ⟨q1, Int.le_trans q2 ?_, fun _ => q3⟩
        rw [h9]
        exact Int.mul_le_mul i2 (by omega) (by omega) (by omega)
  obtain ⟨m1, m2, m3⟩ := main k hk
  refine ⟨m1, Int.le_trans m2 ?_, m3⟩
  have h6 : 96 * 60 ^ k ≤ 96 * 60 ^ 6 := Nat.mul_le_mul_left _ (Nat.pow_le_pow_right (by decide) (by omega))
  exact Int.le_trans (Int.ofNat_le.mpr h6) (by decide)
theorem bn_tr {κ : gKap} {ad : Nat → Nat} {g g' : Nat → va_E} {t1 t2 t3 t4 : Int} (h : isBn κ ad g 186) (hg : g' = va_up g (186 + 5) (oL t1 t2 t3 t4)) : isBn κ ad g' 186 ∧ frB g g' 186 := by
  subst hg
  obtain ⟨h0, h1, h3, ⟨W1, h2⟩, ⟨W2, h4⟩, a, b, c9, d, h5⟩ := h
  exact ⟨⟨(gu_ne (by omega)).trans h0, (gu_ne (by omega)).trans h1, (gu_ne (by omega)).trans h3, ⟨W1, (gu_ne (by omega)).trans h2⟩, ⟨W2, (gu_ne (by omega)).trans h4⟩, t1, t2, t3, t4, gu_self _ _ _⟩, frB.rf.up (by omega) (by omega)⟩
/-- the wheels from 5 that would fit: how many, the least, the greatest -/
noncomputable def whS (v : Int → Int) (sd ho st0 : Int) : Nat → Int × Int × Int
  | 0 => (0, -9, -9)
  | k + 1 => @ite (Int × Int × Int) (FITw v (5 + (k : Int)) sd ho st0) (Classical.propDecidable _) ((whS v sd ho st0 k).1 + 1, (if (whS v sd ho st0 k).2.1 = -9 then 5 + (k : Int) else (whS v sd ho st0 k).2.1), 5 + (k : Int)) (whS v sd ho st0 k)
theorem whS_in {v : Int → Int} {sd ho st0 w : Int} (hw : 5 ≤ w) (h : FITw v w sd ho st0) : whS v sd ho st0 (w + 1 - 5).toNat = ((whS v sd ho st0 (w - 5).toNat).1 + 1, (if (whS v sd ho st0 (w - 5).toNat).2.1 = -9 then w else (whS v sd ho st0 (w - 5).toNat).2.1), w) := by
  have h1 : (w + 1 - 5).toNat = (w - 5).toNat + 1 := by omega
  have h2 : 5 + (((w - 5).toNat : Nat) : Int) = w := by omega
  rw [h1]
  show @ite (Int × Int × Int) (FITw v (5 + (((w - 5).toNat : Nat) : Int)) sd ho st0) (Classical.propDecidable _) _ _ = _
  rw [h2, if_pos h]
theorem whS_out {v : Int → Int} {sd ho st0 w : Int} (hw : 5 ≤ w) (h : ¬ FITw v w sd ho st0) : whS v sd ho st0 (w + 1 - 5).toNat = whS v sd ho st0 (w - 5).toNat := by
  have h1 : (w + 1 - 5).toNat = (w - 5).toNat + 1 := by omega
  have h2 : 5 + (((w - 5).toNat : Nat) : Int) = w := by omega
  rw [h1]
  show @ite (Int × Int × Int) (FITw v (5 + (((w - 5).toNat : Nat) : Int)) sd ho st0) (Classical.propDecidable _) _ _ = _
  rw [h2, if_neg h]
theorem fX7_together_16 : gFld wsX7_together RX7 16 7 2 := ⟨RX7, TX7, 8, rfl, by decide, by decide +kernel, by decide +kernel⟩
theorem fX7_together_74 : gFld wsX7_together RX7 74 4 1 := ⟨RX4, TX4, 6, rfl, by decide, by decide +kernel, by decide +kernel⟩
theorem fX7_together_86 : gFld wsX7_together RX7 86 4 0 := ⟨RX4, TX4, 6, rfl, by decide, by decide +kernel, by decide +kernel⟩
set_option maxHeartbeats 4000000 in
set_option maxRecDepth 100000 in
theorem c_X7_together (l : Launch) (κ : gKap) (B n : Nat) (ad : Nat → Nat) (g : Nat → va_E) (tl : Int) (nl : Int) (v : Int → Int) (hnn : 192 ≤ n) (hX : isX κ ad g tl) (hpl : isPl κ ad g 2 nl v) (hok : okPl nl v) : Met l yX7_together wsX7_together ({ frames := 3, cells := 0, slots := 0, locals := 72 }) (gPre κ B n ad g [.ref (ad 0)]) (gQl κ B n ad (fun z g' => g' = g ∧ ((nl = 0 ∧ z = 0) ∨ (0 < nl ∧ z = tgA v nl.toNat)))) 0 0 (gFree B) := by
  refine g_met RX7 (cc := cX7_together) (maxL := 5) (ret := (some .long)) (by decide) rfl rfl (Nat.le_of_ble_eq_true rfl) ?_
  intro p e s m args below meth c C hr hlk hnm G ls hl
  have hl : lv_has ls 5 [(0, .ref (ad 0))] := hl
  obtain ⟨hn6, hv0, hv25, hlay, hsee⟩ := id hok
  refine g_aload_n C dX7_together_0 rfl hl 0 rfl ?_
  refine g_get C G (pos := 0) fX7_together_16 (by omega) hX.1 rfl dX7_together_1 ?_
  refine g_get C G (pos := 2) fX7_together_74 (by omega) hpl.1 rfl dX7_together_4 ?_
  refine g_if_ne (tgt := 12) C (by omega) dX7_together_7 (by decide) (fun c_1 => ?_) (fun c_1 => ?_)
  · refine g_lconst (a := 1) C dX7_together_12 (by decide) ?_
    refine lv_lstore_n (lv' := [(1, .long (jz 1)), (0, .ref (ad 0))]) C.1.1 C.1.2.1 dX7_together_13 rfl hl (by decide) rfl (fun ls hl => ?_)
    refine g_iconst (a := 0) C dX7_together_14 rfl ?_
    refine lv_istore_n (lv' := [(3, .int (iz 0)), (1, .long (jz 1)), (0, .ref (ad 0))]) C.1.1 C.1.2.1 dX7_together_15 rfl hl (by decide) rfl (fun ls hl => ?_)
    have lp_16_n_3 : ∀ (k_2 : Nat) (al : Int) (k : Int), (nl - k).toNat < k_2 → (0 ≤ k) → (k ≤ nl) → (al = tgA v k.toNat) → ∀ (H : Heap) (locs : List Loc), gG κ B n ad s g H locs → ∀ (ls : Array Slot), lv_has ls 5 [(0, .ref (ad 0)), (1, .long (jz al)), (3, .int (iz k))] → W p l e ({ frames := 3, cells := 0, slots := 0, locals := 72 }) s m args below meth c H locs 0 0 (MQ below (gQl κ B n ad (fun z g' => g' = g ∧ ((nl = 0 ∧ z = 0) ∨ (0 < nl ∧ z = tgA v nl.toNat)))) args s 0 0 (gFree B)) (F0 m 16 ls []) := by
      intro k_2
      induction k_2 with
      | zero => intro al k hm; exact absurd hm (Nat.not_lt_zero _)
      | succ k_2 ih_lp_16_n_3 =>
        intro al k hm hk0 hk1 hal H locs G ls hl
        refine g_iload_n C dX7_together_16 rfl hl 2 rfl ?_
        refine g_aload_n C dX7_together_17 rfl hl 0 rfl ?_
        refine g_get C G (pos := 0) fX7_together_16 (by omega) hX.1 rfl dX7_together_18 ?_
        refine g_get C G (pos := 2) fX7_together_74 (by omega) hpl.1 rfl dX7_together_21 ?_
        refine g_icmp_ge (tgt := 66) C (by omega) (by omega) dX7_together_24 (by decide) (fun c_4 => ?_) (fun c_4 => ?_)
        · refine g_lload_n C dX7_together_66 rfl hl 1 rfl ?_
          refine g_lret C G hr hlk (Nat.le_of_ble_eq_true rfl) (Nat.le_of_ble_eq_true rfl) dX7_together_67 ?_
          have hk9 : k = nl := by omega
          subst hk9
          exact ⟨rfl, Or.inr ⟨by omega, hal⟩⟩
        · refine g_aload_n C dX7_together_27 rfl hl 0 rfl ?_
          refine g_get C G (pos := 0) fX7_together_16 (by omega) hX.1 rfl dX7_together_28 ?_
          refine g_iload_n C dX7_together_31 rfl hl 2 rfl ?_
          refine g_co C G (g_runV (As := [.int (iz k)]) (rest := []) (pos := 2) C G (c_X4_find l κ B n ad g 2 nl v k (by omega) hpl (by omega) (by omega)) (cwV 1 C.1.2.2.2.2 gX7_together_X4_find rfl rfl rfl (by decide +kernel) ⟨Nat.le_of_ble_eq_true rfl, Nat.le_of_ble_eq_true rfl⟩) (by omega) hpl.1 (T := TX4) (N := 6) rfl rfl hl rfl (Nat.le_of_ble_eq_true rfl) dX7_together_32 ⟨Nat.le_of_ble_eq_true rfl, Nat.le_of_ble_eq_true rfl⟩) (fun q_5 g9 H locs hw G => ?_) (fun g9 H locs hw G => ?_)
          · obtain ⟨hg9, ⟨b_6, hw⟩ | ⟨b_6, hw⟩⟩ := hw
            all_goals replace hg9 := hg9.symm
            all_goals subst hg9
            · cases hw
              have hla := hlay k (by omega) (by omega)
              refine lv_astore (lv' := [(4, .ref (ad (2 + 2 + (k).toNat))), (0, .ref (ad 0)), (1, .long (jz al)), (3, .int (iz k))]) C.1.1 C.1.2.1 dX7_together_35 hl (by decide) rfl (fun ls hl => ?_)
              refine g_aload C dX7_together_37 hl 0 rfl ?_
              refine lv_ifnull C.1.1 C.1.2.1 dX7_together_39 ?_
              refine g_lload_n C dX7_together_42 rfl hl 2 rfl ?_
              refine g_aload C dX7_together_43 hl 0 rfl ?_
              refine g_aload_n C dX7_together_45 rfl hl 1 rfl ?_
              refine g_get C G (pos := 0) fX7_together_16 (by omega) hX.1 rfl dX7_together_46 ?_
              refine g_get C G (pos := 2) fX7_together_86 (by omega) hpl.1 rfl dX7_together_49 ?_
              refine g_ci C G (g_runV (As := [.int (iz (v 0))]) (rest := [.long (jz al)]) (pos := 2 + 2 + (k).toNat) C G (c_X3_period l κ B n ad g (2 + 2 + (k).toNat) (v (4 * k + 1)) (v (4 * k + 2)) (v (4 * k + 3)) (v (4 * k + 4)) (v 0) (by omega) (hpl.lay (by omega) (by omega)) hla.1 hv0) (cwV 1 C.1.2.2.2.2 gX7_together_X3_period rfl rfl rfl (by decide +kernel) ⟨Nat.le_of_ble_eq_true rfl, Nat.le_of_ble_eq_true rfl⟩) (by omega) (hpl.lay (by omega) (by omega)) (T := TX3) (N := 4) rfl rfl hl rfl (Nat.le_of_ble_eq_true rfl) dX7_together_52 ⟨Nat.le_of_ble_eq_true rfl, Nat.le_of_ble_eq_true rfl⟩) (fun z_7 g9 H locs hw G => ?_)
              obtain ⟨hg9, h_8⟩ := hw
              replace hg9 := hg9.symm
              subst hg9
              have htg := tgA_ok hok k.toNat (by omega)
              rw [← hal] at htg
              refine g_i2l C (by omega) dX7_together_55 ?_
              refine g_cl C G (g_runS (As := [.long (jz al), .long (jz z_7)]) (rest := []) C G (c_X7_commonMultiple l κ B n ad g al z_7 htg.1 htg.2.1 (by omega) (by omega)) (va_cwS 2 C.1.2.2.2.2 gX7_together_X7_commonMultiple rfl rfl rfl (by decide +kernel) ⟨Nat.le_of_ble_eq_true rfl, Nat.le_of_ble_eq_true rfl⟩) rfl hl rfl (Nat.le_of_ble_eq_true rfl) dX7_together_56 ⟨Nat.le_of_ble_eq_true rfl, Nat.le_of_ble_eq_true rfl⟩) (fun z_9 g9 H locs hw G => ?_)
              obtain ⟨hg9, h_10⟩ := hw
              replace hg9 := hg9.symm
              subst hg9
              refine lv_lstore_n (lv' := [(1, .long (jz z_9)), (4, .ref (ad (2 + 2 + (k).toNat))), (0, .ref (ad 0)), (3, .int (iz k))]) C.1.1 C.1.2.1 dX7_together_59 rfl hl (by decide) rfl (fun ls hl => ?_)
              refine lv_iinc (v := iz (k + 1)) (lv' := [(3, .int (iz (k + 1))), (1, .long (jz z_9)), (4, .ref (ad (2 + 2 + (k).toNat))), (0, .ref (ad 0))]) C.1.1 C.1.2.1 dX7_together_60 hl (k := 3) rfl (g_inc (by omega)) (by decide) rfl (fun ls hl => ?_)
              refine g_goto (tgt := 16) C dX7_together_63 (by decide) ?_
              exact ih_lp_16_n_3 z_9 (k + 1) (by omega) (by omega) (by omega) (by rw [tgA_step v hk0, ← hal, h_10, h_8.2.2]) _ _ G _ (lv_sub hl [3, 1, 0] rfl)
            · cases hw
          · obtain ⟨hg9, ⟨b_6, hw⟩ | ⟨b_6, hw⟩⟩ := hw
            all_goals replace hg9 := hg9.symm
            all_goals subst hg9
            · cases hw
            · exact absurd (by omega) b_6
    exact lp_16_n_3 _ 1 0 (Nat.lt_succ_self _) (by omega) (by omega) rfl _ _ G _ (lv_sub hl [2, 1, 0] rfl)
  · refine g_lconst (a := 0) C dX7_together_10 (by decide) ?_
    refine g_lret C G hr hlk (Nat.le_of_ble_eq_true rfl) (Nat.le_of_ble_eq_true rfl) dX7_together_11 ?_
    exact ⟨rfl, Or.inl ⟨by omega, rfl⟩⟩
theorem fX7_wheels_16 : gFld wsX7_wheels RX7 16 7 2 := ⟨RX7, TX7, 8, rfl, by decide, by decide +kernel, by decide +kernel⟩
theorem fX7_wheels_41 : gFld wsX7_wheels RX7 41 7 7 := ⟨RX7, TX7, 8, rfl, by decide, by decide +kernel, by decide +kernel⟩
theorem fX7_wheels_280 : gFld wsX7_wheels RX7 280 0 2 := ⟨RX0, TX0, 3, rfl, by decide, by decide +kernel, by decide +kernel⟩
set_option maxHeartbeats 4000000 in
set_option maxRecDepth 100000 in
theorem c_X7_wheels (l : Launch) (hlf : l.stackTraces = false) (κ : gKap) (B n : Nat) (ad : Nat → Nat) (g : Nat → va_E) (tl : Int) (nl : Int) (v : Int → Int) (sd : Int) (ho : Int) (st0 : Int) (wh : Int) (hnn : 192 ≤ n) (hX : isX κ ad g tl) (hpl : isPl κ ad g 2 nl v) (hok : okPl nl v) (hbn : isBn κ ad g 186) (hsd : inI sd) (hho : inI ho) (hst0 : inI st0) (hwh9 : inI wh) : vx_Met l yX7_wheels wsX7_wheels ({ frames := 6, cells := 1, slots := 6, locals := 100 }) (gPreX κ B n ad g [.ref (ad 0), .int (iz sd), .int (iz ho), .int (iz st0), .int (iz wh)]) (gQi κ B n ad (fun z g' => isBn κ ad g' 186 ∧ frB g g' 186 ∧ ((sd = 0 ∨ sd = 1) ∧ (0 ≤ ho ∧ ho ≤ 20) ∧ (0 ≤ st0 ∧ st0 < v 0) ∧ 0 ≤ wh ∧ wh ≤ 2) ∧ ((wh = 0 ∧ z = (whS v sd ho st0 56).1) ∨ (wh = 1 ∧ z = (whS v sd ho st0 56).2.1) ∨ (wh = 2 ∧ z = (whS v sd ho st0 56).2.2)))) (gXX κ B n ad (fun E g9 => (E = "java/lang/IllegalArgumentException" ∧ (¬ ((sd = 0 ∨ sd = 1) ∧ (0 ≤ ho ∧ ho ≤ 20) ∧ (0 ≤ st0 ∧ st0 < v 0) ∧ 0 ≤ wh ∧ wh ≤ 2)) ∧ g9 = g))) 1 6 (gFree B) := by
  refine g_metX RX7 (cc := cX7_wheels) (maxL := 9) (ret := (some .int)) (by decide) rfl rfl (Nat.le_of_ble_eq_true rfl) ?_
  intro p e s m args below meth c C hr hlk hnt X G ls hl
  have hl : lv_has ls 9 [(0, .ref (ad 0)), (1, .int (iz sd)), (2, .int (iz ho)), (3, .int (iz st0)), (4, .int (iz wh))] := hl
  obtain ⟨hn6, hv0, hv25, hlay, hsee⟩ := id hok
  obtain ⟨hb0, hb1, hb3, hb2, hb4, tw9, ts9, th9, tt9, hb5⟩ := id hbn
  refine g_iload_n C dX7_wheels_0 rfl hl 1 rfl ?_
  refine g_ci C G (g_runS (As := [.int (iz sd)]) (rest := []) C G (c_X7_isSide l κ B n ad g sd (by omega)) (va_cwS 1 C.1.2.2.2.2 gX7_wheels_X7_isSide rfl rfl rfl (by decide +kernel) ⟨Nat.le_of_ble_eq_true rfl, Nat.le_of_ble_eq_true rfl⟩) rfl hl rfl (Nat.le_of_ble_eq_true rfl) dX7_wheels_1 ⟨Nat.le_of_ble_eq_true rfl, Nat.le_of_ble_eq_true rfl⟩) (fun z_2 g9 H locs hw G => ?_)
  obtain ⟨hg9, hw⟩ := hw
  replace hg9 := hg9.symm
  subst hg9
  rcases hw with ⟨b_1, rfl⟩ | ⟨b_1, rfl⟩
  · refine g_if_eq (tgt := 36) C (by decide) dX7_wheels_4 (by decide) (fun c9 => absurd c9 (by decide)) (fun _ => ?_)
    refine g_iload_n C dX7_wheels_7 rfl hl 2 rfl ?_
    refine g_ci C G (g_runS (As := [.int (iz ho)]) (rest := []) C G (c_X7_isHole l κ B n ad g ho (by omega)) (va_cwS 1 C.1.2.2.2.2 gX7_wheels_X7_isHole rfl rfl rfl (by decide +kernel) ⟨Nat.le_of_ble_eq_true rfl, Nat.le_of_ble_eq_true rfl⟩) rfl hl rfl (Nat.le_of_ble_eq_true rfl) dX7_wheels_8 ⟨Nat.le_of_ble_eq_true rfl, Nat.le_of_ble_eq_true rfl⟩) (fun z_4 g9 H locs hw G => ?_)
    obtain ⟨hg9, hw⟩ := hw
    replace hg9 := hg9.symm
    subst hg9
    rcases hw with ⟨b_3, rfl⟩ | ⟨b_3, rfl⟩
    · refine g_if_eq (tgt := 36) C (by decide) dX7_wheels_11 (by decide) (fun c9 => absurd c9 (by decide)) (fun _ => ?_)
      refine g_aload_n C dX7_wheels_14 rfl hl 0 rfl ?_
      refine g_get C G (pos := 0) fX7_wheels_16 (by omega) hX.1 rfl dX7_wheels_15 ?_
      refine g_iload_n C dX7_wheels_18 rfl hl 3 rfl ?_
      refine g_ci C G (g_runV (As := [.int (iz st0)]) (rest := []) (pos := 2) C G (c_X4_hasTooth l κ B n ad g 2 nl v st0 (by omega) hpl (by omega) hv0) (cwV 1 C.1.2.2.2.2 gX7_wheels_X4_hasTooth rfl rfl rfl (by decide +kernel) ⟨Nat.le_of_ble_eq_true rfl, Nat.le_of_ble_eq_true rfl⟩) (by omega) hpl.1 (T := TX4) (N := 6) rfl rfl hl rfl (Nat.le_of_ble_eq_true rfl) dX7_wheels_19 ⟨Nat.le_of_ble_eq_true rfl, Nat.le_of_ble_eq_true rfl⟩) (fun z_6 g9 H locs hw G => ?_)
      obtain ⟨hg9, hw⟩ := hw
      replace hg9 := hg9.symm
      subst hg9
      rcases hw with ⟨b_5, rfl⟩ | ⟨b_5, rfl⟩
      · refine g_if_eq (tgt := 36) C (by decide) dX7_wheels_22 (by decide) (fun c9 => absurd c9 (by decide)) (fun _ => ?_)
        refine g_iload C dX7_wheels_25 hl 4 rfl ?_
        refine g_if_lt (tgt := 36) C (by omega) dX7_wheels_27 (by decide) (fun c_7 => ?_) (fun c_7 => ?_)
        · refine g_throw C G X hlf hlk hnt hl (cls := "java/lang/IllegalArgumentException") (text := "an argument is out of range") (ik := 45) (is := 239) (ic := 49) (by decide +kernel) (by decide +kernel : Cond.classLink RX7 45 _ ∈ wsX7_wheels) (by decide +kernel : Cond.initialized _ ∈ wsX7_wheels) (by decide +kernel) (by decide +kernel) (by decide +kernel) at_iae (by decide +kernel) dX7_wheels_36 dX7_wheels_39 dX7_wheels_40 dX7_wheels_42 dX7_wheels_45 (Nat.le_of_ble_eq_true rfl) (Nat.le_of_ble_eq_true rfl) (Nat.le_of_ble_eq_true rfl) (Nat.le_of_ble_eq_true rfl) (Nat.le_of_ble_eq_true rfl) (Nat.le_of_ble_eq_true rfl) ?_
          exact ⟨rfl, by omega, rfl⟩
        · refine g_iload C dX7_wheels_30 hl 4 rfl ?_
          refine g_iconst (a := 2) C dX7_wheels_32 rfl ?_
          refine g_icmp_le (tgt := 46) C (by omega) (by decide) dX7_wheels_33 (by decide) (fun c_8 => ?_) (fun c_8 => ?_)
          · refine g_iconst (a := 0) C dX7_wheels_46 rfl ?_
            refine lv_istore (lv' := [(5, .int (iz 0)), (0, .ref (ad 0)), (1, .int (iz sd)), (2, .int (iz ho)), (3, .int (iz st0)), (4, .int (iz wh))]) C.1.1 C.1.2.1 dX7_wheels_47 hl (by decide) rfl (fun ls hl => ?_)
            refine g_bipush (a := (-9)) C dX7_wheels_49 (by decide) ?_
            refine lv_istore (lv' := [(6, .int (iz (-9))), (5, .int (iz 0)), (0, .ref (ad 0)), (1, .int (iz sd)), (2, .int (iz ho)), (3, .int (iz st0)), (4, .int (iz wh))]) C.1.1 C.1.2.1 dX7_wheels_51 hl (by decide) rfl (fun ls hl => ?_)
            refine g_bipush (a := (-9)) C dX7_wheels_53 (by decide) ?_
            refine lv_istore (lv' := [(7, .int (iz (-9))), (6, .int (iz (-9))), (5, .int (iz 0)), (0, .ref (ad 0)), (1, .int (iz sd)), (2, .int (iz ho)), (3, .int (iz st0)), (4, .int (iz wh))]) C.1.1 C.1.2.1 dX7_wheels_55 hl (by decide) rfl (fun ls hl => ?_)
            refine g_iconst (a := 5) C dX7_wheels_57 rfl ?_
            refine lv_istore (lv' := [(8, .int (iz 5)), (7, .int (iz (-9))), (6, .int (iz (-9))), (5, .int (iz 0)), (0, .ref (ad 0)), (1, .int (iz sd)), (2, .int (iz ho)), (3, .int (iz st0)), (4, .int (iz wh))]) C.1.1 C.1.2.1 dX7_wheels_58 hl (by decide) rfl (fun ls hl => ?_)
            have lp_60_n_10 : ∀ (k_9 : Nat) (nu : Int) (ls9 : Int) (gs9 : Int) (w9 : Int) (t1 : Int) (t2 : Int) (t3 : Int) (t4 : Int) (gv : Nat → va_E), (61 - w9).toNat < k_9 → (5 ≤ w9 ∧ w9 ≤ 61) → (gv = va_up g (186 + 5) (oL t1 t2 t3 t4)) → (0 ≤ nu ∧ nu ≤ w9) → (-9 ≤ ls9 ∧ ls9 ≤ 60) → ((nu, ls9, gs9) = whS v sd ho st0 (w9 - 5).toNat) → ∀ (H : Heap) (locs : List Loc), gG κ B n ad s gv H locs → ∀ (ls : Array Slot), lv_has ls 9 [(0, .ref (ad 0)), (1, .int (iz sd)), (2, .int (iz ho)), (3, .int (iz st0)), (4, .int (iz wh)), (5, .int (iz nu)), (6, .int (iz ls9)), (7, .int (iz gs9)), (8, .int (iz w9))] → W p l e ({ frames := 6, cells := 1, slots := 6, locals := 100 }) s m args below meth c H locs 0 0 (vx_MQ below (gQi κ B n ad (fun z g' => isBn κ ad g' 186 ∧ frB g g' 186 ∧ ((sd = 0 ∨ sd = 1) ∧ (0 ≤ ho ∧ ho ≤ 20) ∧ (0 ≤ st0 ∧ st0 < v 0) ∧ 0 ≤ wh ∧ wh ≤ 2) ∧ ((wh = 0 ∧ z = (whS v sd ho st0 56).1) ∨ (wh = 1 ∧ z = (whS v sd ho st0 56).2.1) ∨ (wh = 2 ∧ z = (whS v sd ho st0 56).2.2)))) (gXX κ B n ad (fun E g9 => (E = "java/lang/IllegalArgumentException" ∧ (¬ ((sd = 0 ∨ sd = 1) ∧ (0 ≤ ho ∧ ho ≤ 20) ∧ (0 ≤ st0 ∧ st0 < v 0) ∧ 0 ≤ wh ∧ wh ≤ 2)) ∧ g9 = g))) args s 1 6 (gFree B)) (F0 m 60 ls []) := by
              intro k_9
              induction k_9 with
              | zero => intro nu ls9 gs9 w9 t1 t2 t3 t4 gv hm; exact absurd hm (Nat.not_lt_zero _)
              | succ k_9 ih_lp_60_n_10 =>
                intro nu ls9 gs9 w9 t1 t2 t3 t4 gv hm hw0 hgv hnu hls hwh H locs G ls hl
                have hgt : gv (186 + 5) = oL t1 t2 t3 t4 := by rw [hgv]; exact gu_self _ _ _
                have hgo : gv 186 = g 186 := by rw [hgv]; exact gu_ne (by omega)
                have hg0 : gv 0 = g 0 := by rw [hgv]; exact gu_ne (by omega)
                have hpl9 : isPl κ ad gv 2 nl v := by rw [hgv]; exact hpl.out (by omega)
                refine g_iload C dX7_wheels_60 hl 8 rfl ?_
                refine g_bipush (a := 60) C dX7_wheels_62 (by decide) ?_
                refine g_icmp_gt (tgt := 128) C (by omega) (by decide) dX7_wheels_64 (by decide) (fun c_11 => ?_) (fun c_11 => ?_)
                · refine g_iload C dX7_wheels_128 hl 4 rfl ?_
                  refine g_if_ne (tgt := 138) C (by omega) dX7_wheels_130 (by decide) (fun c_12 => ?_) (fun c_12 => ?_)
                  · refine g_iload C dX7_wheels_138 hl 4 rfl ?_
                    refine g_iconst (a := 1) C dX7_wheels_140 rfl ?_
                    refine g_icmp_ne (tgt := 149) C (by omega) (by decide) dX7_wheels_141 (by decide) (fun c_13 => ?_) (fun c_13 => ?_)
                    · refine g_iload C dX7_wheels_149 hl 7 rfl ?_
                      refine vx_ret ?_
                      refine g_iret C G hr hlk (Nat.le_of_ble_eq_true rfl) (Nat.le_of_ble_eq_true rfl) dX7_wheels_151 ?_
                      obtain ⟨hq1, hq2⟩ := bn_tr hbn hgv
                      exact ⟨hq1, hq2, by omega, Or.inr (Or.inr (⟨by omega, by rw [show (56 : Nat) = (w9 - 5).toNat by omega, ← hwh]⟩))⟩
                    · refine g_iload C dX7_wheels_144 hl 6 rfl ?_
                      refine g_goto (tgt := 151) C dX7_wheels_146 (by decide) ?_
                      refine vx_ret ?_
                      refine g_iret C G hr hlk (Nat.le_of_ble_eq_true rfl) (Nat.le_of_ble_eq_true rfl) dX7_wheels_151 ?_
                      obtain ⟨hq1, hq2⟩ := bn_tr hbn hgv
                      exact ⟨hq1, hq2, by omega, Or.inr (Or.inl ⟨by omega, by rw [show (56 : Nat) = (w9 - 5).toNat by omega, ← hwh]⟩)⟩
                  · refine g_iload C dX7_wheels_133 hl 5 rfl ?_
                    refine g_goto (tgt := 151) C dX7_wheels_135 (by decide) ?_
                    refine vx_ret ?_
                    refine g_iret C G hr hlk (Nat.le_of_ble_eq_true rfl) (Nat.le_of_ble_eq_true rfl) dX7_wheels_151 ?_
                    obtain ⟨hq1, hq2⟩ := bn_tr hbn hgv
                    exact ⟨hq1, hq2, by omega, Or.inl ⟨by omega, by rw [show (56 : Nat) = (w9 - 5).toNat by omega, ← hwh]⟩⟩
                · refine g_aload_n C dX7_wheels_67 rfl hl 0 rfl ?_
                  refine g_get C G (pos := 0) fX7_wheels_41 (by omega) (hg0.trans hX.1) rfl dX7_wheels_68 ?_
                  refine g_get C G (pos := 186) fX7_wheels_280 (by omega) (hgo.trans hb0) rfl dX7_wheels_71 ?_
                  refine g_iload C dX7_wheels_74 hl 8 rfl ?_
                  refine g_iload_n C dX7_wheels_76 rfl hl 1 rfl ?_
                  refine g_iload_n C dX7_wheels_77 rfl hl 2 rfl ?_
                  refine g_iload_n C dX7_wheels_78 rfl hl 3 rfl ?_
                  refine g_cv C G (g_runV (As := [.int (iz w9), .int (iz sd), .int (iz ho), .int (iz st0)]) (rest := []) (pos := 186 + 5) C G (c_X3_set l κ B n ad gv (186 + 5) t1 t2 t3 t4 w9 sd ho st0 (by omega) hgt) (cwV 4 C.1.2.2.2.2 gX7_wheels_X3_set rfl rfl rfl (by decide +kernel) ⟨Nat.le_of_ble_eq_true rfl, Nat.le_of_ble_eq_true rfl⟩) (by omega) hgt (T := TX3) (N := 4) rfl rfl hl rfl (Nat.le_of_ble_eq_true rfl) dX7_wheels_79 ⟨Nat.le_of_ble_eq_true rfl, Nat.le_of_ble_eq_true rfl⟩) (fun g9 H locs hw G => ?_)
                  subst hw
                  obtain ⟨g_14, hg_15⟩ : ∃ g9, g9 = va_up gv (186 + 5) (.inr (3, [.int (iz w9), .int (iz sd), .int (iz ho), .int (iz st0)])) := ⟨_, rfl⟩
                  rw [← hg_15] at G
                  have hc_16 : g_14 0 = .inr (7, [.ref (ad 1), .int (iz tl), .ref (ad 2), .ref (ad 12), .ref (ad 22), .ref (ad 164), .ref (ad 165), .ref (ad 186)]) := by rw [hg_15, gu_ne (by omega)]; exact (hg0.trans hX.1)
                  have hc_17 : g_14 186 = .inr (0, [.ref (ad (186 + 1)), .ref (ad (186 + 3)), .ref (ad (186 + 5))]) := by rw [hg_15, gu_ne (by omega)]; exact (hgo.trans hb0)
                  have hc_18 : g_14 (186 + 5) = .inr (3, [.int (iz w9), .int (iz sd), .int (iz ho), .int (iz st0)]) := by rw [hg_15]; exact gu_self _ _ _
                  have hpl_19 : isPl κ ad g_14 2 nl v := by rw [hg_15]; exact hpl9.out (by omega)
                  refine g_aload_n C dX7_wheels_82 rfl hl 0 rfl ?_
                  refine g_get C G (pos := 0) fX7_wheels_16 (by omega) hc_16 rfl dX7_wheels_83 ?_
                  refine g_aload_n C dX7_wheels_86 rfl hl 0 rfl ?_
                  refine g_get C G (pos := 0) fX7_wheels_41 (by omega) hc_16 rfl dX7_wheels_87 ?_
                  refine g_get C G (pos := 186) fX7_wheels_280 (by omega) hc_17 rfl dX7_wheels_90 ?_
                  refine g_ci C G (g_runV (As := [.ref (ad (186 + 5))]) (rest := []) (pos := 2) C G (c_X4_fits l κ B n ad g_14 2 nl v (186 + 5) w9 sd ho st0 (by omega) hpl_19 (by omega) hc_18 ⟨by omega, by omega, by omega⟩ (by omega) hok) (cwV 1 C.1.2.2.2.2 gX7_wheels_X4_fits rfl rfl rfl (by decide +kernel) ⟨Nat.le_of_ble_eq_true rfl, Nat.le_of_ble_eq_true rfl⟩) (by omega) hpl_19.1 (T := TX4) (N := 6) rfl rfl hl rfl (Nat.le_of_ble_eq_true rfl) dX7_wheels_93 ⟨Nat.le_of_ble_eq_true rfl, Nat.le_of_ble_eq_true rfl⟩) (fun z_21 g9 H locs hw G => ?_)
                  obtain ⟨hg9, hw⟩ := hw
                  replace hg9 := hg9.symm
                  subst hg9
                  rcases hw with ⟨b_20, rfl⟩ | ⟨b_20, rfl⟩
                  · refine g_if_eq (tgt := 122) C (by decide) dX7_wheels_96 (by decide) (fun c9 => absurd c9 (by decide)) (fun _ => ?_)
                    refine lv_iinc (v := iz (nu + 1)) (lv' := [(5, .int (iz (nu + 1))), (0, .ref (ad 0)), (1, .int (iz sd)), (2, .int (iz ho)), (3, .int (iz st0)), (4, .int (iz wh)), (6, .int (iz ls9)), (7, .int (iz gs9)), (8, .int (iz w9))]) C.1.1 C.1.2.1 dX7_wheels_99 hl (k := 5) rfl (g_inc (by omega)) (by decide) rfl (fun ls hl => ?_)
                    refine g_iload C dX7_wheels_102 hl 6 rfl ?_
                    refine g_bipush (a := (-9)) C dX7_wheels_104 (by decide) ?_
                    refine g_icmp_ne (tgt := 114) C (by omega) (by omega) dX7_wheels_106 (by decide) (fun c_22 => ?_) (fun c_22 => ?_)
                    · refine g_iload C dX7_wheels_114 hl 6 rfl ?_
                      refine lv_istore (lv' := [(6, .int (iz ls9)), (5, .int (iz (nu + 1))), (0, .ref (ad 0)), (1, .int (iz sd)), (2, .int (iz ho)), (3, .int (iz st0)), (4, .int (iz wh)), (7, .int (iz gs9)), (8, .int (iz w9))]) C.1.1 C.1.2.1 dX7_wheels_116 hl (by decide) rfl (fun ls hl => ?_)
                      refine g_iload C dX7_wheels_118 hl 8 rfl ?_
                      refine lv_istore (lv' := [(7, .int (iz w9)), (6, .int (iz ls9)), (5, .int (iz (nu + 1))), (0, .ref (ad 0)), (1, .int (iz sd)), (2, .int (iz ho)), (3, .int (iz st0)), (4, .int (iz wh)), (8, .int (iz w9))]) C.1.1 C.1.2.1 dX7_wheels_120 hl (by decide) rfl (fun ls hl => ?_)
                      refine lv_iinc (v := iz (w9 + 1)) (lv' := [(8, .int (iz (w9 + 1))), (7, .int (iz w9)), (6, .int (iz ls9)), (5, .int (iz (nu + 1))), (0, .ref (ad 0)), (1, .int (iz sd)), (2, .int (iz ho)), (3, .int (iz st0)), (4, .int (iz wh))]) C.1.1 C.1.2.1 dX7_wheels_122 hl (k := 8) rfl (g_inc (by omega)) (by decide) rfl (fun ls hl => ?_)
                      refine g_goto (tgt := 60) C dX7_wheels_125 (by decide) ?_
                      exact ih_lp_60_n_10 (nu + 1) ls9 w9 (w9 + 1) w9 sd ho st0 g_14 (by omega) (by omega) (by rw [hg_15, hgv, gu_up]) (by omega) (by omega) (by rw [whS_in (by omega) b_20, ← hwh]; first | rw [if_pos (show ls9 = -9 by omega)] | rw [if_neg (show ¬ ls9 = -9 by omega)]) _ _ G _ (lv_sub hl [4, 5, 6, 7, 8, 3, 2, 1, 0] rfl)
                    · refine g_iload C dX7_wheels_109 hl 8 rfl ?_
                      refine g_goto (tgt := 116) C dX7_wheels_111 (by decide) ?_
                      refine lv_istore (lv' := [(6, .int (iz w9)), (5, .int (iz (nu + 1))), (0, .ref (ad 0)), (1, .int (iz sd)), (2, .int (iz ho)), (3, .int (iz st0)), (4, .int (iz wh)), (7, .int (iz gs9)), (8, .int (iz w9))]) C.1.1 C.1.2.1 dX7_wheels_116 hl (by decide) rfl (fun ls hl => ?_)
                      refine g_iload C dX7_wheels_118 hl 8 rfl ?_
                      refine lv_istore (lv' := [(7, .int (iz w9)), (6, .int (iz w9)), (5, .int (iz (nu + 1))), (0, .ref (ad 0)), (1, .int (iz sd)), (2, .int (iz ho)), (3, .int (iz st0)), (4, .int (iz wh)), (8, .int (iz w9))]) C.1.1 C.1.2.1 dX7_wheels_120 hl (by decide) rfl (fun ls hl => ?_)
                      refine lv_iinc (v := iz (w9 + 1)) (lv' := [(8, .int (iz (w9 + 1))), (7, .int (iz w9)), (6, .int (iz w9)), (5, .int (iz (nu + 1))), (0, .ref (ad 0)), (1, .int (iz sd)), (2, .int (iz ho)), (3, .int (iz st0)), (4, .int (iz wh))]) C.1.1 C.1.2.1 dX7_wheels_122 hl (k := 8) rfl (g_inc (by omega)) (by decide) rfl (fun ls hl => ?_)
                      refine g_goto (tgt := 60) C dX7_wheels_125 (by decide) ?_
                      exact ih_lp_60_n_10 (nu + 1) w9 w9 (w9 + 1) w9 sd ho st0 g_14 (by omega) (by omega) (by rw [hg_15, hgv, gu_up]) (by omega) (by omega) (by rw [whS_in (by omega) b_20, ← hwh]; first | rw [if_pos (show ls9 = -9 by omega)] | rw [if_neg (show ¬ ls9 = -9 by omega)]) _ _ G _ (lv_sub hl [4, 5, 6, 7, 8, 3, 2, 1, 0] rfl)
                  · refine g_if_eq (tgt := 122) C (by decide) dX7_wheels_96 (by decide) (fun _ => ?_) (fun c9 => absurd c9 (by decide))
                    refine lv_iinc (v := iz (w9 + 1)) (lv' := [(8, .int (iz (w9 + 1))), (0, .ref (ad 0)), (1, .int (iz sd)), (2, .int (iz ho)), (3, .int (iz st0)), (4, .int (iz wh)), (5, .int (iz nu)), (6, .int (iz ls9)), (7, .int (iz gs9))]) C.1.1 C.1.2.1 dX7_wheels_122 hl (k := 8) rfl (g_inc (by omega)) (by decide) rfl (fun ls hl => ?_)
                    refine g_goto (tgt := 60) C dX7_wheels_125 (by decide) ?_
                    exact ih_lp_60_n_10 nu ls9 gs9 (w9 + 1) w9 sd ho st0 g_14 (by omega) (by omega) (by rw [hg_15, hgv, gu_up]) (by omega) (by omega) (by rw [whS_out (by omega) b_20]; exact hwh) _ _ G _ (lv_sub hl [1, 2, 3, 4, 5, 6, 7, 8, 0] rfl)
            exact lp_60_n_10 _ 0 (-9) (-9) 5 tw9 ts9 th9 tt9 g (Nat.lt_succ_self _) (by omega) (by funext x; by_cases hx : x = 186 + 5 <;> simp [va_up, hx, hb5]) (by omega) (by omega) rfl _ _ G _ (lv_sub hl [4, 5, 6, 7, 8, 3, 2, 1, 0] rfl)
          · refine g_throw C G X hlf hlk hnt hl (cls := "java/lang/IllegalArgumentException") (text := "an argument is out of range") (ik := 45) (is := 239) (ic := 49) (by decide +kernel) (by decide +kernel : Cond.classLink RX7 45 _ ∈ wsX7_wheels) (by decide +kernel : Cond.initialized _ ∈ wsX7_wheels) (by decide +kernel) (by decide +kernel) (by decide +kernel) at_iae (by decide +kernel) dX7_wheels_36 dX7_wheels_39 dX7_wheels_40 dX7_wheels_42 dX7_wheels_45 (Nat.le_of_ble_eq_true rfl) (Nat.le_of_ble_eq_true rfl) (Nat.le_of_ble_eq_true rfl) (Nat.le_of_ble_eq_true rfl) (Nat.le_of_ble_eq_true rfl) (Nat.le_of_ble_eq_true rfl) ?_
            exact ⟨rfl, by omega, rfl⟩
      · refine g_if_eq (tgt := 36) C (by decide) dX7_wheels_22 (by decide) (fun _ => ?_) (fun c9 => absurd c9 (by decide))
        refine g_throw C G X hlf hlk hnt hl (cls := "java/lang/IllegalArgumentException") (text := "an argument is out of range") (ik := 45) (is := 239) (ic := 49) (by decide +kernel) (by decide +kernel : Cond.classLink RX7 45 _ ∈ wsX7_wheels) (by decide +kernel : Cond.initialized _ ∈ wsX7_wheels) (by decide +kernel) (by decide +kernel) (by decide +kernel) at_iae (by decide +kernel) dX7_wheels_36 dX7_wheels_39 dX7_wheels_40 dX7_wheels_42 dX7_wheels_45 (Nat.le_of_ble_eq_true rfl) (Nat.le_of_ble_eq_true rfl) (Nat.le_of_ble_eq_true rfl) (Nat.le_of_ble_eq_true rfl) (Nat.le_of_ble_eq_true rfl) (Nat.le_of_ble_eq_true rfl) ?_
        exact ⟨rfl, by omega, rfl⟩
    · refine g_if_eq (tgt := 36) C (by decide) dX7_wheels_11 (by decide) (fun _ => ?_) (fun c9 => absurd c9 (by decide))
      refine g_throw C G X hlf hlk hnt hl (cls := "java/lang/IllegalArgumentException") (text := "an argument is out of range") (ik := 45) (is := 239) (ic := 49) (by decide +kernel) (by decide +kernel : Cond.classLink RX7 45 _ ∈ wsX7_wheels) (by decide +kernel : Cond.initialized _ ∈ wsX7_wheels) (by decide +kernel) (by decide +kernel) (by decide +kernel) at_iae (by decide +kernel) dX7_wheels_36 dX7_wheels_39 dX7_wheels_40 dX7_wheels_42 dX7_wheels_45 (Nat.le_of_ble_eq_true rfl) (Nat.le_of_ble_eq_true rfl) (Nat.le_of_ble_eq_true rfl) (Nat.le_of_ble_eq_true rfl) (Nat.le_of_ble_eq_true rfl) (Nat.le_of_ble_eq_true rfl) ?_
      exact ⟨rfl, by omega, rfl⟩
  · refine g_if_eq (tgt := 36) C (by decide) dX7_wheels_4 (by decide) (fun _ => ?_) (fun c9 => absurd c9 (by decide))
    refine g_throw C G X hlf hlk hnt hl (cls := "java/lang/IllegalArgumentException") (text := "an argument is out of range") (ik := 45) (is := 239) (ic := 49) (by decide +kernel) (by decide +kernel : Cond.classLink RX7 45 _ ∈ wsX7_wheels) (by decide +kernel : Cond.initialized _ ∈ wsX7_wheels) (by decide +kernel) (by decide +kernel) (by decide +kernel) at_iae (by decide +kernel) dX7_wheels_36 dX7_wheels_39 dX7_wheels_40 dX7_wheels_42 dX7_wheels_45 (Nat.le_of_ble_eq_true rfl) (Nat.le_of_ble_eq_true rfl) (Nat.le_of_ble_eq_true rfl) (Nat.le_of_ble_eq_true rfl) (Nat.le_of_ble_eq_true rfl) (Nat.le_of_ble_eq_true rfl) ?_
    exact ⟨rfl, by omega, rfl⟩
