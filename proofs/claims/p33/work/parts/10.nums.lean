set_option maxHeartbeats 4000000 in
set_option maxRecDepth 100000 in
theorem c_X7_isRing (l : Launch) (κ : gKap) (B n : Nat) (ad : Nat → Nat) (g : Nat → va_E) (t : Int) (ht : inI t) : Met l yX7_isRing wsX7_isRing ({ frames := 0, cells := 0, slots := 0, locals := 0 }) (gPre κ B n ad g [.int (iz t)]) (gQi κ B n ad (fun z g' => g' = g ∧ (((12 ≤ t ∧ t ≤ 96) ∧ z = 1) ∨ (¬ (12 ≤ t ∧ t ≤ 96) ∧ z = 0)))) 0 0 (gFree B) := by
  refine g_met RX7 (cc := cX7_isRing) (maxL := 1) (ret := (some .boolean)) (by decide) rfl rfl (Nat.le_of_ble_eq_true rfl) ?_
  intro p e s m args below meth c C hr hlk hnm G ls hl
  have hl : lv_has ls 1 [(0, .int (iz t))] := hl
  refine g_iload_n C dX7_isRing_0 rfl hl 0 rfl ?_
  refine g_bipush (a := 12) C dX7_isRing_1 (by decide) ?_
  refine g_icmp_lt (tgt := 16) C (by omega) (by decide) dX7_isRing_3 (by decide) (fun c_1 => ?_) (fun c_1 => ?_)
  · refine g_iconst (a := 0) C dX7_isRing_16 rfl ?_
    refine g_zret C G hr hlk (by decide) (Nat.le_of_ble_eq_true rfl) (Nat.le_of_ble_eq_true rfl) dX7_isRing_17 ?_
    exact ⟨rfl, by omega⟩
  · refine g_iload_n C dX7_isRing_6 rfl hl 0 rfl ?_
    refine g_bipush (a := 96) C dX7_isRing_7 (by decide) ?_
    refine g_icmp_gt (tgt := 16) C (by omega) (by decide) dX7_isRing_9 (by decide) (fun c_2 => ?_) (fun c_2 => ?_)
    · refine g_iconst (a := 0) C dX7_isRing_16 rfl ?_
      refine g_zret C G hr hlk (by decide) (Nat.le_of_ble_eq_true rfl) (Nat.le_of_ble_eq_true rfl) dX7_isRing_17 ?_
      exact ⟨rfl, by omega⟩
    · refine g_iconst (a := 1) C dX7_isRing_12 rfl ?_
      refine g_goto (tgt := 17) C dX7_isRing_13 (by decide) ?_
      refine g_zret C G hr hlk (by decide) (Nat.le_of_ble_eq_true rfl) (Nat.le_of_ble_eq_true rfl) dX7_isRing_17 ?_
      exact ⟨rfl, by omega⟩
set_option maxHeartbeats 4000000 in
set_option maxRecDepth 100000 in
theorem c_X7_isWheel (l : Launch) (κ : gKap) (B n : Nat) (ad : Nat → Nat) (g : Nat → va_E) (t : Int) (ht : inI t) : Met l yX7_isWheel wsX7_isWheel ({ frames := 0, cells := 0, slots := 0, locals := 0 }) (gPre κ B n ad g [.int (iz t)]) (gQi κ B n ad (fun z g' => g' = g ∧ (((5 ≤ t ∧ t ≤ 60) ∧ z = 1) ∨ (¬ (5 ≤ t ∧ t ≤ 60) ∧ z = 0)))) 0 0 (gFree B) := by
  refine g_met RX7 (cc := cX7_isWheel) (maxL := 1) (ret := (some .boolean)) (by decide) rfl rfl (Nat.le_of_ble_eq_true rfl) ?_
  intro p e s m args below meth c C hr hlk hnm G ls hl
  have hl : lv_has ls 1 [(0, .int (iz t))] := hl
  refine g_iload_n C dX7_isWheel_0 rfl hl 0 rfl ?_
  refine g_iconst (a := 5) C dX7_isWheel_1 rfl ?_
  refine g_icmp_lt (tgt := 15) C (by omega) (by decide) dX7_isWheel_2 (by decide) (fun c_1 => ?_) (fun c_1 => ?_)
  · refine g_iconst (a := 0) C dX7_isWheel_15 rfl ?_
    refine g_zret C G hr hlk (by decide) (Nat.le_of_ble_eq_true rfl) (Nat.le_of_ble_eq_true rfl) dX7_isWheel_16 ?_
    exact ⟨rfl, by omega⟩
  · refine g_iload_n C dX7_isWheel_5 rfl hl 0 rfl ?_
    refine g_bipush (a := 60) C dX7_isWheel_6 (by decide) ?_
    refine g_icmp_gt (tgt := 15) C (by omega) (by decide) dX7_isWheel_8 (by decide) (fun c_2 => ?_) (fun c_2 => ?_)
    · refine g_iconst (a := 0) C dX7_isWheel_15 rfl ?_
      refine g_zret C G hr hlk (by decide) (Nat.le_of_ble_eq_true rfl) (Nat.le_of_ble_eq_true rfl) dX7_isWheel_16 ?_
      exact ⟨rfl, by omega⟩
    · refine g_iconst (a := 1) C dX7_isWheel_11 rfl ?_
      refine g_goto (tgt := 16) C dX7_isWheel_12 (by decide) ?_
      refine g_zret C G hr hlk (by decide) (Nat.le_of_ble_eq_true rfl) (Nat.le_of_ble_eq_true rfl) dX7_isWheel_16 ?_
      exact ⟨rfl, by omega⟩
set_option maxHeartbeats 4000000 in
set_option maxRecDepth 100000 in
theorem c_X7_isHole (l : Launch) (κ : gKap) (B n : Nat) (ad : Nat → Nat) (g : Nat → va_E) (t : Int) (ht : inI t) : Met l yX7_isHole wsX7_isHole ({ frames := 0, cells := 0, slots := 0, locals := 0 }) (gPre κ B n ad g [.int (iz t)]) (gQi κ B n ad (fun z g' => g' = g ∧ (((0 ≤ t ∧ t ≤ 20) ∧ z = 1) ∨ (¬ (0 ≤ t ∧ t ≤ 20) ∧ z = 0)))) 0 0 (gFree B) := by
  refine g_met RX7 (cc := cX7_isHole) (maxL := 1) (ret := (some .boolean)) (by decide) rfl rfl (Nat.le_of_ble_eq_true rfl) ?_
  intro p e s m args below meth c C hr hlk hnm G ls hl
  have hl : lv_has ls 1 [(0, .int (iz t))] := hl
  refine g_iload_n C dX7_isHole_0 rfl hl 0 rfl ?_
  refine g_if_lt (tgt := 14) C (by omega) dX7_isHole_1 (by decide) (fun c_1 => ?_) (fun c_1 => ?_)
  · refine g_iconst (a := 0) C dX7_isHole_14 rfl ?_
    refine g_zret C G hr hlk (by decide) (Nat.le_of_ble_eq_true rfl) (Nat.le_of_ble_eq_true rfl) dX7_isHole_15 ?_
    exact ⟨rfl, by omega⟩
  · refine g_iload_n C dX7_isHole_4 rfl hl 0 rfl ?_
    refine g_bipush (a := 20) C dX7_isHole_5 (by decide) ?_
    refine g_icmp_gt (tgt := 14) C (by omega) (by decide) dX7_isHole_7 (by decide) (fun c_2 => ?_) (fun c_2 => ?_)
    · refine g_iconst (a := 0) C dX7_isHole_14 rfl ?_
      refine g_zret C G hr hlk (by decide) (Nat.le_of_ble_eq_true rfl) (Nat.le_of_ble_eq_true rfl) dX7_isHole_15 ?_
      exact ⟨rfl, by omega⟩
    · refine g_iconst (a := 1) C dX7_isHole_10 rfl ?_
      refine g_goto (tgt := 15) C dX7_isHole_11 (by decide) ?_
      refine g_zret C G hr hlk (by decide) (Nat.le_of_ble_eq_true rfl) (Nat.le_of_ble_eq_true rfl) dX7_isHole_15 ?_
      exact ⟨rfl, by omega⟩
set_option maxHeartbeats 4000000 in
set_option maxRecDepth 100000 in
theorem c_X7_isRadius (l : Launch) (κ : gKap) (B n : Nat) (ad : Nat → Nat) (g : Nat → va_E) (t : Int) (ht : inI t) : Met l yX7_isRadius wsX7_isRadius ({ frames := 0, cells := 0, slots := 0, locals := 0 }) (gPre κ B n ad g [.int (iz t)]) (gQi κ B n ad (fun z g' => g' = g ∧ (((0 ≤ t ∧ t ≤ 300) ∧ z = 1) ∨ (¬ (0 ≤ t ∧ t ≤ 300) ∧ z = 0)))) 0 0 (gFree B) := by
  refine g_met RX7 (cc := cX7_isRadius) (maxL := 1) (ret := (some .boolean)) (by decide) rfl rfl (Nat.le_of_ble_eq_true rfl) ?_
  intro p e s m args below meth c C hr hlk hnm G ls hl
  have hl : lv_has ls 1 [(0, .int (iz t))] := hl
  refine g_iload_n C dX7_isRadius_0 rfl hl 0 rfl ?_
  refine g_if_lt (tgt := 15) C (by omega) dX7_isRadius_1 (by decide) (fun c_1 => ?_) (fun c_1 => ?_)
  · refine g_iconst (a := 0) C dX7_isRadius_15 rfl ?_
    refine g_zret C G hr hlk (by decide) (Nat.le_of_ble_eq_true rfl) (Nat.le_of_ble_eq_true rfl) dX7_isRadius_16 ?_
    exact ⟨rfl, by omega⟩
  · refine g_iload_n C dX7_isRadius_4 rfl hl 0 rfl ?_
    refine g_sipush (a := 300) C dX7_isRadius_5 (by decide) ?_
    refine g_icmp_gt (tgt := 15) C (by omega) (by decide) dX7_isRadius_8 (by decide) (fun c_2 => ?_) (fun c_2 => ?_)
    · refine g_iconst (a := 0) C dX7_isRadius_15 rfl ?_
      refine g_zret C G hr hlk (by decide) (Nat.le_of_ble_eq_true rfl) (Nat.le_of_ble_eq_true rfl) dX7_isRadius_16 ?_
      exact ⟨rfl, by omega⟩
    · refine g_iconst (a := 1) C dX7_isRadius_11 rfl ?_
      refine g_goto (tgt := 16) C dX7_isRadius_12 (by decide) ?_
      refine g_zret C G hr hlk (by decide) (Nat.le_of_ble_eq_true rfl) (Nat.le_of_ble_eq_true rfl) dX7_isRadius_16 ?_
      exact ⟨rfl, by omega⟩
set_option maxHeartbeats 4000000 in
set_option maxRecDepth 100000 in
theorem c_X7_isSide (l : Launch) (κ : gKap) (B n : Nat) (ad : Nat → Nat) (g : Nat → va_E) (t : Int) (ht : inI t) : Met l yX7_isSide wsX7_isSide ({ frames := 0, cells := 0, slots := 0, locals := 0 }) (gPre κ B n ad g [.int (iz t)]) (gQi κ B n ad (fun z g' => g' = g ∧ (((t = 0 ∨ t = 1) ∧ z = 1) ∨ (¬ (t = 0 ∨ t = 1) ∧ z = 0)))) 0 0 (gFree B) := by
  refine g_met RX7 (cc := cX7_isSide) (maxL := 1) (ret := (some .boolean)) (by decide) rfl rfl (Nat.le_of_ble_eq_true rfl) ?_
  intro p e s m args below meth c C hr hlk hnm G ls hl
  have hl : lv_has ls 1 [(0, .int (iz t))] := hl
  refine g_iload_n C dX7_isSide_0 rfl hl 0 rfl ?_
  refine g_if_eq (tgt := 9) C (by omega) dX7_isSide_1 (by decide) (fun c_1 => ?_) (fun c_1 => ?_)
  · refine g_iconst (a := 1) C dX7_isSide_9 rfl ?_
    refine g_goto (tgt := 14) C dX7_isSide_10 (by decide) ?_
    refine g_zret C G hr hlk (by decide) (Nat.le_of_ble_eq_true rfl) (Nat.le_of_ble_eq_true rfl) dX7_isSide_14 ?_
    exact ⟨rfl, by omega⟩
  · refine g_iload_n C dX7_isSide_4 rfl hl 0 rfl ?_
    refine g_iconst (a := 1) C dX7_isSide_5 rfl ?_
    refine g_icmp_ne (tgt := 13) C (by omega) (by decide) dX7_isSide_6 (by decide) (fun c_2 => ?_) (fun c_2 => ?_)
    · refine g_iconst (a := 0) C dX7_isSide_13 rfl ?_
      refine g_zret C G hr hlk (by decide) (Nat.le_of_ble_eq_true rfl) (Nat.le_of_ble_eq_true rfl) dX7_isSide_14 ?_
      exact ⟨rfl, by omega⟩
    · refine g_iconst (a := 1) C dX7_isSide_9 rfl ?_
      refine g_goto (tgt := 14) C dX7_isSide_10 (by decide) ?_
      refine g_zret C G hr hlk (by decide) (Nat.le_of_ble_eq_true rfl) (Nat.le_of_ble_eq_true rfl) dX7_isSide_14 ?_
      exact ⟨rfl, by omega⟩
set_option maxHeartbeats 4000000 in
set_option maxRecDepth 100000 in
theorem c_X7_quotient (l : Launch) (κ : gKap) (B n : Nat) (ad : Nat → Nat) (g : Nat → va_E) (a : Int) (b : Int) (ha : inJ a) (hb : inJ b) (hb0 : 0 < b) : Met l yX7_quotient wsX7_quotient ({ frames := 0, cells := 0, slots := 0, locals := 0 }) (gPre κ B n ad g [.long (jz a), .long (jz b)]) (gQl κ B n ad (fun z g' => g' = g ∧ (z = Int.tdiv a b))) 0 0 (gFree B) := by
  refine g_met RX7 (cc := cX7_quotient) (maxL := 4) (ret := (some .long)) (by decide) rfl rfl (Nat.le_of_ble_eq_true rfl) ?_
  intro p e s m args below meth c C hr hlk hnm G ls hl
  have hl : lv_has ls 4 [(0, .long (jz a)), (2, .long (jz b))] := hl
  refine g_lload_n C dX7_quotient_0 rfl hl 1 rfl ?_
  refine g_lconst (a := 0) C dX7_quotient_1 (by decide) ?_
  refine g_lcmp C (by omega) (by decide) dX7_quotient_2 (fun z_1 h_2 => ?_)
  refine g_if_le (tgt := 12) C (by omega) dX7_quotient_3 (by decide) (fun c_3 => ?_) (fun c_3 => ?_)
  · refine g_lconst (a := 0) C dX7_quotient_12 (by decide) ?_
    refine g_lret C G hr hlk (Nat.le_of_ble_eq_true rfl) (Nat.le_of_ble_eq_true rfl) dX7_quotient_13 ?_
    omega
  · refine g_lload_n C dX7_quotient_6 rfl hl 0 rfl ?_
    refine g_lload_n C dX7_quotient_7 rfl hl 1 rfl ?_
    refine g_ldiv C (by omega) (by omega) (by omega) dX7_quotient_8 ?_
    refine g_goto (tgt := 13) C dX7_quotient_9 (by decide) ?_
    refine g_lret C G hr hlk (Nat.le_of_ble_eq_true rfl) (Nat.le_of_ble_eq_true rfl) dX7_quotient_13 ?_
    exact ⟨rfl, rfl⟩
set_option maxHeartbeats 4000000 in
set_option maxRecDepth 100000 in
theorem c_X7_remainder (l : Launch) (κ : gKap) (B n : Nat) (ad : Nat → Nat) (g : Nat → va_E) (a : Int) (b : Int) (ha : inJ a) (ha0 : 0 ≤ a) (hb : inI b) (hb0 : 0 < b) : Met l yX7_remainder wsX7_remainder ({ frames := 0, cells := 0, slots := 0, locals := 0 }) (gPre κ B n ad g [.long (jz a), .int (iz b)]) (gQi κ B n ad (fun z g' => g' = g ∧ (0 ≤ z ∧ z < b ∧ z = a % b))) 0 0 (gFree B) := by
  refine g_met RX7 (cc := cX7_remainder) (maxL := 3) (ret := (some .int)) (by decide) rfl rfl (Nat.le_of_ble_eq_true rfl) ?_
  intro p e s m args below meth c C hr hlk hnm G ls hl
  have hl : lv_has ls 3 [(0, .long (jz a)), (2, .int (iz b))] := hl
  refine g_iload_n C dX7_remainder_0 rfl hl 1 rfl ?_
  refine g_if_le (tgt := 12) C (by omega) dX7_remainder_1 (by decide) (fun c_1 => ?_) (fun c_1 => ?_)
  · refine g_iconst (a := 0) C dX7_remainder_12 rfl ?_
    refine g_iret C G hr hlk (Nat.le_of_ble_eq_true rfl) (Nat.le_of_ble_eq_true rfl) dX7_remainder_13 ?_
    omega
  · refine g_lload_n C dX7_remainder_4 rfl hl 0 rfl ?_
    refine g_iload_n C dX7_remainder_5 rfl hl 1 rfl ?_
    refine g_i2l C (by omega) dX7_remainder_6 ?_
    refine g_lrem C (by omega) (by omega) (by omega) dX7_remainder_7 ?_
    refine g_l2i C dX7_remainder_8 ?_
    refine g_goto (tgt := 13) C dX7_remainder_9 (by decide) ?_
    refine g_iret C G hr hlk (Nat.le_of_ble_eq_true rfl) (Nat.le_of_ble_eq_true rfl) dX7_remainder_13 ?_
    rw [tmod_pos ha0]
    exact ⟨rfl, Int.emod_nonneg _ (by omega), Int.emod_lt_of_pos _ hb0, rfl⟩
-- Euclid
set_option maxHeartbeats 4000000 in
set_option maxRecDepth 100000 in
theorem c_X7_commonDivisor (l : Launch) (κ : gKap) (B n : Nat) (ad : Nat → Nat) (g : Nat → va_E) (a : Int) (b : Int) (ha0 : 0 < a) (ha : a ≤ 562949953421312) (hb0 : 0 ≤ b) (hb : b ≤ 562949953421312) : Met l yX7_commonDivisor wsX7_commonDivisor ({ frames := 0, cells := 0, slots := 0, locals := 0 }) (gPre κ B n ad g [.long (jz a), .long (jz b)]) (gQl κ B n ad (fun z g' => g' = g ∧ (0 < z ∧ z = gd a b))) 0 0 (gFree B) := by
  refine g_met RX7 (cc := cX7_commonDivisor) (maxL := 11) (ret := (some .long)) (by decide) rfl rfl (Nat.le_of_ble_eq_true rfl) ?_
  intro p e s m args below meth c C hr hlk hnm G ls hl
  have hl : lv_has ls 11 [(0, .long (jz a)), (2, .long (jz b))] := hl
  have hab := ed_prod (by omega) ha hb0 hb
  refine g_lload_n C dX7_commonDivisor_0 rfl hl 0 rfl ?_
  refine lv_lstore (lv' := [(4, .long (jz a)), (0, .long (jz a)), (2, .long (jz b))]) C.1.1 C.1.2.1 dX7_commonDivisor_1 hl (by decide) rfl (fun ls hl => ?_)
  refine g_lload_n C dX7_commonDivisor_3 rfl hl 2 rfl ?_
  refine lv_lstore (lv' := [(6, .long (jz b)), (4, .long (jz a)), (0, .long (jz a)), (2, .long (jz b))]) C.1.1 C.1.2.1 dX7_commonDivisor_4 hl (by decide) rfl (fun ls hl => ?_)
  refine g_iconst (a := 0) C dX7_commonDivisor_6 rfl ?_
  refine lv_istore (lv' := [(8, .int (iz 0)), (6, .long (jz b)), (4, .long (jz a)), (0, .long (jz a)), (2, .long (jz b))]) C.1.1 C.1.2.1 dX7_commonDivisor_7 hl (by decide) rfl (fun ls hl => ?_)
  have lp_9_n_2 : ∀ (k_1 : Nat) (x : Int) (y : Int) (r : Int), (100 - r).toNat < k_1 → (0 ≤ r) → (r ≤ 100) → (0 < x) → (x ≤ 562949953421312) → (0 ≤ y) → (y ≤ 562949953421312) → (Int.gcd x y = Int.gcd a b) → (x * y < 2 ^ (100 - r).toNat) → (0 < r → y < x) → (r = 0 → x * y < 2 ^ 99) → ∀ (H : Heap) (locs : List Loc), gG κ B n ad s g H locs → ∀ (ls : Array Slot), lv_has ls 11 [(0, .long (jz a)), (2, .long (jz b)), (4, .long (jz x)), (6, .long (jz y)), (8, .int (iz r))] → W p l e ({ frames := 0, cells := 0, slots := 0, locals := 0 }) s m args below meth c H locs 0 0 (MQ below (gQl κ B n ad (fun z g' => g' = g ∧ (0 < z ∧ z = gd a b))) args s 0 0 (gFree B)) (F0 m 9 ls []) := by
    intro k_1
    induction k_1 with
    | zero => intro x y r hm; exact absurd hm (Nat.not_lt_zero _)
    | succ k_1 ih_lp_9_n_2 =>
      intro x y r hm hr0 hr1 hx0 hx1 hy0 hy1 hg h1 h2 h3 H locs G ls hl
      refine g_iload C dX7_commonDivisor_9 hl 4 rfl ?_
      refine g_bipush (a := 100) C dX7_commonDivisor_11 (by decide) ?_
      refine g_icmp_ge (tgt := 44) C (by omega) (by decide) dX7_commonDivisor_13 (by decide) (fun c_3 => ?_) (fun c_3 => ?_)
      · refine g_lload C dX7_commonDivisor_44 hl 2 rfl ?_
        refine g_lret C G hr hlk (Nat.le_of_ble_eq_true rfl) (Nat.le_of_ble_eq_true rfl) dX7_commonDivisor_46 ?_
        have hy00 : y = 0 := by
          by_cases hq : r = 100
          · subst hq
            exact ed_end hx0 hy0 h1
          · omega
        subst hy00
        exact ⟨rfl, hx0, ed_gcd (by omega) hg⟩
      · refine g_lload C dX7_commonDivisor_16 hl 3 rfl ?_
        refine g_lconst (a := 0) C dX7_commonDivisor_18 (by decide) ?_
        refine g_lcmp C (by omega) (by decide) dX7_commonDivisor_19 (fun z_4 h_5 => ?_)
        refine g_if_le (tgt := 44) C (by omega) dX7_commonDivisor_20 (by decide) (fun c_6 => ?_) (fun c_6 => ?_)
        · refine g_lload C dX7_commonDivisor_44 hl 2 rfl ?_
          refine g_lret C G hr hlk (Nat.le_of_ble_eq_true rfl) (Nat.le_of_ble_eq_true rfl) dX7_commonDivisor_46 ?_
          have hy00 : y = 0 := by
            by_cases hq : r = 100
            · subst hq
              exact ed_end hx0 hy0 h1
            · omega
          subst hy00
          exact ⟨rfl, hx0, ed_gcd (by omega) hg⟩
        · refine g_lload C dX7_commonDivisor_23 hl 2 rfl ?_
          refine g_lload C dX7_commonDivisor_25 hl 3 rfl ?_
          refine g_lrem C (by omega) (by omega) (by omega) dX7_commonDivisor_27 ?_
          obtain ⟨rm_7, hrm_8⟩ : ∃ q9 : Int, 0 ≤ q9 ∧ q9 < y ∧ q9 = x % y := ⟨_, Int.emod_nonneg _ (by omega), Int.emod_lt_of_pos _ (by omega), rfl⟩
          rw [show Int.tmod x y = rm_7 from by rw [hrm_8.2.2]; exact tmod_pos (by omega)]
          refine lv_lstore (lv' := [(9, .long (jz rm_7)), (0, .long (jz a)), (2, .long (jz b)), (4, .long (jz x)), (6, .long (jz y)), (8, .int (iz r))]) C.1.1 C.1.2.1 dX7_commonDivisor_28 hl (by decide) rfl (fun ls hl => ?_)
          refine g_lload C dX7_commonDivisor_30 hl 4 rfl ?_
          refine lv_lstore (lv' := [(4, .long (jz y)), (9, .long (jz rm_7)), (0, .long (jz a)), (2, .long (jz b)), (6, .long (jz y)), (8, .int (iz r))]) C.1.1 C.1.2.1 dX7_commonDivisor_32 hl (by decide) rfl (fun ls hl => ?_)
          refine g_lload C dX7_commonDivisor_34 hl 1 rfl ?_
          refine lv_lstore (lv' := [(6, .long (jz rm_7)), (4, .long (jz y)), (9, .long (jz rm_7)), (0, .long (jz a)), (2, .long (jz b)), (8, .int (iz r))]) C.1.1 C.1.2.1 dX7_commonDivisor_36 hl (by decide) rfl (fun ls hl => ?_)
          refine lv_iinc (v := iz (r + 1)) (lv' := [(8, .int (iz (r + 1))), (6, .long (jz rm_7)), (4, .long (jz y)), (9, .long (jz rm_7)), (0, .long (jz a)), (2, .long (jz b))]) C.1.1 C.1.2.1 dX7_commonDivisor_38 hl (k := 5) rfl (g_inc (by omega)) (by decide) rfl (fun ls hl => ?_)
          refine g_goto (tgt := 9) C dX7_commonDivisor_41 (by decide) ?_
          exact ih_lp_9_n_2 y rm_7 (r + 1) (by omega) (by omega) (by omega) (by omega) (by omega) (by omega) (by omega) (by rw [hrm_8.2.2, eu_gcd (by omega) (by omega), hg]) (by rw [hrm_8.2.2]; exact eu_prod hx0 (by omega) hr0 (by omega) h1 h2 h3) (fun _ => by omega) (fun q => absurd q (by omega)) _ _ G _ (lv_sub hl [4, 5, 2, 1, 0] rfl)
  exact lp_9_n_2 _ a b 0 (Nat.lt_succ_self _) (by omega) (by omega) (by omega) (by omega) (by omega) (by omega) rfl (ed_ini hab) (fun q => absurd q (by omega)) (fun _ => hab) _ _ G _ (lv_sub hl [3, 4, 2, 1, 0] rfl)
set_option maxHeartbeats 4000000 in
set_option maxRecDepth 100000 in
theorem c_X7_commonMultiple (l : Launch) (κ : gKap) (B n : Nat) (ad : Nat → Nat) (g : Nat → va_E) (a : Int) (b : Int) (ha0 : 0 < a) (ha : a ≤ 562949953421312) (hb0 : 0 < b) (hb : b ≤ 562949953421312) : Met l yX7_commonMultiple wsX7_commonMultiple ({ frames := 1, cells := 0, slots := 0, locals := 30 }) (gPre κ B n ad g [.long (jz a), .long (jz b)]) (gQl κ B n ad (fun z g' => g' = g ∧ (z = a / gd a b * b))) 0 0 (gFree B) := by
  refine g_met RX7 (cc := cX7_commonMultiple) (maxL := 4) (ret := (some .long)) (by decide) rfl rfl (Nat.le_of_ble_eq_true rfl) ?_
  intro p e s m args below meth c C hr hlk hnm G ls hl
  have hl : lv_has ls 4 [(0, .long (jz a)), (2, .long (jz b))] := hl
  have hgle := gd_le (b := b) ha0
  refine g_lload_n C dX7_commonMultiple_0 rfl hl 0 rfl ?_
  refine g_lload_n C dX7_commonMultiple_1 rfl hl 0 rfl ?_
  refine g_lload_n C dX7_commonMultiple_2 rfl hl 1 rfl ?_
  refine g_cl C G (g_runS (As := [.long (jz a), .long (jz b)]) (rest := [.long (jz a)]) C G (c_X7_commonDivisor l κ B n ad g a b (by omega) (by omega) (by omega) (by omega)) (va_cwS 2 C.1.2.2.2.2 gX7_commonMultiple_X7_commonDivisor rfl rfl rfl (by decide +kernel) ⟨Nat.le_of_ble_eq_true rfl, Nat.le_of_ble_eq_true rfl⟩) rfl hl rfl (Nat.le_of_ble_eq_true rfl) dX7_commonMultiple_3 ⟨Nat.le_of_ble_eq_true rfl, Nat.le_of_ble_eq_true rfl⟩) (fun z_1 g9 H locs hw G => ?_)
  obtain ⟨hg9, h_2⟩ := hw
  replace hg9 := hg9.symm
  subst hg9
  refine g_cl C G (g_runS (As := [.long (jz a), .long (jz z_1)]) (rest := []) C G (c_X7_quotient l κ B n ad g a z_1 (by omega) (by omega) (by omega)) (va_cwS 2 C.1.2.2.2.2 gX7_commonMultiple_X7_quotient rfl rfl rfl (by decide +kernel) ⟨Nat.le_of_ble_eq_true rfl, Nat.le_of_ble_eq_true rfl⟩) rfl hl rfl (Nat.le_of_ble_eq_true rfl) dX7_commonMultiple_6 ⟨Nat.le_of_ble_eq_true rfl, Nat.le_of_ble_eq_true rfl⟩) (fun z_3 g9 H locs hw G => ?_)
  obtain ⟨hg9, h_4⟩ := hw
  replace hg9 := hg9.symm
  subst hg9
  refine g_lload_n C dX7_commonMultiple_9 rfl hl 1 rfl ?_
  refine g_lmul C dX7_commonMultiple_10 ?_
  refine g_lret C G hr hlk (Nat.le_of_ble_eq_true rfl) (Nat.le_of_ble_eq_true rfl) dX7_commonMultiple_11 ?_
  exact ⟨rfl, by rw [h_4, h_2.2, tdiv_pos (by omega)]⟩
