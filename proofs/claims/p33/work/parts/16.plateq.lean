theorem fX4_find_33 : gFld wsX4_find RX4 33 4 1 := ⟨RX4, TX4, 6, rfl, by decide, by decide +kernel, by decide +kernel⟩
theorem fX4_find_17 : gFld wsX4_find RX4 17 4 3 := ⟨RX4, TX4, 6, rfl, by decide, by decide +kernel, by decide +kernel⟩
set_option maxHeartbeats 4000000 in
set_option maxRecDepth 100000 in
theorem c_X4_find (l : Launch) (κ : gKap) (B n : Nat) (ad : Nat → Nat) (g : Nat → va_E) (po : Nat) (nl : Int) (v : Int → Int) (li : Int) (hpn : po + 10 ≤ n) (hpl : isPl κ ad g po nl v) (hl9 : inI li) (hn6 : 0 ≤ nl ∧ nl ≤ 6) : Met l yX4_find wsX4_find ({ frames := 0, cells := 0, slots := 0, locals := 0 }) (gPre κ B n ad g [.ref (ad po), .int (iz li)]) (gQo κ B n ad (fun o g' => g' = g ∧ (((0 ≤ li ∧ li < nl) ∧ o = some (po + 2 + (li).toNat)) ∨ (¬ (0 ≤ li ∧ li < nl) ∧ o = none)))) 0 0 (gFree B) := by
  refine g_met RX4 (cc := cX4_find) (maxL := 2) (ret := (some (.object "RosettePlate$Layer"))) (by decide) rfl rfl (Nat.le_of_ble_eq_true rfl) ?_
  intro p e s m args below meth c C hr hlk hnm G ls hl
  have hl : lv_has ls 2 [(0, .ref (ad po)), (1, .int (iz li))] := hl
  refine g_iload_n C dX4_find_0 rfl hl 1 rfl ?_
  refine g_if_lt (tgt := 30) C (by omega) dX4_find_1 (by decide) (fun c_1 => ?_) (fun c_1 => ?_)
  · refine lv_null C.1.1 C.1.2.1 dX4_find_30 ?_
    refine g_aretN C G hr hlk (Nat.le_of_ble_eq_true rfl) (Nat.le_of_ble_eq_true rfl) dX4_find_31 ?_
    exact ⟨rfl, Or.inr ⟨by omega, rfl⟩⟩
  · refine g_iload_n C dX4_find_4 rfl hl 1 rfl ?_
    refine g_aload_n C dX4_find_5 rfl hl 0 rfl ?_
    refine g_get C G (pos := po) fX4_find_33 (by omega) hpl.1 rfl dX4_find_6 ?_
    refine g_icmp_ge (tgt := 30) C (by omega) (by omega) dX4_find_9 (by decide) (fun c_2 => ?_) (fun c_2 => ?_)
    · refine lv_null C.1.1 C.1.2.1 dX4_find_30 ?_
      refine g_aretN C G hr hlk (Nat.le_of_ble_eq_true rfl) (Nat.le_of_ble_eq_true rfl) dX4_find_31 ?_
      exact ⟨rfl, Or.inr ⟨by omega, rfl⟩⟩
    · refine g_iload_n C dX4_find_12 rfl hl 1 rfl ?_
      refine g_aload_n C dX4_find_13 rfl hl 0 rfl ?_
      refine g_get C G (pos := po) fX4_find_17 (by omega) hpl.1 rfl dX4_find_14 ?_
      refine g_alenL C G (pos := po + 1) (by omega) hpl.2.1 dX4_find_17 ?_
      show W p l e _ s m args below meth c _ _ _ _ _ (F0 m _ ls (.int (iz 6) :: _))
      refine g_icmp_ge (tgt := 30) C (by omega) (by decide) dX4_find_18 (by decide) (fun c_3 => ?_) (fun c_3 => ?_)
      · refine lv_null C.1.1 C.1.2.1 dX4_find_30 ?_
        refine g_aretN C G hr hlk (Nat.le_of_ble_eq_true rfl) (Nat.le_of_ble_eq_true rfl) dX4_find_31 ?_
        exact ⟨rfl, Or.inr ⟨by omega, rfl⟩⟩
      · refine g_aload_n C dX4_find_21 rfl hl 0 rfl ?_
        refine g_get C G (pos := po) fX4_find_17 (by omega) hpl.1 rfl dX4_find_22 ?_
        refine g_iload_n C dX4_find_25 rfl hl 1 rfl ?_
        refine g_aaloadL C G (pos := po + 1) (by omega) hpl.2.1 (by omega) (by omega) (by omega) (if_pos (by omega)) dX4_find_26 ?_
        refine g_goto (tgt := 31) C dX4_find_27 (by decide) ?_
        refine g_aret C G hr hlk (Nat.le_of_ble_eq_true rfl) (Nat.le_of_ble_eq_true rfl) dX4_find_31 ?_
        exact ⟨rfl, Or.inl ⟨by omega, rfl⟩⟩
theorem fX4_hasTooth_9 : gFld wsX4_hasTooth RX4 9 4 0 := ⟨RX4, TX4, 6, rfl, by decide, by decide +kernel, by decide +kernel⟩
set_option maxHeartbeats 4000000 in
set_option maxRecDepth 100000 in
theorem c_X4_hasTooth (l : Launch) (κ : gKap) (B n : Nat) (ad : Nat → Nat) (g : Nat → va_E) (po : Nat) (nl : Int) (v : Int → Int) (t : Int) (hpn : po + 10 ≤ n) (hpl : isPl κ ad g po nl v) (ht : inI t) (hv0 : 12 ≤ v 0 ∧ v 0 ≤ 96) : Met l yX4_hasTooth wsX4_hasTooth ({ frames := 0, cells := 0, slots := 0, locals := 0 }) (gPre κ B n ad g [.ref (ad po), .int (iz t)]) (gQi κ B n ad (fun z g' => g' = g ∧ (((0 ≤ t ∧ t < v 0) ∧ z = 1) ∨ (¬ (0 ≤ t ∧ t < v 0) ∧ z = 0)))) 0 0 (gFree B) := by
  refine g_met RX4 (cc := cX4_hasTooth) (maxL := 2) (ret := (some .boolean)) (by decide) rfl rfl (Nat.le_of_ble_eq_true rfl) ?_
  intro p e s m args below meth c C hr hlk hnm G ls hl
  have hl : lv_has ls 2 [(0, .ref (ad po)), (1, .int (iz t))] := hl
  refine g_iload_n C dX4_hasTooth_0 rfl hl 1 rfl ?_
  refine g_if_lt (tgt := 16) C (by omega) dX4_hasTooth_1 (by decide) (fun c_1 => ?_) (fun c_1 => ?_)
  · refine g_iconst (a := 0) C dX4_hasTooth_16 rfl ?_
    refine g_zret C G hr hlk (by decide) (Nat.le_of_ble_eq_true rfl) (Nat.le_of_ble_eq_true rfl) dX4_hasTooth_17 ?_
    exact ⟨rfl, by omega⟩
  · refine g_iload_n C dX4_hasTooth_4 rfl hl 1 rfl ?_
    refine g_aload_n C dX4_hasTooth_5 rfl hl 0 rfl ?_
    refine g_get C G (pos := po) fX4_hasTooth_9 (by omega) hpl.1 rfl dX4_hasTooth_6 ?_
    refine g_icmp_ge (tgt := 16) C (by omega) (by omega) dX4_hasTooth_9 (by decide) (fun c_2 => ?_) (fun c_2 => ?_)
    · refine g_iconst (a := 0) C dX4_hasTooth_16 rfl ?_
      refine g_zret C G hr hlk (by decide) (Nat.le_of_ble_eq_true rfl) (Nat.le_of_ble_eq_true rfl) dX4_hasTooth_17 ?_
      exact ⟨rfl, by omega⟩
    · refine g_iconst (a := 1) C dX4_hasTooth_12 rfl ?_
      refine g_goto (tgt := 17) C dX4_hasTooth_13 (by decide) ?_
      refine g_zret C G hr hlk (by decide) (Nat.le_of_ble_eq_true rfl) (Nat.le_of_ble_eq_true rfl) dX4_hasTooth_17 ?_
      exact ⟨rfl, by omega⟩
theorem fX4_isFull_33 : gFld wsX4_isFull RX4 33 4 1 := ⟨RX4, TX4, 6, rfl, by decide, by decide +kernel, by decide +kernel⟩
set_option maxHeartbeats 4000000 in
set_option maxRecDepth 100000 in
theorem c_X4_isFull (l : Launch) (κ : gKap) (B n : Nat) (ad : Nat → Nat) (g : Nat → va_E) (po : Nat) (nl : Int) (v : Int → Int) (hpn : po + 10 ≤ n) (hpl : isPl κ ad g po nl v) (hn6 : 0 ≤ nl ∧ nl ≤ 6) : Met l yX4_isFull wsX4_isFull ({ frames := 0, cells := 0, slots := 0, locals := 0 }) (gPre κ B n ad g [.ref (ad po)]) (gQi κ B n ad (fun z g' => g' = g ∧ (((6 ≤ nl) ∧ z = 1) ∨ (¬ (6 ≤ nl) ∧ z = 0)))) 0 0 (gFree B) := by
  refine g_met RX4 (cc := cX4_isFull) (maxL := 1) (ret := (some .boolean)) (by decide) rfl rfl (Nat.le_of_ble_eq_true rfl) ?_
  intro p e s m args below meth c C hr hlk hnm G ls hl
  have hl : lv_has ls 1 [(0, .ref (ad po))] := hl
  refine g_aload_n C dX4_isFull_0 rfl hl 0 rfl ?_
  refine g_get C G (pos := po) fX4_isFull_33 (by omega) hpl.1 rfl dX4_isFull_1 ?_
  refine g_bipush (a := 6) C dX4_isFull_4 (by decide) ?_
  refine g_icmp_lt (tgt := 13) C (by omega) (by decide) dX4_isFull_6 (by decide) (fun c_1 => ?_) (fun c_1 => ?_)
  · refine g_iconst (a := 0) C dX4_isFull_13 rfl ?_
    refine g_zret C G hr hlk (by decide) (Nat.le_of_ble_eq_true rfl) (Nat.le_of_ble_eq_true rfl) dX4_isFull_14 ?_
    exact ⟨rfl, by omega⟩
  · refine g_iconst (a := 1) C dX4_isFull_9 rfl ?_
    refine g_goto (tgt := 14) C dX4_isFull_10 (by decide) ?_
    refine g_zret C G hr hlk (by decide) (Nat.le_of_ble_eq_true rfl) (Nat.le_of_ble_eq_true rfl) dX4_isFull_14 ?_
    exact ⟨rfl, by omega⟩
set_option maxHeartbeats 4000000 in
set_option maxRecDepth 100000 in
theorem c_X4_allows (l : Launch) (κ : gKap) (B n : Nat) (ad : Nat → Nat) (g : Nat → va_E) (po : Nat) (nl : Int) (v : Int → Int) (what : Int) (x : Int) (hpn : po + 10 ≤ n) (hpl : isPl κ ad g po nl v) (hwh : inI what) (hx : inI x) (hv0 : 12 ≤ v 0 ∧ v 0 ≤ 96) : Met l yX4_allows wsX4_allows ({ frames := 1, cells := 0, slots := 0, locals := 21 }) (gPre κ B n ad g [.ref (ad po), .int (iz what), .int (iz x)]) (gQi κ B n ad (fun z g' => g' = g ∧ ((((what = 0 ∧ 5 ≤ x ∧ x ≤ 60) ∨ (what = 1 ∧ (x = 0 ∨ x = 1)) ∨ (what = 2 ∧ 0 ≤ x ∧ x ≤ 20) ∨ (what = 3 ∧ 0 ≤ x ∧ x < v 0)) ∧ z = 1) ∨ (¬ ((what = 0 ∧ 5 ≤ x ∧ x ≤ 60) ∨ (what = 1 ∧ (x = 0 ∨ x = 1)) ∨ (what = 2 ∧ 0 ≤ x ∧ x ≤ 20) ∨ (what = 3 ∧ 0 ≤ x ∧ x < v 0)) ∧ z = 0)))) 0 0 (gFree B) := by
  refine g_met RX4 (cc := cX4_allows) (maxL := 3) (ret := (some .boolean)) (by decide) rfl rfl (Nat.le_of_ble_eq_true rfl) ?_
  intro p e s m args below meth c C hr hlk hnm G ls hl
  have hl : lv_has ls 3 [(0, .ref (ad po)), (1, .int (iz what)), (2, .int (iz x))] := hl
  refine g_iload_n C dX4_allows_0 rfl hl 1 rfl ?_
  by_cases e_1 : what = 0
  · refine g_tswIn (v := 0) (off := 31) (tgt := 32) C dX4_allows_1 e_1 (by decide) (by decide) (by decide) (by decide) (by decide) ?_
    refine g_iload_n C dX4_allows_32 rfl hl 2 rfl ?_
    refine g_ci C G (g_runN (As := [.int (iz x)]) (rest := []) C G (c_X7_isWheel l κ B n ad g x (by omega)) (g_cwN (index := 70) 1 C gX4_allows_X7_isWheel_n70 rfl rfl rfl (by decide +kernel) (by decide +kernel) (by decide +kernel) (by decide +kernel) ⟨Nat.le_of_ble_eq_true rfl, Nat.le_of_ble_eq_true rfl⟩) rfl hl rfl (Nat.le_of_ble_eq_true rfl) dX4_allows_33 ⟨Nat.le_of_ble_eq_true rfl, Nat.le_of_ble_eq_true rfl⟩) (fun z_3 g9 H locs hw G => ?_)
    obtain ⟨hg9, hw⟩ := hw
    replace hg9 := hg9.symm
    subst hg9
    rcases hw with ⟨b_2, rfl⟩ | ⟨b_2, rfl⟩
    · refine g_zret C G hr hlk (by decide) (Nat.le_of_ble_eq_true rfl) (Nat.le_of_ble_eq_true rfl) dX4_allows_36 ?_
      exact ⟨rfl, by omega⟩
    · refine g_zret C G hr hlk (by decide) (Nat.le_of_ble_eq_true rfl) (Nat.le_of_ble_eq_true rfl) dX4_allows_36 ?_
      exact ⟨rfl, by omega⟩
  by_cases e_4 : what = 1
  · refine g_tswIn (v := 1) (off := 36) (tgt := 37) C dX4_allows_1 e_4 (by decide) (by decide) (by decide) (by decide) (by decide) ?_
    refine g_iload_n C dX4_allows_37 rfl hl 2 rfl ?_
    refine g_ci C G (g_runN (As := [.int (iz x)]) (rest := []) C G (c_X7_isSide l κ B n ad g x (by omega)) (g_cwN (index := 74) 1 C gX4_allows_X7_isSide_n74 rfl rfl rfl (by decide +kernel) (by decide +kernel) (by decide +kernel) (by decide +kernel) ⟨Nat.le_of_ble_eq_true rfl, Nat.le_of_ble_eq_true rfl⟩) rfl hl rfl (Nat.le_of_ble_eq_true rfl) dX4_allows_38 ⟨Nat.le_of_ble_eq_true rfl, Nat.le_of_ble_eq_true rfl⟩) (fun z_6 g9 H locs hw G => ?_)
    obtain ⟨hg9, hw⟩ := hw
    replace hg9 := hg9.symm
    subst hg9
    rcases hw with ⟨b_5, rfl⟩ | ⟨b_5, rfl⟩
    · refine g_zret C G hr hlk (by decide) (Nat.le_of_ble_eq_true rfl) (Nat.le_of_ble_eq_true rfl) dX4_allows_41 ?_
      exact ⟨rfl, by omega⟩
    · refine g_zret C G hr hlk (by decide) (Nat.le_of_ble_eq_true rfl) (Nat.le_of_ble_eq_true rfl) dX4_allows_41 ?_
      exact ⟨rfl, by omega⟩
  by_cases e_7 : what = 2
  · refine g_tswIn (v := 2) (off := 41) (tgt := 42) C dX4_allows_1 e_7 (by decide) (by decide) (by decide) (by decide) (by decide) ?_
    refine g_iload_n C dX4_allows_42 rfl hl 2 rfl ?_
    refine g_ci C G (g_runN (As := [.int (iz x)]) (rest := []) C G (c_X7_isHole l κ B n ad g x (by omega)) (g_cwN (index := 77) 1 C gX4_allows_X7_isHole_n77 rfl rfl rfl (by decide +kernel) (by decide +kernel) (by decide +kernel) (by decide +kernel) ⟨Nat.le_of_ble_eq_true rfl, Nat.le_of_ble_eq_true rfl⟩) rfl hl rfl (Nat.le_of_ble_eq_true rfl) dX4_allows_43 ⟨Nat.le_of_ble_eq_true rfl, Nat.le_of_ble_eq_true rfl⟩) (fun z_9 g9 H locs hw G => ?_)
    obtain ⟨hg9, hw⟩ := hw
    replace hg9 := hg9.symm
    subst hg9
    rcases hw with ⟨b_8, rfl⟩ | ⟨b_8, rfl⟩
    · refine g_zret C G hr hlk (by decide) (Nat.le_of_ble_eq_true rfl) (Nat.le_of_ble_eq_true rfl) dX4_allows_46 ?_
      exact ⟨rfl, by omega⟩
    · refine g_zret C G hr hlk (by decide) (Nat.le_of_ble_eq_true rfl) (Nat.le_of_ble_eq_true rfl) dX4_allows_46 ?_
      exact ⟨rfl, by omega⟩
  by_cases e_10 : what = 3
  · refine g_tswIn (v := 3) (off := 46) (tgt := 47) C dX4_allows_1 e_10 (by decide) (by decide) (by decide) (by decide) (by decide) ?_
    refine g_aload_n C dX4_allows_47 rfl hl 0 rfl ?_
    refine g_iload_n C dX4_allows_48 rfl hl 2 rfl ?_
    refine g_ci C G (g_runV (As := [.int (iz x)]) (rest := []) (pos := po) C G (c_X4_hasTooth l κ B n ad g po nl v x (by omega) hpl (by omega) (by omega)) (cwV 1 C.1.2.2.2.2 gX4_allows_X4_hasTooth rfl rfl rfl (by decide +kernel) ⟨Nat.le_of_ble_eq_true rfl, Nat.le_of_ble_eq_true rfl⟩) (by omega) hpl.1 (T := TX4) (N := 6) rfl rfl hl rfl (Nat.le_of_ble_eq_true rfl) dX4_allows_49 ⟨Nat.le_of_ble_eq_true rfl, Nat.le_of_ble_eq_true rfl⟩) (fun z_12 g9 H locs hw G => ?_)
    obtain ⟨hg9, hw⟩ := hw
    replace hg9 := hg9.symm
    subst hg9
    rcases hw with ⟨b_11, rfl⟩ | ⟨b_11, rfl⟩
    · refine g_zret C G hr hlk (by decide) (Nat.le_of_ble_eq_true rfl) (Nat.le_of_ble_eq_true rfl) dX4_allows_52 ?_
      exact ⟨rfl, by omega⟩
    · refine g_zret C G hr hlk (by decide) (Nat.le_of_ble_eq_true rfl) (Nat.le_of_ble_eq_true rfl) dX4_allows_52 ?_
      exact ⟨rfl, by omega⟩
  refine g_tswOut (tgt := 53) C (by omega) dX4_allows_1 (by omega) (by decide) ?_
  refine g_iconst (a := 0) C dX4_allows_53 rfl ?_
  refine g_zret C G hr hlk (by decide) (Nat.le_of_ble_eq_true rfl) (Nat.le_of_ble_eq_true rfl) dX4_allows_54 ?_
  exact ⟨rfl, by omega⟩
theorem fX4_sightedAngle_22 : gFld wsX4_sightedAngle RX4 22 4 4 := ⟨RX4, TX4, 6, rfl, by decide, by decide +kernel, by decide +kernel⟩
set_option maxHeartbeats 4000000 in
set_option maxRecDepth 100000 in
theorem c_X4_sightedAngle (l : Launch) (κ : gKap) (B n : Nat) (ad : Nat → Nat) (g : Nat → va_E) (po : Nat) (nl : Int) (v : Int → Int) (i : Int) (hpn : po + 10 ≤ n) (hpl : isPl κ ad g po nl v) (hi : 0 ≤ i ∧ i < 8) : Met l yX4_sightedAngle wsX4_sightedAngle ({ frames := 0, cells := 0, slots := 0, locals := 0 }) (gPre κ B n ad g [.ref (ad po), .int (iz i)]) (gQi κ B n ad (fun z g' => g' = g ∧ (z = v (26 + 2 * i)))) 0 0 (gFree B) := by
  refine g_met RX4 (cc := cX4_sightedAngle) (maxL := 2) (ret := (some .int)) (by decide) rfl rfl (Nat.le_of_ble_eq_true rfl) ?_
  intro p e s m args below meth c C hr hlk hnm G ls hl
  have hl : lv_has ls 2 [(0, .ref (ad po)), (1, .int (iz i))] := hl
  refine g_iload_n C dX4_sightedAngle_0 rfl hl 1 rfl ?_
  refine g_if_lt (tgt := 22) C (by omega) dX4_sightedAngle_1 (by decide) (fun c_1 => ?_) (fun c_1 => ?_)
  · refine g_bipush (a := (-9)) C dX4_sightedAngle_22 (by decide) ?_
    refine g_iret C G hr hlk (Nat.le_of_ble_eq_true rfl) (Nat.le_of_ble_eq_true rfl) dX4_sightedAngle_24 ?_
    omega
  · refine g_iload_n C dX4_sightedAngle_4 rfl hl 1 rfl ?_
    refine g_aload_n C dX4_sightedAngle_5 rfl hl 0 rfl ?_
    refine g_get C G (pos := po) fX4_sightedAngle_22 (by omega) hpl.1 rfl dX4_sightedAngle_6 ?_
    refine g_alenI C G (pos := po + 8) (by omega) hpl.2.2.2.1 dX4_sightedAngle_9 ?_
    show W p l e _ s m args below meth c _ _ _ _ _ (F0 m _ ls (.int (iz 8) :: _))
    refine g_icmp_ge (tgt := 22) C (by omega) (by decide) dX4_sightedAngle_10 (by decide) (fun c_2 => ?_) (fun c_2 => ?_)
    · refine g_bipush (a := (-9)) C dX4_sightedAngle_22 (by decide) ?_
      refine g_iret C G hr hlk (Nat.le_of_ble_eq_true rfl) (Nat.le_of_ble_eq_true rfl) dX4_sightedAngle_24 ?_
      omega
    · refine g_aload_n C dX4_sightedAngle_13 rfl hl 0 rfl ?_
      refine g_get C G (pos := po) fX4_sightedAngle_22 (by omega) hpl.1 rfl dX4_sightedAngle_14 ?_
      refine g_iload_n C dX4_sightedAngle_17 rfl hl 1 rfl ?_
      refine g_iaload C G (pos := po + 8) (by omega) hpl.2.2.2.1 (by omega) (by omega) (by omega) dX4_sightedAngle_18 ?_
      show W p l e _ s m args below meth c _ _ _ _ _ (F0 m _ ls (.int (iz (v (26 + 2 * i))) :: _))
      refine g_goto (tgt := 24) C dX4_sightedAngle_19 (by decide) ?_
      refine g_iret C G hr hlk (Nat.le_of_ble_eq_true rfl) (Nat.le_of_ble_eq_true rfl) dX4_sightedAngle_24 ?_
      exact ⟨rfl, rfl⟩
theorem fX4_sightedRadius_26 : gFld wsX4_sightedRadius RX4 26 4 5 := ⟨RX4, TX4, 6, rfl, by decide, by decide +kernel, by decide +kernel⟩
set_option maxHeartbeats 4000000 in
set_option maxRecDepth 100000 in
theorem c_X4_sightedRadius (l : Launch) (κ : gKap) (B n : Nat) (ad : Nat → Nat) (g : Nat → va_E) (po : Nat) (nl : Int) (v : Int → Int) (i : Int) (hpn : po + 10 ≤ n) (hpl : isPl κ ad g po nl v) (hi : 0 ≤ i ∧ i < 8) : Met l yX4_sightedRadius wsX4_sightedRadius ({ frames := 0, cells := 0, slots := 0, locals := 0 }) (gPre κ B n ad g [.ref (ad po), .int (iz i)]) (gQi κ B n ad (fun z g' => g' = g ∧ (z = v (27 + 2 * i)))) 0 0 (gFree B) := by
  refine g_met RX4 (cc := cX4_sightedRadius) (maxL := 2) (ret := (some .int)) (by decide) rfl rfl (Nat.le_of_ble_eq_true rfl) ?_
  intro p e s m args below meth c C hr hlk hnm G ls hl
  have hl : lv_has ls 2 [(0, .ref (ad po)), (1, .int (iz i))] := hl
  refine g_iload_n C dX4_sightedRadius_0 rfl hl 1 rfl ?_
  refine g_if_lt (tgt := 22) C (by omega) dX4_sightedRadius_1 (by decide) (fun c_1 => ?_) (fun c_1 => ?_)
  · refine g_bipush (a := (-9)) C dX4_sightedRadius_22 (by decide) ?_
    refine g_iret C G hr hlk (Nat.le_of_ble_eq_true rfl) (Nat.le_of_ble_eq_true rfl) dX4_sightedRadius_24 ?_
    omega
  · refine g_iload_n C dX4_sightedRadius_4 rfl hl 1 rfl ?_
    refine g_aload_n C dX4_sightedRadius_5 rfl hl 0 rfl ?_
    refine g_get C G (pos := po) fX4_sightedRadius_26 (by omega) hpl.1 rfl dX4_sightedRadius_6 ?_
    refine g_alenI C G (pos := po + 9) (by omega) hpl.2.2.2.2 dX4_sightedRadius_9 ?_
    show W p l e _ s m args below meth c _ _ _ _ _ (F0 m _ ls (.int (iz 8) :: _))
    refine g_icmp_ge (tgt := 22) C (by omega) (by decide) dX4_sightedRadius_10 (by decide) (fun c_2 => ?_) (fun c_2 => ?_)
    · refine g_bipush (a := (-9)) C dX4_sightedRadius_22 (by decide) ?_
      refine g_iret C G hr hlk (Nat.le_of_ble_eq_true rfl) (Nat.le_of_ble_eq_true rfl) dX4_sightedRadius_24 ?_
      omega
    · refine g_aload_n C dX4_sightedRadius_13 rfl hl 0 rfl ?_
      refine g_get C G (pos := po) fX4_sightedRadius_26 (by omega) hpl.1 rfl dX4_sightedRadius_14 ?_
      refine g_iload_n C dX4_sightedRadius_17 rfl hl 1 rfl ?_
      refine g_iaload C G (pos := po + 9) (by omega) hpl.2.2.2.2 (by omega) (by omega) (by omega) dX4_sightedRadius_18 ?_
      show W p l e _ s m args below meth c _ _ _ _ _ (F0 m _ ls (.int (iz (v (27 + 2 * i))) :: _))
      refine g_goto (tgt := 24) C dX4_sightedRadius_19 (by decide) ?_
      refine g_iret C G hr hlk (Nat.le_of_ble_eq_true rfl) (Nat.le_of_ble_eq_true rfl) dX4_sightedRadius_24 ?_
      exact ⟨rfl, rfl⟩
theorem fX4_fits_56 : gFld wsX4_fits RX4 56 4 2 := ⟨RX4, TX4, 6, rfl, by decide, by decide +kernel, by decide +kernel⟩
theorem fX4_fits_9 : gFld wsX4_fits RX4 9 4 0 := ⟨RX4, TX4, 6, rfl, by decide, by decide +kernel, by decide +kernel⟩
set_option maxHeartbeats 4000000 in
set_option maxRecDepth 100000 in
theorem c_X4_fits (l : Launch) (κ : gKap) (B n : Nat) (ad : Nat → Nat) (g : Nat → va_E) (po : Nat) (nl : Int) (v : Int → Int) (lo : Nat) (w : Int) (sd : Int) (ho : Int) (st0 : Int) (hpn : po + 10 ≤ n) (hpl : isPl κ ad g po nl v) (hlp : lo < n) (hel : g lo = oL w sd ho st0) (hokl : okL w sd ho) (hst : 0 ≤ st0 ∧ st0 < v 0) (hok : okPl nl v) : Met l yX4_fits wsX4_fits ({ frames := 3, cells := 0, slots := 0, locals := 78 }) (gPre κ B n ad g [.ref (ad po), .ref (ad lo)]) (gQi κ B n ad (fun z g' => g' = g ∧ (((FITw v w sd ho st0) ∧ z = 1) ∨ (¬ (FITw v w sd ho st0) ∧ z = 0)))) 0 0 (gFree B) := by
  refine g_met RX4 (cc := cX4_fits) (maxL := 3) (ret := (some .boolean)) (by decide) rfl rfl (Nat.le_of_ble_eq_true rfl) ?_
  intro p e s m args below meth c C hr hlk hnm G ls hl
  have hl : lv_has ls 3 [(0, .ref (ad po)), (1, .ref (ad lo))] := hl
  obtain ⟨hn6, hv0, hv25, hlay, hsee⟩ := id hok
  refine g_iconst (a := 0) C dX4_fits_0 rfl ?_
  refine lv_istore_n (lv' := [(2, .int (iz 0)), (0, .ref (ad po)), (1, .ref (ad lo))]) C.1.1 C.1.2.1 dX4_fits_1 rfl hl (by decide) rfl (fun ls hl => ?_)
  have lp_2_n_2 : ∀ (k_1 : Nat) (i : Int), (v 25 - i).toNat < k_1 → (0 ≤ i) → (i ≤ v 25) → (∀ j, 0 ≤ j → j < i → PT (v 0) w sd ho st0 (v (26 + 2 * j)) (v (27 + 2 * j))) → ∀ (H : Heap) (locs : List Loc), gG κ B n ad s g H locs → ∀ (ls : Array Slot), lv_has ls 3 [(0, .ref (ad po)), (1, .ref (ad lo)), (2, .int (iz i))] → W p l e ({ frames := 3, cells := 0, slots := 0, locals := 78 }) s m args below meth c H locs 0 0 (MQ below (gQi κ B n ad (fun z g' => g' = g ∧ (((FITw v w sd ho st0) ∧ z = 1) ∨ (¬ (FITw v w sd ho st0) ∧ z = 0)))) args s 0 0 (gFree B)) (F0 m 2 ls []) := by
    intro k_1
    induction k_1 with
    | zero => intro i hm; exact absurd hm (Nat.not_lt_zero _)
    | succ k_1 ih_lp_2_n_2 =>
      intro i hm hi0 hi1 hf H locs G ls hl
      refine g_iload_n C dX4_fits_2 rfl hl 2 rfl ?_
      refine g_aload_n C dX4_fits_3 rfl hl 0 rfl ?_
      refine g_get C G (pos := po) fX4_fits_56 (by omega) hpl.1 rfl dX4_fits_4 ?_
      refine g_icmp_ge (tgt := 41) C (by omega) (by omega) dX4_fits_7 (by decide) (fun c_3 => ?_) (fun c_3 => ?_)
      · refine g_iconst (a := 1) C dX4_fits_41 rfl ?_
        refine g_zret C G hr hlk (by decide) (Nat.le_of_ble_eq_true rfl) (Nat.le_of_ble_eq_true rfl) dX4_fits_42 ?_
        exact ⟨rfl, Or.inl ⟨fun j j0 j1 => hf j j0 (by omega), rfl⟩⟩
      · refine g_aload_n C dX4_fits_10 rfl hl 1 rfl ?_
        refine g_aload_n C dX4_fits_11 rfl hl 0 rfl ?_
        refine g_get C G (pos := po) fX4_fits_9 (by omega) hpl.1 rfl dX4_fits_12 ?_
        refine g_aload_n C dX4_fits_15 rfl hl 0 rfl ?_
        refine g_iload_n C dX4_fits_16 rfl hl 2 rfl ?_
        have hsi := hsee i hi0 (by omega)
        refine g_ci C G (g_runV (As := [.int (iz i)]) (rest := [.int (iz (v 0)), .ref (ad lo)]) (pos := po) C G (c_X4_sightedAngle l κ B n ad g po nl v i (by omega) hpl (by omega)) (cwV 1 C.1.2.2.2.2 gX4_fits_X4_sightedAngle rfl rfl rfl (by decide +kernel) ⟨Nat.le_of_ble_eq_true rfl, Nat.le_of_ble_eq_true rfl⟩) (by omega) hpl.1 (T := TX4) (N := 6) rfl rfl hl rfl (Nat.le_of_ble_eq_true rfl) dX4_fits_17 ⟨Nat.le_of_ble_eq_true rfl, Nat.le_of_ble_eq_true rfl⟩) (fun z_4 g9 H locs hw G => ?_)
        obtain ⟨hg9, h_5⟩ := hw
        replace hg9 := hg9.symm
        subst hg9
        subst h_5
        refine g_aload_n C dX4_fits_20 rfl hl 0 rfl ?_
        refine g_iload_n C dX4_fits_21 rfl hl 2 rfl ?_
        refine g_ci C G (g_runV (As := [.int (iz i)]) (rest := [.int (iz (v (26 + 2 * i))), .int (iz (v 0)), .ref (ad lo)]) (pos := po) C G (c_X4_sightedRadius l κ B n ad g po nl v i (by omega) hpl (by omega)) (cwV 1 C.1.2.2.2.2 gX4_fits_X4_sightedRadius rfl rfl rfl (by decide +kernel) ⟨Nat.le_of_ble_eq_true rfl, Nat.le_of_ble_eq_true rfl⟩) (by omega) hpl.1 (T := TX4) (N := 6) rfl rfl hl rfl (Nat.le_of_ble_eq_true rfl) dX4_fits_22 ⟨Nat.le_of_ble_eq_true rfl, Nat.le_of_ble_eq_true rfl⟩) (fun z_6 g9 H locs hw G => ?_)
        obtain ⟨hg9, h_7⟩ := hw
        replace hg9 := hg9.symm
        subst hg9
        subst h_7
        refine g_ci C G (g_runV (As := [.int (iz (v 0)), .int (iz (v (26 + 2 * i))), .int (iz (v (27 + 2 * i)))]) (rest := []) (pos := lo) C G (c_X3_firstStepAt l κ B n ad g lo w sd ho st0 (v 0) (v (26 + 2 * i)) (v (27 + 2 * i)) (by omega) hel hokl (by omega) (by omega) (by omega) (by omega)) (cwV 3 C.1.2.2.2.2 gX4_fits_X3_firstStepAt rfl rfl rfl (by decide +kernel) ⟨Nat.le_of_ble_eq_true rfl, Nat.le_of_ble_eq_true rfl⟩) (by omega) hel (T := TX3) (N := 4) rfl rfl hl rfl (Nat.le_of_ble_eq_true rfl) dX4_fits_25 ⟨Nat.le_of_ble_eq_true rfl, Nat.le_of_ble_eq_true rfl⟩) (fun z_8 g9 H locs hw G => ?_)
        obtain ⟨hg9, h_9⟩ := hw
        replace hg9 := hg9.symm
        subst hg9
        have hrg9 := h_9.rg
        have hpd9 := pd_range (ring := v 0) (w := w) hv0 (by omega) (by omega)
        refine g_bipush (a := (-9)) C dX4_fits_28 (by decide) ?_
        refine g_icmp_ne (tgt := 35) C (by omega) (by omega) dX4_fits_30 (by decide) (fun c_10 => ?_) (fun c_10 => ?_)
        · refine lv_iinc (v := iz (i + 1)) (lv' := [(2, .int (iz (i + 1))), (0, .ref (ad po)), (1, .ref (ad lo))]) C.1.1 C.1.2.1 dX4_fits_35 hl (k := 2) rfl (g_inc (by omega)) (by decide) rfl (fun ls hl => ?_)
          refine g_goto (tgt := 2) C dX4_fits_38 (by decide) ?_
          exact ih_lp_2_n_2 (i + 1) (by omega) (by omega) (by omega) (fun j j0 j1 => by
              by_cases hj : j = i
              · rw [hj]; exact Classical.byContradiction (fun q => absurd (h_9.pt.1.mpr q) (by omega))
              · exact hf j j0 (by omega)) _ _ G _ (lv_sub hl [1, 2, 0] rfl)
        · refine g_iconst (a := 0) C dX4_fits_33 rfl ?_
          refine g_zret C G hr hlk (by decide) (Nat.le_of_ble_eq_true rfl) (Nat.le_of_ble_eq_true rfl) dX4_fits_34 ?_
          exact ⟨rfl, Or.inr ⟨fun q => absurd (q i hi0 (by omega)) (h_9.pt.1.mp (by omega)), rfl⟩⟩
  exact lp_2_n_2 _ 0 (Nat.lt_succ_self _) (by omega) (by omega) (fun j j0 j1 => absurd j1 (by omega)) _ _ G _ (lv_sub hl [1, 2, 0] rfl)
theorem fX4_fitting_33 : gFld wsX4_fitting RX4 33 4 1 := ⟨RX4, TX4, 6, rfl, by decide, by decide +kernel, by decide +kernel⟩
set_option maxHeartbeats 4000000 in
set_option maxRecDepth 100000 in
theorem c_X4_fitting (l : Launch) (κ : gKap) (B n : Nat) (ad : Nat → Nat) (g : Nat → va_E) (po : Nat) (nl : Int) (v : Int → Int) (hpn : po + 10 ≤ n) (hpl : isPl κ ad g po nl v) (hok : okPl nl v) : Met l yX4_fitting wsX4_fitting ({ frames := 4, cells := 0, slots := 0, locals := 100 }) (gPre κ B n ad g [.ref (ad po)]) (gQi κ B n ad (fun z g' => g' = g ∧ (z = fitN nl v ∧ 0 ≤ z ∧ z ≤ 6))) 0 0 (gFree B) := by
  refine g_met RX4 (cc := cX4_fitting) (maxL := 4) (ret := (some .int)) (by decide) rfl rfl (Nat.le_of_ble_eq_true rfl) ?_
  intro p e s m args below meth c C hr hlk hnm G ls hl
  have hl : lv_has ls 4 [(0, .ref (ad po))] := hl
  obtain ⟨hn6, hv0, hv25, hlay, hsee⟩ := id hok
  refine g_iconst (a := 0) C dX4_fitting_0 rfl ?_
  refine lv_istore_n (lv' := [(1, .int (iz 0)), (0, .ref (ad po))]) C.1.1 C.1.2.1 dX4_fitting_1 rfl hl (by decide) rfl (fun ls hl => ?_)
  refine g_iconst (a := 0) C dX4_fitting_2 rfl ?_
  refine lv_istore_n (lv' := [(2, .int (iz 0)), (1, .int (iz 0)), (0, .ref (ad po))]) C.1.1 C.1.2.1 dX4_fitting_3 rfl hl (by decide) rfl (fun ls hl => ?_)
  have lp_4_n_2 : ∀ (k_1 : Nat) (num : Int) (k : Int), (nl - k).toNat < k_1 → (0 ≤ k) → (k ≤ nl) → (0 ≤ num ∧ num ≤ k) → (num = (fb_ct (fun l => dB ((FITl v) (l : Int))) k.toNat : Int)) → ∀ (H : Heap) (locs : List Loc), gG κ B n ad s g H locs → ∀ (ls : Array Slot), lv_has ls 4 [(0, .ref (ad po)), (1, .int (iz num)), (2, .int (iz k))] → W p l e ({ frames := 4, cells := 0, slots := 0, locals := 100 }) s m args below meth c H locs 0 0 (MQ below (gQi κ B n ad (fun z g' => g' = g ∧ (z = fitN nl v ∧ 0 ≤ z ∧ z ≤ 6))) args s 0 0 (gFree B)) (F0 m 4 ls []) := by
    intro k_1
    induction k_1 with
    | zero => intro num k hm; exact absurd hm (Nat.not_lt_zero _)
    | succ k_1 ih_lp_4_n_2 =>
      intro num k hm hk0 hk1 hn2 hnum H locs G ls hl
      refine g_iload_n C dX4_fitting_4 rfl hl 2 rfl ?_
      refine g_aload_n C dX4_fitting_5 rfl hl 0 rfl ?_
      refine g_get C G (pos := po) fX4_fitting_33 (by omega) hpl.1 rfl dX4_fitting_6 ?_
      refine g_icmp_ge (tgt := 39) C (by omega) (by omega) dX4_fitting_9 (by decide) (fun c_3 => ?_) (fun c_3 => ?_)
      · refine g_iload_n C dX4_fitting_39 rfl hl 1 rfl ?_
        refine g_iret C G hr hlk (Nat.le_of_ble_eq_true rfl) (Nat.le_of_ble_eq_true rfl) dX4_fitting_40 ?_
        have hk9 : k = nl := by omega
        subst hk9
        exact ⟨rfl, hnum, by omega⟩
      · refine g_aload_n C dX4_fitting_12 rfl hl 0 rfl ?_
        refine g_iload_n C dX4_fitting_13 rfl hl 2 rfl ?_
        refine g_co C G (g_runV (As := [.int (iz k)]) (rest := []) (pos := po) C G (c_X4_find l κ B n ad g po nl v k (by omega) hpl (by omega) (by omega)) (cwV 1 C.1.2.2.2.2 gX4_fitting_X4_find rfl rfl rfl (by decide +kernel) ⟨Nat.le_of_ble_eq_true rfl, Nat.le_of_ble_eq_true rfl⟩) (by omega) hpl.1 (T := TX4) (N := 6) rfl rfl hl rfl (Nat.le_of_ble_eq_true rfl) dX4_fitting_14 ⟨Nat.le_of_ble_eq_true rfl, Nat.le_of_ble_eq_true rfl⟩) (fun q_4 g9 H locs hw G => ?_) (fun g9 H locs hw G => ?_)
        · obtain ⟨hg9, ⟨b_5, hw⟩ | ⟨b_5, hw⟩⟩ := hw
          all_goals replace hg9 := hg9.symm
          all_goals subst hg9
          · cases hw
            refine lv_astore_n (lv' := [(3, .ref (ad (po + 2 + (k).toNat))), (0, .ref (ad po)), (1, .int (iz num)), (2, .int (iz k))]) C.1.1 C.1.2.1 dX4_fitting_17 rfl hl (by decide) rfl (fun ls hl => ?_)
            refine g_aload_n C dX4_fitting_18 rfl hl 0 rfl ?_
            refine lv_ifnull C.1.1 C.1.2.1 dX4_fitting_19 ?_
            refine g_aload_n C dX4_fitting_22 rfl hl 1 rfl ?_
            refine g_aload_n C dX4_fitting_23 rfl hl 0 rfl ?_
            have hla := hlay k hk0 (by omega)
            refine g_ci C G (g_runV (As := [.ref (ad (po + 2 + (k).toNat))]) (rest := []) (pos := po) C G (c_X4_fits l κ B n ad g po nl v (po + 2 + (k).toNat) (v (4 * k + 1)) (v (4 * k + 2)) (v (4 * k + 3)) (v (4 * k + 4)) (by omega) hpl (by omega) (hpl.lay (by omega) (by omega)) hla.1 hla.2 (by omega)) (cwV 1 C.1.2.2.2.2 gX4_fitting_X4_fits rfl rfl rfl (by decide +kernel) ⟨Nat.le_of_ble_eq_true rfl, Nat.le_of_ble_eq_true rfl⟩) (by omega) hpl.1 (T := TX4) (N := 6) rfl rfl hl rfl (Nat.le_of_ble_eq_true rfl) dX4_fitting_24 ⟨Nat.le_of_ble_eq_true rfl, Nat.le_of_ble_eq_true rfl⟩) (fun z_7 g9 H locs hw G => ?_)
            obtain ⟨hg9, hw⟩ := hw
            replace hg9 := hg9.symm
            subst hg9
            rcases hw with ⟨b_6, rfl⟩ | ⟨b_6, rfl⟩
            · refine g_if_eq (tgt := 33) C (by decide) dX4_fitting_27 (by decide) (fun c9 => absurd c9 (by decide)) (fun _ => ?_)
              refine lv_iinc (v := iz (num + 1)) (lv' := [(1, .int (iz (num + 1))), (3, .ref (ad (po + 2 + (k).toNat))), (0, .ref (ad po)), (2, .int (iz k))]) C.1.1 C.1.2.1 dX4_fitting_30 hl (k := 2) rfl (g_inc (by omega)) (by decide) rfl (fun ls hl => ?_)
              refine lv_iinc (v := iz (k + 1)) (lv' := [(2, .int (iz (k + 1))), (1, .int (iz (num + 1))), (3, .ref (ad (po + 2 + (k).toNat))), (0, .ref (ad po))]) C.1.1 C.1.2.1 dX4_fitting_33 hl (k := 3) rfl (g_inc (by omega)) (by decide) rfl (fun ls hl => ?_)
              refine g_goto (tgt := 4) C dX4_fitting_36 (by decide) ?_
              exact ih_lp_4_n_2 (num + 1) (k + 1) (by omega) (by omega) (by omega) (by omega) (ct_in (P := FITl v) hk0 hnum b_6) _ _ G _ (lv_sub hl [3, 1, 0] rfl)
            · refine g_if_eq (tgt := 33) C (by decide) dX4_fitting_27 (by decide) (fun _ => ?_) (fun c9 => absurd c9 (by decide))
              refine lv_iinc (v := iz (k + 1)) (lv' := [(2, .int (iz (k + 1))), (3, .ref (ad (po + 2 + (k).toNat))), (0, .ref (ad po)), (1, .int (iz num))]) C.1.1 C.1.2.1 dX4_fitting_33 hl (k := 3) rfl (g_inc (by omega)) (by decide) rfl (fun ls hl => ?_)
              refine g_goto (tgt := 4) C dX4_fitting_36 (by decide) ?_
              exact ih_lp_4_n_2 num (k + 1) (by omega) (by omega) (by omega) (by omega) (ct_out (P := FITl v) hk0 hnum b_6) _ _ G _ (lv_sub hl [2, 3, 0] rfl)
          · cases hw
        · obtain ⟨hg9, ⟨b_5, hw⟩ | ⟨b_5, hw⟩⟩ := hw
          all_goals replace hg9 := hg9.symm
          all_goals subst hg9
          · cases hw
          · exact absurd (by omega) b_5
  exact lp_4_n_2 _ 0 0 (Nat.lt_succ_self _) (by omega) (by omega) (by omega) rfl _ _ G _ (lv_sub hl [2, 1, 0] rfl)
theorem fX4_layersThrough_33 : gFld wsX4_layersThrough RX4 33 4 1 := ⟨RX4, TX4, 6, rfl, by decide, by decide +kernel, by decide +kernel⟩
theorem fX4_layersThrough_9 : gFld wsX4_layersThrough RX4 9 4 0 := ⟨RX4, TX4, 6, rfl, by decide, by decide +kernel, by decide +kernel⟩
set_option maxHeartbeats 4000000 in
set_option maxRecDepth 100000 in
theorem c_X4_layersThrough (l : Launch) (κ : gKap) (B n : Nat) (ad : Nat → Nat) (g : Nat → va_E) (po : Nat) (nl : Int) (v : Int → Int) (a : Int) (r : Int) (hpn : po + 10 ≤ n) (hpl : isPl κ ad g po nl v) (hok : okPl nl v) (ha : 0 ≤ a ∧ a < v 0) (hr9 : inI r) : Met l yX4_layersThrough wsX4_layersThrough ({ frames := 3, cells := 0, slots := 0, locals := 78 }) (gPre κ B n ad g [.ref (ad po), .int (iz a), .int (iz r)]) (gQi κ B n ad (fun z g' => g' = g ∧ (z = thrN nl v a r ∧ 0 ≤ z ∧ z ≤ 6))) 0 0 (gFree B) := by
  refine g_met RX4 (cc := cX4_layersThrough) (maxL := 6) (ret := (some .int)) (by decide) rfl rfl (Nat.le_of_ble_eq_true rfl) ?_
  intro p e s m args below meth c C hr hlk hnm G ls hl
  have hl : lv_has ls 6 [(0, .ref (ad po)), (1, .int (iz a)), (2, .int (iz r))] := hl
  obtain ⟨hn6, hv0, hv25, hlay, hsee⟩ := id hok
  refine g_iconst (a := 0) C dX4_layersThrough_0 rfl ?_
  refine lv_istore_n (lv' := [(3, .int (iz 0)), (0, .ref (ad po)), (1, .int (iz a)), (2, .int (iz r))]) C.1.1 C.1.2.1 dX4_layersThrough_1 rfl hl (by decide) rfl (fun ls hl => ?_)
  refine g_iconst (a := 0) C dX4_layersThrough_2 rfl ?_
  refine lv_istore (lv' := [(4, .int (iz 0)), (3, .int (iz 0)), (0, .ref (ad po)), (1, .int (iz a)), (2, .int (iz r))]) C.1.1 C.1.2.1 dX4_layersThrough_3 hl (by decide) rfl (fun ls hl => ?_)
  have lp_5_n_2 : ∀ (k_1 : Nat) (num : Int) (k : Int), (nl - k).toNat < k_1 → (0 ≤ k) → (k ≤ nl) → (0 ≤ num ∧ num ≤ k) → (num = (fb_ct (fun l => dB ((fun l => PTl v l a r) (l : Int))) k.toNat : Int)) → ∀ (H : Heap) (locs : List Loc), gG κ B n ad s g H locs → ∀ (ls : Array Slot), lv_has ls 6 [(0, .ref (ad po)), (1, .int (iz a)), (2, .int (iz r)), (3, .int (iz num)), (4, .int (iz k))] → W p l e ({ frames := 3, cells := 0, slots := 0, locals := 78 }) s m args below meth c H locs 0 0 (MQ below (gQi κ B n ad (fun z g' => g' = g ∧ (z = thrN nl v a r ∧ 0 ≤ z ∧ z ≤ 6))) args s 0 0 (gFree B)) (F0 m 5 ls []) := by
    intro k_1
    induction k_1 with
    | zero => intro num k hm; exact absurd hm (Nat.not_lt_zero _)
    | succ k_1 ih_lp_5_n_2 =>
      intro num k hm hk0 hk1 hn2 hnum H locs G ls hl
      refine g_iload C dX4_layersThrough_5 hl 4 rfl ?_
      refine g_aload_n C dX4_layersThrough_7 rfl hl 0 rfl ?_
      refine g_get C G (pos := po) fX4_layersThrough_33 (by omega) hpl.1 rfl dX4_layersThrough_8 ?_
      refine g_icmp_ge (tgt := 52) C (by omega) (by omega) dX4_layersThrough_11 (by decide) (fun c_3 => ?_) (fun c_3 => ?_)
      · refine g_iload_n C dX4_layersThrough_52 rfl hl 3 rfl ?_
        refine g_iret C G hr hlk (Nat.le_of_ble_eq_true rfl) (Nat.le_of_ble_eq_true rfl) dX4_layersThrough_53 ?_
        have hk9 : k = nl := by omega
        subst hk9
        exact ⟨rfl, hnum, by omega⟩
      · refine g_aload_n C dX4_layersThrough_14 rfl hl 0 rfl ?_
        refine g_iload C dX4_layersThrough_15 hl 4 rfl ?_
        refine g_co C G (g_runV (As := [.int (iz k)]) (rest := []) (pos := po) C G (c_X4_find l κ B n ad g po nl v k (by omega) hpl (by omega) (by omega)) (cwV 1 C.1.2.2.2.2 gX4_layersThrough_X4_find rfl rfl rfl (by decide +kernel) ⟨Nat.le_of_ble_eq_true rfl, Nat.le_of_ble_eq_true rfl⟩) (by omega) hpl.1 (T := TX4) (N := 6) rfl rfl hl rfl (Nat.le_of_ble_eq_true rfl) dX4_layersThrough_17 ⟨Nat.le_of_ble_eq_true rfl, Nat.le_of_ble_eq_true rfl⟩) (fun q_4 g9 H locs hw G => ?_) (fun g9 H locs hw G => ?_)
        · obtain ⟨hg9, ⟨b_5, hw⟩ | ⟨b_5, hw⟩⟩ := hw
          all_goals replace hg9 := hg9.symm
          all_goals subst hg9
          · cases hw
            refine lv_astore (lv' := [(5, .ref (ad (po + 2 + (k).toNat))), (0, .ref (ad po)), (1, .int (iz a)), (2, .int (iz r)), (3, .int (iz num)), (4, .int (iz k))]) C.1.1 C.1.2.1 dX4_layersThrough_20 hl (by decide) rfl (fun ls hl => ?_)
            refine g_aload C dX4_layersThrough_22 hl 0 rfl ?_
            refine lv_ifnull C.1.1 C.1.2.1 dX4_layersThrough_24 ?_
            refine g_aload C dX4_layersThrough_27 hl 0 rfl ?_
            refine g_aload_n C dX4_layersThrough_29 rfl hl 1 rfl ?_
            refine g_get C G (pos := po) fX4_layersThrough_9 (by omega) hpl.1 rfl dX4_layersThrough_30 ?_
            refine g_iload_n C dX4_layersThrough_33 rfl hl 2 rfl ?_
            refine g_iload_n C dX4_layersThrough_34 rfl hl 3 rfl ?_
            have hla := hlay k hk0 (by omega)
            refine g_ci C G (g_runV (As := [.int (iz (v 0)), .int (iz a), .int (iz r)]) (rest := []) (pos := po + 2 + (k).toNat) C G (c_X3_firstStepAt l κ B n ad g (po + 2 + (k).toNat) (v (4 * k + 1)) (v (4 * k + 2)) (v (4 * k + 3)) (v (4 * k + 4)) (v 0) a r (by omega) (hpl.lay (by omega) (by omega)) hla.1 (by omega) hla.2 (by omega) (by omega)) (cwV 3 C.1.2.2.2.2 gX4_layersThrough_X3_firstStepAt rfl rfl rfl (by decide +kernel) ⟨Nat.le_of_ble_eq_true rfl, Nat.le_of_ble_eq_true rfl⟩) (by omega) (hpl.lay (by omega) (by omega)) (T := TX3) (N := 4) rfl rfl hl rfl (Nat.le_of_ble_eq_true rfl) dX4_layersThrough_35 ⟨Nat.le_of_ble_eq_true rfl, Nat.le_of_ble_eq_true rfl⟩) (fun z_6 g9 H locs hw G => ?_)
            obtain ⟨hg9, h_7⟩ := hw
            replace hg9 := hg9.symm
            subst hg9
            have hrg9 := h_7.rg
            have hpd9 := pd_range (ring := v 0) (w := v (4 * k + 1)) hv0 (by omega) (by omega)
            have hpt9 := h_7.pt
            refine g_bipush (a := (-9)) C dX4_layersThrough_38 (by decide) ?_
            refine g_icmp_eq (tgt := 46) C (by omega) (by omega) dX4_layersThrough_40 (by decide) (fun c_8 => ?_) (fun c_8 => ?_)
            · have hy9 : ¬ (fun l => PTl v l a r) k := hpt9.1.mp (by omega)
              refine lv_iinc (v := iz (k + 1)) (lv' := [(4, .int (iz (k + 1))), (5, .ref (ad (po + 2 + (k).toNat))), (0, .ref (ad po)), (1, .int (iz a)), (2, .int (iz r)), (3, .int (iz num))]) C.1.1 C.1.2.1 dX4_layersThrough_46 hl (k := 5) rfl (g_inc (by omega)) (by decide) rfl (fun ls hl => ?_)
              refine g_goto (tgt := 5) C dX4_layersThrough_49 (by decide) ?_
              exact ih_lp_5_n_2 num (k + 1) (by omega) (by omega) (by omega) (by omega) (ct_out (P := fun l => PTl v l a r) hk0 hnum hy9) _ _ G _ (lv_sub hl [2, 3, 4, 5, 0] rfl)
            · have hy9 : (fun l => PTl v l a r) k := Classical.byContradiction (fun q => absurd (hpt9.1.mpr q) (by omega))
              refine lv_iinc (v := iz (num + 1)) (lv' := [(3, .int (iz (num + 1))), (5, .ref (ad (po + 2 + (k).toNat))), (0, .ref (ad po)), (1, .int (iz a)), (2, .int (iz r)), (4, .int (iz k))]) C.1.1 C.1.2.1 dX4_layersThrough_43 hl (k := 4) rfl (g_inc (by omega)) (by decide) rfl (fun ls hl => ?_)
              refine lv_iinc (v := iz (k + 1)) (lv' := [(4, .int (iz (k + 1))), (3, .int (iz (num + 1))), (5, .ref (ad (po + 2 + (k).toNat))), (0, .ref (ad po)), (1, .int (iz a)), (2, .int (iz r))]) C.1.1 C.1.2.1 dX4_layersThrough_46 hl (k := 5) rfl (g_inc (by omega)) (by decide) rfl (fun ls hl => ?_)
              refine g_goto (tgt := 5) C dX4_layersThrough_49 (by decide) ?_
              exact ih_lp_5_n_2 (num + 1) (k + 1) (by omega) (by omega) (by omega) (by omega) (ct_in (P := fun l => PTl v l a r) hk0 hnum hy9) _ _ G _ (lv_sub hl [3, 4, 5, 1, 0] rfl)
          · cases hw
        · obtain ⟨hg9, ⟨b_5, hw⟩ | ⟨b_5, hw⟩⟩ := hw
          all_goals replace hg9 := hg9.symm
          all_goals subst hg9
          · cases hw
          · exact absurd (by omega) b_5
  exact lp_5_n_2 _ 0 0 (Nat.lt_succ_self _) (by omega) (by omega) (by omega) rfl _ _ G _ (lv_sub hl [2, 3, 4, 1, 0] rfl)
theorem fX4_leastRadius_33 : gFld wsX4_leastRadius RX4 33 4 1 := ⟨RX4, TX4, 6, rfl, by decide, by decide +kernel, by decide +kernel⟩
set_option maxHeartbeats 4000000 in
set_option maxRecDepth 100000 in
theorem c_X4_leastRadius (l : Launch) (κ : gKap) (B n : Nat) (ad : Nat → Nat) (g : Nat → va_E) (po : Nat) (nl : Int) (v : Int → Int) (hpn : po + 10 ≤ n) (hpl : isPl κ ad g po nl v) (hok : okPl nl v) : Met l yX4_leastRadius wsX4_leastRadius ({ frames := 3, cells := 0, slots := 0, locals := 69 }) (gPre κ B n ad g [.ref (ad po)]) (gQi κ B n ad (fun z g' => g' = g ∧ (z = lsA v nl.toNat ∧ (z = -9 ∨ (120 ≤ z ∧ z ≤ 280))))) 0 0 (gFree B) := by
  refine g_met RX4 (cc := cX4_leastRadius) (maxL := 4) (ret := (some .int)) (by decide) rfl rfl (Nat.le_of_ble_eq_true rfl) ?_
  intro p e s m args below meth c C hr hlk hnm G ls hl
  have hl : lv_has ls 4 [(0, .ref (ad po))] := hl
  obtain ⟨hn6, hv0, hv25, hlay, hsee⟩ := id hok
  refine g_bipush (a := (-9)) C dX4_leastRadius_0 (by decide) ?_
  refine lv_istore_n (lv' := [(1, .int (iz (-9))), (0, .ref (ad po))]) C.1.1 C.1.2.1 dX4_leastRadius_2 rfl hl (by decide) rfl (fun ls hl => ?_)
  refine g_iconst (a := 0) C dX4_leastRadius_3 rfl ?_
  refine lv_istore_n (lv' := [(2, .int (iz 0)), (1, .int (iz (-9))), (0, .ref (ad po))]) C.1.1 C.1.2.1 dX4_leastRadius_4 rfl hl (by decide) rfl (fun ls hl => ?_)
  have lp_5_n_2 : ∀ (k_1 : Nat) (le : Int) (k : Int), (nl - k).toNat < k_1 → (0 ≤ k) → (k ≤ nl) → (le = -9 ∨ (120 ≤ le ∧ le ≤ 280)) → (le = lsA v k.toNat) → ∀ (H : Heap) (locs : List Loc), gG κ B n ad s g H locs → ∀ (ls : Array Slot), lv_has ls 4 [(0, .ref (ad po)), (1, .int (iz le)), (2, .int (iz k))] → W p l e ({ frames := 3, cells := 0, slots := 0, locals := 69 }) s m args below meth c H locs 0 0 (MQ below (gQi κ B n ad (fun z g' => g' = g ∧ (z = lsA v nl.toNat ∧ (z = -9 ∨ (120 ≤ z ∧ z ≤ 280))))) args s 0 0 (gFree B)) (F0 m 5 ls []) := by
    intro k_1
    induction k_1 with
    | zero => intro le k hm; exact absurd hm (Nat.not_lt_zero _)
    | succ k_1 ih_lp_5_n_2 =>
      intro le k hm hk0 hk1 hl0 hle H locs G ls hl
      refine g_iload_n C dX4_leastRadius_5 rfl hl 2 rfl ?_
      refine g_aload_n C dX4_leastRadius_6 rfl hl 0 rfl ?_
      refine g_get C G (pos := po) fX4_leastRadius_33 (by omega) hpl.1 rfl dX4_leastRadius_7 ?_
      refine g_icmp_ge (tgt := 48) C (by omega) (by omega) dX4_leastRadius_10 (by decide) (fun c_3 => ?_) (fun c_3 => ?_)
      · refine g_iload_n C dX4_leastRadius_48 rfl hl 1 rfl ?_
        refine g_iret C G hr hlk (Nat.le_of_ble_eq_true rfl) (Nat.le_of_ble_eq_true rfl) dX4_leastRadius_49 ?_
        have hk9 : k = nl := by omega
        subst hk9
        exact ⟨rfl, hle, hl0⟩
      · refine g_aload_n C dX4_leastRadius_13 rfl hl 0 rfl ?_
        refine g_iload_n C dX4_leastRadius_14 rfl hl 2 rfl ?_
        refine g_co C G (g_runV (As := [.int (iz k)]) (rest := []) (pos := po) C G (c_X4_find l κ B n ad g po nl v k (by omega) hpl (by omega) (by omega)) (cwV 1 C.1.2.2.2.2 gX4_leastRadius_X4_find rfl rfl rfl (by decide +kernel) ⟨Nat.le_of_ble_eq_true rfl, Nat.le_of_ble_eq_true rfl⟩) (by omega) hpl.1 (T := TX4) (N := 6) rfl rfl hl rfl (Nat.le_of_ble_eq_true rfl) dX4_leastRadius_15 ⟨Nat.le_of_ble_eq_true rfl, Nat.le_of_ble_eq_true rfl⟩) (fun q_4 g9 H locs hw G => ?_) (fun g9 H locs hw G => ?_)
        · obtain ⟨hg9, ⟨b_5, hw⟩ | ⟨b_5, hw⟩⟩ := hw
          all_goals replace hg9 := hg9.symm
          all_goals subst hg9
          · cases hw
            have hla := hlay k hk0 (by omega)
            refine lv_astore_n (lv' := [(3, .ref (ad (po + 2 + (k).toNat))), (0, .ref (ad po)), (1, .int (iz le)), (2, .int (iz k))]) C.1.1 C.1.2.1 dX4_leastRadius_18 rfl hl (by decide) rfl (fun ls hl => ?_)
            refine g_aload_n C dX4_leastRadius_19 rfl hl 0 rfl ?_
            refine lv_ifnull C.1.1 C.1.2.1 dX4_leastRadius_20 ?_
            refine g_iload_n C dX4_leastRadius_23 rfl hl 2 rfl ?_
            refine g_bipush (a := (-9)) C dX4_leastRadius_24 (by decide) ?_
            refine g_icmp_eq (tgt := 37) C (by omega) (by omega) dX4_leastRadius_26 (by decide) (fun c_6 => ?_) (fun c_6 => ?_)
            · refine g_aload_n C dX4_leastRadius_37 rfl hl 0 rfl ?_
              refine g_ci C G (g_runV (As := []) (rest := []) (pos := po + 2 + (k).toNat) C G (c_X3_leastRadius l κ B n ad g (po + 2 + (k).toNat) (v (4 * k + 1)) (v (4 * k + 2)) (v (4 * k + 3)) (v (4 * k + 4)) (by omega) (hpl.lay (by omega) (by omega)) hla.1) (cwV 0 C.1.2.2.2.2 gX4_leastRadius_X3_leastRadius rfl rfl rfl (by decide +kernel) ⟨Nat.le_of_ble_eq_true rfl, Nat.le_of_ble_eq_true rfl⟩) (by omega) (hpl.lay (by omega) (by omega)) (T := TX3) (N := 4) rfl rfl hl rfl (Nat.le_of_ble_eq_true rfl) dX4_leastRadius_38 ⟨Nat.le_of_ble_eq_true rfl, Nat.le_of_ble_eq_true rfl⟩) (fun z_7 g9 H locs hw G => ?_)
              obtain ⟨hg9, h_8⟩ := hw
              replace hg9 := hg9.symm
              subst hg9
              refine lv_istore_n (lv' := [(1, .int (iz z_7)), (3, .ref (ad (po + 2 + (k).toNat))), (0, .ref (ad po)), (2, .int (iz k))]) C.1.1 C.1.2.1 dX4_leastRadius_41 rfl hl (by decide) rfl (fun ls hl => ?_)
              refine lv_iinc (v := iz (k + 1)) (lv' := [(2, .int (iz (k + 1))), (1, .int (iz z_7)), (3, .ref (ad (po + 2 + (k).toNat))), (0, .ref (ad po))]) C.1.1 C.1.2.1 dX4_leastRadius_42 hl (k := 3) rfl (g_inc (by omega)) (by decide) rfl (fun ls hl => ?_)
              refine g_goto (tgt := 5) C dX4_leastRadius_45 (by decide) ?_
              exact ih_lp_5_n_2 z_7 (k + 1) (by omega) (by omega) (by omega) (by omega) (by have e0 : z_7 = lsr v k := h_8.2.2; rw [lsA_step v hk0, ← hle, if_pos (by omega)]; omega) _ _ G _ (lv_sub hl [3, 1, 0] rfl)
            · refine g_aload_n C dX4_leastRadius_29 rfl hl 0 rfl ?_
              refine g_ci C G (g_runV (As := []) (rest := []) (pos := po + 2 + (k).toNat) C G (c_X3_leastRadius l κ B n ad g (po + 2 + (k).toNat) (v (4 * k + 1)) (v (4 * k + 2)) (v (4 * k + 3)) (v (4 * k + 4)) (by omega) (hpl.lay (by omega) (by omega)) hla.1) (cwV 0 C.1.2.2.2.2 gX4_leastRadius_X3_leastRadius rfl rfl rfl (by decide +kernel) ⟨Nat.le_of_ble_eq_true rfl, Nat.le_of_ble_eq_true rfl⟩) (by omega) (hpl.lay (by omega) (by omega)) (T := TX3) (N := 4) rfl rfl hl rfl (Nat.le_of_ble_eq_true rfl) dX4_leastRadius_30 ⟨Nat.le_of_ble_eq_true rfl, Nat.le_of_ble_eq_true rfl⟩) (fun z_9 g9 H locs hw G => ?_)
              obtain ⟨hg9, h_10⟩ := hw
              replace hg9 := hg9.symm
              subst hg9
              refine g_iload_n C dX4_leastRadius_33 rfl hl 2 rfl ?_
              refine g_icmp_ge (tgt := 42) C (by omega) (by omega) dX4_leastRadius_34 (by decide) (fun c_11 => ?_) (fun c_11 => ?_)
              · refine lv_iinc (v := iz (k + 1)) (lv' := [(2, .int (iz (k + 1))), (3, .ref (ad (po + 2 + (k).toNat))), (0, .ref (ad po)), (1, .int (iz le))]) C.1.1 C.1.2.1 dX4_leastRadius_42 hl (k := 3) rfl (g_inc (by omega)) (by decide) rfl (fun ls hl => ?_)
                refine g_goto (tgt := 5) C dX4_leastRadius_45 (by decide) ?_
                exact ih_lp_5_n_2 le (k + 1) (by omega) (by omega) (by omega) (by omega) (by have e0 : z_9 = lsr v k := h_10.2.2; rw [lsA_step v hk0, ← hle, if_neg (by omega)]) _ _ G _ (lv_sub hl [2, 3, 0] rfl)
              · refine g_aload_n C dX4_leastRadius_37 rfl hl 0 rfl ?_
                refine g_ci C G (g_runV (As := []) (rest := []) (pos := po + 2 + (k).toNat) C G (c_X3_leastRadius l κ B n ad g (po + 2 + (k).toNat) (v (4 * k + 1)) (v (4 * k + 2)) (v (4 * k + 3)) (v (4 * k + 4)) (by omega) (hpl.lay (by omega) (by omega)) hla.1) (cwV 0 C.1.2.2.2.2 gX4_leastRadius_X3_leastRadius rfl rfl rfl (by decide +kernel) ⟨Nat.le_of_ble_eq_true rfl, Nat.le_of_ble_eq_true rfl⟩) (by omega) (hpl.lay (by omega) (by omega)) (T := TX3) (N := 4) rfl rfl hl rfl (Nat.le_of_ble_eq_true rfl) dX4_leastRadius_38 ⟨Nat.le_of_ble_eq_true rfl, Nat.le_of_ble_eq_true rfl⟩) (fun z_12 g9 H locs hw G => ?_)
                obtain ⟨hg9, h_13⟩ := hw
                replace hg9 := hg9.symm
                subst hg9
                refine lv_istore_n (lv' := [(1, .int (iz z_12)), (3, .ref (ad (po + 2 + (k).toNat))), (0, .ref (ad po)), (2, .int (iz k))]) C.1.1 C.1.2.1 dX4_leastRadius_41 rfl hl (by decide) rfl (fun ls hl => ?_)
                refine lv_iinc (v := iz (k + 1)) (lv' := [(2, .int (iz (k + 1))), (1, .int (iz z_12)), (3, .ref (ad (po + 2 + (k).toNat))), (0, .ref (ad po))]) C.1.1 C.1.2.1 dX4_leastRadius_42 hl (k := 3) rfl (g_inc (by omega)) (by decide) rfl (fun ls hl => ?_)
                refine g_goto (tgt := 5) C dX4_leastRadius_45 (by decide) ?_
                exact ih_lp_5_n_2 z_12 (k + 1) (by omega) (by omega) (by omega) (by omega) (by have e0 : z_9 = lsr v k := h_10.2.2; have e1 : z_12 = lsr v k := h_13.2.2; rw [lsA_step v hk0, ← hle, if_pos (by omega)]; omega) _ _ G _ (lv_sub hl [3, 1, 0] rfl)
          · cases hw
        · obtain ⟨hg9, ⟨b_5, hw⟩ | ⟨b_5, hw⟩⟩ := hw
          all_goals replace hg9 := hg9.symm
          all_goals subst hg9
          · cases hw
          · exact absurd (by omega) b_5
  exact lp_5_n_2 _ (-9) 0 (Nat.lt_succ_self _) (by omega) (by omega) (by omega) rfl _ _ G _ (lv_sub hl [2, 1, 0] rfl)
theorem fX4_greatestRadius_33 : gFld wsX4_greatestRadius RX4 33 4 1 := ⟨RX4, TX4, 6, rfl, by decide, by decide +kernel, by decide +kernel⟩
set_option maxHeartbeats 4000000 in
set_option maxRecDepth 100000 in
theorem c_X4_greatestRadius (l : Launch) (κ : gKap) (B n : Nat) (ad : Nat → Nat) (g : Nat → va_E) (po : Nat) (nl : Int) (v : Int → Int) (hpn : po + 10 ≤ n) (hpl : isPl κ ad g po nl v) (hok : okPl nl v) : Met l yX4_greatestRadius wsX4_greatestRadius ({ frames := 3, cells := 0, slots := 0, locals := 69 }) (gPre κ B n ad g [.ref (ad po)]) (gQi κ B n ad (fun z g' => g' = g ∧ (z = grA v nl.toNat ∧ (z = -9 ∨ (120 ≤ z ∧ z ≤ 280))))) 0 0 (gFree B) := by
  refine g_met RX4 (cc := cX4_greatestRadius) (maxL := 4) (ret := (some .int)) (by decide) rfl rfl (Nat.le_of_ble_eq_true rfl) ?_
  intro p e s m args below meth c C hr hlk hnm G ls hl
  have hl : lv_has ls 4 [(0, .ref (ad po))] := hl
  obtain ⟨hn6, hv0, hv25, hlay, hsee⟩ := id hok
  refine g_bipush (a := (-9)) C dX4_greatestRadius_0 (by decide) ?_
  refine lv_istore_n (lv' := [(1, .int (iz (-9))), (0, .ref (ad po))]) C.1.1 C.1.2.1 dX4_greatestRadius_2 rfl hl (by decide) rfl (fun ls hl => ?_)
  refine g_iconst (a := 0) C dX4_greatestRadius_3 rfl ?_
  refine lv_istore_n (lv' := [(2, .int (iz 0)), (1, .int (iz (-9))), (0, .ref (ad po))]) C.1.1 C.1.2.1 dX4_greatestRadius_4 rfl hl (by decide) rfl (fun ls hl => ?_)
  have lp_5_n_2 : ∀ (k_1 : Nat) (le : Int) (k : Int), (nl - k).toNat < k_1 → (0 ≤ k) → (k ≤ nl) → (le = -9 ∨ (120 ≤ le ∧ le ≤ 280)) → (le = grA v k.toNat) → ∀ (H : Heap) (locs : List Loc), gG κ B n ad s g H locs → ∀ (ls : Array Slot), lv_has ls 4 [(0, .ref (ad po)), (1, .int (iz le)), (2, .int (iz k))] → W p l e ({ frames := 3, cells := 0, slots := 0, locals := 69 }) s m args below meth c H locs 0 0 (MQ below (gQi κ B n ad (fun z g' => g' = g ∧ (z = grA v nl.toNat ∧ (z = -9 ∨ (120 ≤ z ∧ z ≤ 280))))) args s 0 0 (gFree B)) (F0 m 5 ls []) := by
    intro k_1
    induction k_1 with
    | zero => intro le k hm; exact absurd hm (Nat.not_lt_zero _)
    | succ k_1 ih_lp_5_n_2 =>
      intro le k hm hk0 hk1 hl0 hle H locs G ls hl
      refine g_iload_n C dX4_greatestRadius_5 rfl hl 2 rfl ?_
      refine g_aload_n C dX4_greatestRadius_6 rfl hl 0 rfl ?_
      refine g_get C G (pos := po) fX4_greatestRadius_33 (by omega) hpl.1 rfl dX4_greatestRadius_7 ?_
      refine g_icmp_ge (tgt := 42) C (by omega) (by omega) dX4_greatestRadius_10 (by decide) (fun c_3 => ?_) (fun c_3 => ?_)
      · refine g_iload_n C dX4_greatestRadius_42 rfl hl 1 rfl ?_
        refine g_iret C G hr hlk (Nat.le_of_ble_eq_true rfl) (Nat.le_of_ble_eq_true rfl) dX4_greatestRadius_43 ?_
        have hk9 : k = nl := by omega
        subst hk9
        exact ⟨rfl, hle, hl0⟩
      · refine g_aload_n C dX4_greatestRadius_13 rfl hl 0 rfl ?_
        refine g_iload_n C dX4_greatestRadius_14 rfl hl 2 rfl ?_
        refine g_co C G (g_runV (As := [.int (iz k)]) (rest := []) (pos := po) C G (c_X4_find l κ B n ad g po nl v k (by omega) hpl (by omega) (by omega)) (cwV 1 C.1.2.2.2.2 gX4_greatestRadius_X4_find rfl rfl rfl (by decide +kernel) ⟨Nat.le_of_ble_eq_true rfl, Nat.le_of_ble_eq_true rfl⟩) (by omega) hpl.1 (T := TX4) (N := 6) rfl rfl hl rfl (Nat.le_of_ble_eq_true rfl) dX4_greatestRadius_15 ⟨Nat.le_of_ble_eq_true rfl, Nat.le_of_ble_eq_true rfl⟩) (fun q_4 g9 H locs hw G => ?_) (fun g9 H locs hw G => ?_)
        · obtain ⟨hg9, ⟨b_5, hw⟩ | ⟨b_5, hw⟩⟩ := hw
          all_goals replace hg9 := hg9.symm
          all_goals subst hg9
          · cases hw
            have hla := hlay k hk0 (by omega)
            refine lv_astore_n (lv' := [(3, .ref (ad (po + 2 + (k).toNat))), (0, .ref (ad po)), (1, .int (iz le)), (2, .int (iz k))]) C.1.1 C.1.2.1 dX4_greatestRadius_18 rfl hl (by decide) rfl (fun ls hl => ?_)
            refine g_aload_n C dX4_greatestRadius_19 rfl hl 0 rfl ?_
            refine lv_ifnull C.1.1 C.1.2.1 dX4_greatestRadius_20 ?_
            refine g_aload_n C dX4_greatestRadius_23 rfl hl 0 rfl ?_
            refine g_ci C G (g_runV (As := []) (rest := []) (pos := po + 2 + (k).toNat) C G (c_X3_greatestRadius l κ B n ad g (po + 2 + (k).toNat) (v (4 * k + 1)) (v (4 * k + 2)) (v (4 * k + 3)) (v (4 * k + 4)) (by omega) (hpl.lay (by omega) (by omega)) hla.1) (cwV 0 C.1.2.2.2.2 gX4_greatestRadius_X3_greatestRadius rfl rfl rfl (by decide +kernel) ⟨Nat.le_of_ble_eq_true rfl, Nat.le_of_ble_eq_true rfl⟩) (by omega) (hpl.lay (by omega) (by omega)) (T := TX3) (N := 4) rfl rfl hl rfl (Nat.le_of_ble_eq_true rfl) dX4_greatestRadius_24 ⟨Nat.le_of_ble_eq_true rfl, Nat.le_of_ble_eq_true rfl⟩) (fun z_6 g9 H locs hw G => ?_)
            obtain ⟨hg9, h_7⟩ := hw
            replace hg9 := hg9.symm
            subst hg9
            refine g_iload_n C dX4_greatestRadius_27 rfl hl 2 rfl ?_
            refine g_icmp_le (tgt := 36) C (by omega) (by omega) dX4_greatestRadius_28 (by decide) (fun c_8 => ?_) (fun c_8 => ?_)
            · refine lv_iinc (v := iz (k + 1)) (lv' := [(2, .int (iz (k + 1))), (3, .ref (ad (po + 2 + (k).toNat))), (0, .ref (ad po)), (1, .int (iz le))]) C.1.1 C.1.2.1 dX4_greatestRadius_36 hl (k := 3) rfl (g_inc (by omega)) (by decide) rfl (fun ls hl => ?_)
              refine g_goto (tgt := 5) C dX4_greatestRadius_39 (by decide) ?_
              exact ih_lp_5_n_2 le (k + 1) (by omega) (by omega) (by omega) (by omega) (by have e0 : z_6 = grr v k := h_7.2.2; rw [grA_step v hk0, ← hle, if_neg (by omega)]) _ _ G _ (lv_sub hl [2, 3, 0] rfl)
            · refine g_aload_n C dX4_greatestRadius_31 rfl hl 0 rfl ?_
              refine g_ci C G (g_runV (As := []) (rest := []) (pos := po + 2 + (k).toNat) C G (c_X3_greatestRadius l κ B n ad g (po + 2 + (k).toNat) (v (4 * k + 1)) (v (4 * k + 2)) (v (4 * k + 3)) (v (4 * k + 4)) (by omega) (hpl.lay (by omega) (by omega)) hla.1) (cwV 0 C.1.2.2.2.2 gX4_greatestRadius_X3_greatestRadius rfl rfl rfl (by decide +kernel) ⟨Nat.le_of_ble_eq_true rfl, Nat.le_of_ble_eq_true rfl⟩) (by omega) (hpl.lay (by omega) (by omega)) (T := TX3) (N := 4) rfl rfl hl rfl (Nat.le_of_ble_eq_true rfl) dX4_greatestRadius_32 ⟨Nat.le_of_ble_eq_true rfl, Nat.le_of_ble_eq_true rfl⟩) (fun z_9 g9 H locs hw G => ?_)
              obtain ⟨hg9, h_10⟩ := hw
              replace hg9 := hg9.symm
              subst hg9
              refine lv_istore_n (lv' := [(1, .int (iz z_9)), (3, .ref (ad (po + 2 + (k).toNat))), (0, .ref (ad po)), (2, .int (iz k))]) C.1.1 C.1.2.1 dX4_greatestRadius_35 rfl hl (by decide) rfl (fun ls hl => ?_)
              refine lv_iinc (v := iz (k + 1)) (lv' := [(2, .int (iz (k + 1))), (1, .int (iz z_9)), (3, .ref (ad (po + 2 + (k).toNat))), (0, .ref (ad po))]) C.1.1 C.1.2.1 dX4_greatestRadius_36 hl (k := 3) rfl (g_inc (by omega)) (by decide) rfl (fun ls hl => ?_)
              refine g_goto (tgt := 5) C dX4_greatestRadius_39 (by decide) ?_
              exact ih_lp_5_n_2 z_9 (k + 1) (by omega) (by omega) (by omega) (by omega) (by have e0 : z_6 = grr v k := h_7.2.2; have e1 : z_9 = grr v k := h_10.2.2; rw [grA_step v hk0, ← hle, if_pos (by omega)]; omega) _ _ G _ (lv_sub hl [3, 1, 0] rfl)
          · cases hw
        · obtain ⟨hg9, ⟨b_5, hw⟩ | ⟨b_5, hw⟩⟩ := hw
          all_goals replace hg9 := hg9.symm
          all_goals subst hg9
          · cases hw
          · exact absurd (by omega) b_5
  exact lp_5_n_2 _ (-9) 0 (Nat.lt_succ_self _) (by omega) (by omega) (by omega) rfl _ _ G _ (lv_sub hl [2, 1, 0] rfl)
theorem fX4_isCutBefore_9 : gFld wsX4_isCutBefore RX4 9 4 0 := ⟨RX4, TX4, 6, rfl, by decide, by decide +kernel, by decide +kernel⟩
set_option maxHeartbeats 4000000 in
set_option maxRecDepth 100000 in
theorem c_X4_isCutBefore (l : Launch) (κ : gKap) (B n : Nat) (ad : Nat → Nat) (g : Nat → va_E) (po : Nat) (nl : Int) (v : Int → Int) (k : Int) (li : Int) (hpn : po + 10 ≤ n) (hpl : isPl κ ad g po nl v) (hok : okPl nl v) (hk : 0 ≤ k ∧ k < nl) (hl9 : 0 ≤ li ∧ li < nl) : Met l yX4_isCutBefore wsX4_isCutBefore ({ frames := 2, cells := 0, slots := 0, locals := 51 }) (gPre κ B n ad g [.ref (ad po), .int (iz k), .int (iz li)]) (gQi κ B n ad (fun z g' => g' = g ∧ (((CBf v k li) ∧ z = 1) ∨ (¬ (CBf v k li) ∧ z = 0)))) 0 0 (gFree B) := by
  refine g_met RX4 (cc := cX4_isCutBefore) (maxL := 5) (ret := (some .boolean)) (by decide) rfl rfl (Nat.le_of_ble_eq_true rfl) ?_
  intro p e s m args below meth c C hr hlk hnm G ls hl
  have hl : lv_has ls 5 [(0, .ref (ad po)), (1, .int (iz k)), (2, .int (iz li))] := hl
  obtain ⟨hn6, hv0, hv25, hlay, hsee⟩ := id hok
  have hka := hlay k hk.1 hk.2
  have hla := hlay li hl9.1 hl9.2
  refine g_aload_n C dX4_isCutBefore_0 rfl hl 0 rfl ?_
  refine g_iload_n C dX4_isCutBefore_1 rfl hl 1 rfl ?_
  refine g_co C G (g_runV (As := [.int (iz k)]) (rest := []) (pos := po) C G (c_X4_find l κ B n ad g po nl v k (by omega) hpl (by omega) (by omega)) (cwV 1 C.1.2.2.2.2 gX4_isCutBefore_X4_find rfl rfl rfl (by decide +kernel) ⟨Nat.le_of_ble_eq_true rfl, Nat.le_of_ble_eq_true rfl⟩) (by omega) hpl.1 (T := TX4) (N := 6) rfl rfl hl rfl (Nat.le_of_ble_eq_true rfl) dX4_isCutBefore_2 ⟨Nat.le_of_ble_eq_true rfl, Nat.le_of_ble_eq_true rfl⟩) (fun q_1 g9 H locs hw G => ?_) (fun g9 H locs hw G => ?_)
  · obtain ⟨hg9, ⟨b_2, hw⟩ | ⟨b_2, hw⟩⟩ := hw
    all_goals replace hg9 := hg9.symm
    all_goals subst hg9
    · cases hw
      refine lv_astore_n (lv' := [(3, .ref (ad (po + 2 + (k).toNat))), (0, .ref (ad po)), (1, .int (iz k)), (2, .int (iz li))]) C.1.1 C.1.2.1 dX4_isCutBefore_5 rfl hl (by decide) rfl (fun ls hl => ?_)
      refine g_aload_n C dX4_isCutBefore_6 rfl hl 1 rfl ?_
      refine g_iload_n C dX4_isCutBefore_7 rfl hl 3 rfl ?_
      refine g_co C G (g_runV (As := [.int (iz li)]) (rest := []) (pos := po) C G (c_X4_find l κ B n ad g po nl v li (by omega) hpl (by omega) (by omega)) (cwV 1 C.1.2.2.2.2 gX4_isCutBefore_X4_find rfl rfl rfl (by decide +kernel) ⟨Nat.le_of_ble_eq_true rfl, Nat.le_of_ble_eq_true rfl⟩) (by omega) hpl.1 (T := TX4) (N := 6) rfl rfl hl rfl (Nat.le_of_ble_eq_true rfl) dX4_isCutBefore_8 ⟨Nat.le_of_ble_eq_true rfl, Nat.le_of_ble_eq_true rfl⟩) (fun q_3 g9 H locs hw G => ?_) (fun g9 H locs hw G => ?_)
      · obtain ⟨hg9, ⟨b_4, hw⟩ | ⟨b_4, hw⟩⟩ := hw
        all_goals replace hg9 := hg9.symm
        all_goals subst hg9
        · cases hw
          refine lv_astore (lv' := [(4, .ref (ad (po + 2 + (li).toNat))), (3, .ref (ad (po + 2 + (k).toNat))), (0, .ref (ad po)), (1, .int (iz k)), (2, .int (iz li))]) C.1.1 C.1.2.1 dX4_isCutBefore_11 hl (by decide) rfl (fun ls hl => ?_)
          refine g_aload_n C dX4_isCutBefore_13 rfl hl 1 rfl ?_
          refine lv_ifnull C.1.1 C.1.2.1 dX4_isCutBefore_14 ?_
          refine g_aload C dX4_isCutBefore_17 hl 0 rfl ?_
          refine lv_ifnonnull (tgt := 24) C.1.1 C.1.2.1 dX4_isCutBefore_19 (by decide) ?_
          refine g_aload_n C dX4_isCutBefore_24 rfl hl 1 rfl ?_
          refine g_aload_n C dX4_isCutBefore_25 rfl hl 2 rfl ?_
          refine g_get C G (pos := po) fX4_isCutBefore_9 (by omega) hpl.1 rfl dX4_isCutBefore_26 ?_
          refine g_ci C G (g_runV (As := [.int (iz (v 0))]) (rest := []) (pos := po + 2 + (k).toNat) C G (c_X3_turns l κ B n ad g (po + 2 + (k).toNat) (v (4 * k + 1)) (v (4 * k + 2)) (v (4 * k + 3)) (v (4 * k + 4)) (v 0) (by omega) (hpl.lay (by omega) (by omega)) hka.1 (by omega)) (cwV 1 C.1.2.2.2.2 gX4_isCutBefore_X3_turns rfl rfl rfl (by decide +kernel) ⟨Nat.le_of_ble_eq_true rfl, Nat.le_of_ble_eq_true rfl⟩) (by omega) (hpl.lay (by omega) (by omega)) (T := TX3) (N := 4) rfl rfl hl rfl (Nat.le_of_ble_eq_true rfl) dX4_isCutBefore_29 ⟨Nat.le_of_ble_eq_true rfl, Nat.le_of_ble_eq_true rfl⟩) (fun z_5 g9 H locs hw G => ?_)
          obtain ⟨hg9, h_6⟩ := hw
          replace hg9 := hg9.symm
          subst hg9
          refine g_aload C dX4_isCutBefore_32 hl 0 rfl ?_
          refine g_aload_n C dX4_isCutBefore_34 rfl hl 2 rfl ?_
          refine g_get C G (pos := po) fX4_isCutBefore_9 (by omega) hpl.1 rfl dX4_isCutBefore_35 ?_
          refine g_ci C G (g_runV (As := [.int (iz (v 0))]) (rest := [.int (iz z_5)]) (pos := po + 2 + (li).toNat) C G (c_X3_turns l κ B n ad g (po + 2 + (li).toNat) (v (4 * li + 1)) (v (4 * li + 2)) (v (4 * li + 3)) (v (4 * li + 4)) (v 0) (by omega) (hpl.lay (by omega) (by omega)) hla.1 (by omega)) (cwV 1 C.1.2.2.2.2 gX4_isCutBefore_X3_turns rfl rfl rfl (by decide +kernel) ⟨Nat.le_of_ble_eq_true rfl, Nat.le_of_ble_eq_true rfl⟩) (by omega) (hpl.lay (by omega) (by omega)) (T := TX3) (N := 4) rfl rfl hl rfl (Nat.le_of_ble_eq_true rfl) dX4_isCutBefore_38 ⟨Nat.le_of_ble_eq_true rfl, Nat.le_of_ble_eq_true rfl⟩) (fun z_7 g9 H locs hw G => ?_)
          obtain ⟨hg9, h_8⟩ := hw
          replace hg9 := hg9.symm
          subst hg9
          refine g_icmp_eq (tgt := 70) C (by omega) (by omega) dX4_isCutBefore_41 (by decide) (fun c_9 => ?_) (fun c_9 => ?_)
          · refine g_aload_n C dX4_isCutBefore_70 rfl hl 1 rfl ?_
            refine g_aload_n C dX4_isCutBefore_71 rfl hl 2 rfl ?_
            refine g_get C G (pos := po) fX4_isCutBefore_9 (by omega) hpl.1 rfl dX4_isCutBefore_72 ?_
            refine g_ci C G (g_runV (As := [.int (iz (v 0))]) (rest := []) (pos := po + 2 + (k).toNat) C G (c_X3_lobes l κ B n ad g (po + 2 + (k).toNat) (v (4 * k + 1)) (v (4 * k + 2)) (v (4 * k + 3)) (v (4 * k + 4)) (v 0) (by omega) (hpl.lay (by omega) (by omega)) hka.1 (by omega)) (cwV 1 C.1.2.2.2.2 gX4_isCutBefore_X3_lobes rfl rfl rfl (by decide +kernel) ⟨Nat.le_of_ble_eq_true rfl, Nat.le_of_ble_eq_true rfl⟩) (by omega) (hpl.lay (by omega) (by omega)) (T := TX3) (N := 4) rfl rfl hl rfl (Nat.le_of_ble_eq_true rfl) dX4_isCutBefore_75 ⟨Nat.le_of_ble_eq_true rfl, Nat.le_of_ble_eq_true rfl⟩) (fun z_10 g9 H locs hw G => ?_)
            obtain ⟨hg9, h_11⟩ := hw
            replace hg9 := hg9.symm
            subst hg9
            refine g_aload C dX4_isCutBefore_78 hl 0 rfl ?_
            refine g_aload_n C dX4_isCutBefore_80 rfl hl 2 rfl ?_
            refine g_get C G (pos := po) fX4_isCutBefore_9 (by omega) hpl.1 rfl dX4_isCutBefore_81 ?_
            refine g_ci C G (g_runV (As := [.int (iz (v 0))]) (rest := [.int (iz z_10)]) (pos := po + 2 + (li).toNat) C G (c_X3_lobes l κ B n ad g (po + 2 + (li).toNat) (v (4 * li + 1)) (v (4 * li + 2)) (v (4 * li + 3)) (v (4 * li + 4)) (v 0) (by omega) (hpl.lay (by omega) (by omega)) hla.1 (by omega)) (cwV 1 C.1.2.2.2.2 gX4_isCutBefore_X3_lobes rfl rfl rfl (by decide +kernel) ⟨Nat.le_of_ble_eq_true rfl, Nat.le_of_ble_eq_true rfl⟩) (by omega) (hpl.lay (by omega) (by omega)) (T := TX3) (N := 4) rfl rfl hl rfl (Nat.le_of_ble_eq_true rfl) dX4_isCutBefore_84 ⟨Nat.le_of_ble_eq_true rfl, Nat.le_of_ble_eq_true rfl⟩) (fun z_12 g9 H locs hw G => ?_)
            obtain ⟨hg9, h_13⟩ := hw
            replace hg9 := hg9.symm
            subst hg9
            refine g_icmp_eq (tgt := 116) C (by omega) (by omega) dX4_isCutBefore_87 (by decide) (fun c_14 => ?_) (fun c_14 => ?_)
            · refine g_iload_n C dX4_isCutBefore_116 rfl hl 3 rfl ?_
              refine g_iload_n C dX4_isCutBefore_117 rfl hl 4 rfl ?_
              refine g_icmp_ge (tgt := 125) C (by omega) (by omega) dX4_isCutBefore_118 (by decide) (fun c_15 => ?_) (fun c_15 => ?_)
              · refine g_iconst (a := 0) C dX4_isCutBefore_125 rfl ?_
                refine g_zret C G hr hlk (by decide) (Nat.le_of_ble_eq_true rfl) (Nat.le_of_ble_eq_true rfl) dX4_isCutBefore_126 ?_
                have e0 := h_6.2.2
                have e1 := h_8.2.2
                have e4 := h_11.2.2
                have e5 := h_13.2.2
                refine ⟨rfl, ?_⟩
                unfold CBf
                refine Or.inr ⟨?_, rfl⟩
                repeat' split
                all_goals omega
              · refine g_iconst (a := 1) C dX4_isCutBefore_121 rfl ?_
                refine g_goto (tgt := 126) C dX4_isCutBefore_122 (by decide) ?_
                refine g_zret C G hr hlk (by decide) (Nat.le_of_ble_eq_true rfl) (Nat.le_of_ble_eq_true rfl) dX4_isCutBefore_126 ?_
                have e0 := h_6.2.2
                have e1 := h_8.2.2
                have e4 := h_11.2.2
                have e5 := h_13.2.2
                refine ⟨rfl, ?_⟩
                unfold CBf
                refine Or.inl ⟨?_, rfl⟩
                repeat' split
                all_goals omega
            · refine g_aload_n C dX4_isCutBefore_90 rfl hl 1 rfl ?_
              refine g_aload_n C dX4_isCutBefore_91 rfl hl 2 rfl ?_
              refine g_get C G (pos := po) fX4_isCutBefore_9 (by omega) hpl.1 rfl dX4_isCutBefore_92 ?_
              refine g_ci C G (g_runV (As := [.int (iz (v 0))]) (rest := []) (pos := po + 2 + (k).toNat) C G (c_X3_lobes l κ B n ad g (po + 2 + (k).toNat) (v (4 * k + 1)) (v (4 * k + 2)) (v (4 * k + 3)) (v (4 * k + 4)) (v 0) (by omega) (hpl.lay (by omega) (by omega)) hka.1 (by omega)) (cwV 1 C.1.2.2.2.2 gX4_isCutBefore_X3_lobes rfl rfl rfl (by decide +kernel) ⟨Nat.le_of_ble_eq_true rfl, Nat.le_of_ble_eq_true rfl⟩) (by omega) (hpl.lay (by omega) (by omega)) (T := TX3) (N := 4) rfl rfl hl rfl (Nat.le_of_ble_eq_true rfl) dX4_isCutBefore_95 ⟨Nat.le_of_ble_eq_true rfl, Nat.le_of_ble_eq_true rfl⟩) (fun z_16 g9 H locs hw G => ?_)
              obtain ⟨hg9, h_17⟩ := hw
              replace hg9 := hg9.symm
              subst hg9
              refine g_aload C dX4_isCutBefore_98 hl 0 rfl ?_
              refine g_aload_n C dX4_isCutBefore_100 rfl hl 2 rfl ?_
              refine g_get C G (pos := po) fX4_isCutBefore_9 (by omega) hpl.1 rfl dX4_isCutBefore_101 ?_
              refine g_ci C G (g_runV (As := [.int (iz (v 0))]) (rest := [.int (iz z_16)]) (pos := po + 2 + (li).toNat) C G (c_X3_lobes l κ B n ad g (po + 2 + (li).toNat) (v (4 * li + 1)) (v (4 * li + 2)) (v (4 * li + 3)) (v (4 * li + 4)) (v 0) (by omega) (hpl.lay (by omega) (by omega)) hla.1 (by omega)) (cwV 1 C.1.2.2.2.2 gX4_isCutBefore_X3_lobes rfl rfl rfl (by decide +kernel) ⟨Nat.le_of_ble_eq_true rfl, Nat.le_of_ble_eq_true rfl⟩) (by omega) (hpl.lay (by omega) (by omega)) (T := TX3) (N := 4) rfl rfl hl rfl (Nat.le_of_ble_eq_true rfl) dX4_isCutBefore_104 ⟨Nat.le_of_ble_eq_true rfl, Nat.le_of_ble_eq_true rfl⟩) (fun z_18 g9 H locs hw G => ?_)
              obtain ⟨hg9, h_19⟩ := hw
              replace hg9 := hg9.symm
              subst hg9
              refine g_icmp_le (tgt := 114) C (by omega) (by omega) dX4_isCutBefore_107 (by decide) (fun c_20 => ?_) (fun c_20 => ?_)
              · refine g_iconst (a := 0) C dX4_isCutBefore_114 rfl ?_
                refine g_zret C G hr hlk (by decide) (Nat.le_of_ble_eq_true rfl) (Nat.le_of_ble_eq_true rfl) dX4_isCutBefore_115 ?_
                have e0 := h_6.2.2
                have e1 := h_8.2.2
                have e4 := h_11.2.2
                have e5 := h_13.2.2
                have e6 := h_17.2.2
                have e7 := h_19.2.2
                refine ⟨rfl, ?_⟩
                unfold CBf
                refine Or.inr ⟨?_, rfl⟩
                repeat' split
                all_goals omega
              · refine g_iconst (a := 1) C dX4_isCutBefore_110 rfl ?_
                refine g_goto (tgt := 115) C dX4_isCutBefore_111 (by decide) ?_
                refine g_zret C G hr hlk (by decide) (Nat.le_of_ble_eq_true rfl) (Nat.le_of_ble_eq_true rfl) dX4_isCutBefore_115 ?_
                have e0 := h_6.2.2
                have e1 := h_8.2.2
                have e4 := h_11.2.2
                have e5 := h_13.2.2
                have e6 := h_17.2.2
                have e7 := h_19.2.2
                refine ⟨rfl, ?_⟩
                unfold CBf
                refine Or.inl ⟨?_, rfl⟩
                repeat' split
                all_goals omega
          · refine g_aload_n C dX4_isCutBefore_44 rfl hl 1 rfl ?_
            refine g_aload_n C dX4_isCutBefore_45 rfl hl 2 rfl ?_
            refine g_get C G (pos := po) fX4_isCutBefore_9 (by omega) hpl.1 rfl dX4_isCutBefore_46 ?_
            refine g_ci C G (g_runV (As := [.int (iz (v 0))]) (rest := []) (pos := po + 2 + (k).toNat) C G (c_X3_turns l κ B n ad g (po + 2 + (k).toNat) (v (4 * k + 1)) (v (4 * k + 2)) (v (4 * k + 3)) (v (4 * k + 4)) (v 0) (by omega) (hpl.lay (by omega) (by omega)) hka.1 (by omega)) (cwV 1 C.1.2.2.2.2 gX4_isCutBefore_X3_turns rfl rfl rfl (by decide +kernel) ⟨Nat.le_of_ble_eq_true rfl, Nat.le_of_ble_eq_true rfl⟩) (by omega) (hpl.lay (by omega) (by omega)) (T := TX3) (N := 4) rfl rfl hl rfl (Nat.le_of_ble_eq_true rfl) dX4_isCutBefore_49 ⟨Nat.le_of_ble_eq_true rfl, Nat.le_of_ble_eq_true rfl⟩) (fun z_21 g9 H locs hw G => ?_)
            obtain ⟨hg9, h_22⟩ := hw
            replace hg9 := hg9.symm
            subst hg9
            refine g_aload C dX4_isCutBefore_52 hl 0 rfl ?_
            refine g_aload_n C dX4_isCutBefore_54 rfl hl 2 rfl ?_
            refine g_get C G (pos := po) fX4_isCutBefore_9 (by omega) hpl.1 rfl dX4_isCutBefore_55 ?_
            refine g_ci C G (g_runV (As := [.int (iz (v 0))]) (rest := [.int (iz z_21)]) (pos := po + 2 + (li).toNat) C G (c_X3_turns l κ B n ad g (po + 2 + (li).toNat) (v (4 * li + 1)) (v (4 * li + 2)) (v (4 * li + 3)) (v (4 * li + 4)) (v 0) (by omega) (hpl.lay (by omega) (by omega)) hla.1 (by omega)) (cwV 1 C.1.2.2.2.2 gX4_isCutBefore_X3_turns rfl rfl rfl (by decide +kernel) ⟨Nat.le_of_ble_eq_true rfl, Nat.le_of_ble_eq_true rfl⟩) (by omega) (hpl.lay (by omega) (by omega)) (T := TX3) (N := 4) rfl rfl hl rfl (Nat.le_of_ble_eq_true rfl) dX4_isCutBefore_58 ⟨Nat.le_of_ble_eq_true rfl, Nat.le_of_ble_eq_true rfl⟩) (fun z_23 g9 H locs hw G => ?_)
            obtain ⟨hg9, h_24⟩ := hw
            replace hg9 := hg9.symm
            subst hg9
            refine g_icmp_ge (tgt := 68) C (by omega) (by omega) dX4_isCutBefore_61 (by decide) (fun c_25 => ?_) (fun c_25 => ?_)
            · refine g_iconst (a := 0) C dX4_isCutBefore_68 rfl ?_
              refine g_zret C G hr hlk (by decide) (Nat.le_of_ble_eq_true rfl) (Nat.le_of_ble_eq_true rfl) dX4_isCutBefore_69 ?_
              have e0 := h_6.2.2
              have e1 := h_8.2.2
              have e2 := h_22.2.2
              have e3 := h_24.2.2
              refine ⟨rfl, ?_⟩
              unfold CBf
              refine Or.inr ⟨?_, rfl⟩
              repeat' split
              all_goals omega
            · refine g_iconst (a := 1) C dX4_isCutBefore_64 rfl ?_
              refine g_goto (tgt := 69) C dX4_isCutBefore_65 (by decide) ?_
              refine g_zret C G hr hlk (by decide) (Nat.le_of_ble_eq_true rfl) (Nat.le_of_ble_eq_true rfl) dX4_isCutBefore_69 ?_
              have e0 := h_6.2.2
              have e1 := h_8.2.2
              have e2 := h_22.2.2
              have e3 := h_24.2.2
              refine ⟨rfl, ?_⟩
              unfold CBf
              refine Or.inl ⟨?_, rfl⟩
              repeat' split
              all_goals omega
        · cases hw
      · obtain ⟨hg9, ⟨b_4, hw⟩ | ⟨b_4, hw⟩⟩ := hw
        all_goals replace hg9 := hg9.symm
        all_goals subst hg9
        · cases hw
        · exact absurd (by omega) b_4
    · cases hw
  · obtain ⟨hg9, ⟨b_2, hw⟩ | ⟨b_2, hw⟩⟩ := hw
    all_goals replace hg9 := hg9.symm
    all_goals subst hg9
    · cases hw
    · exact absurd (by omega) b_2
theorem fX4_cutBefore_33 : gFld wsX4_cutBefore RX4 33 4 1 := ⟨RX4, TX4, 6, rfl, by decide, by decide +kernel, by decide +kernel⟩
set_option maxHeartbeats 4000000 in
set_option maxRecDepth 100000 in
theorem c_X4_cutBefore (l : Launch) (κ : gKap) (B n : Nat) (ad : Nat → Nat) (g : Nat → va_E) (po : Nat) (nl : Int) (v : Int → Int) (li : Int) (hpn : po + 10 ≤ n) (hpl : isPl κ ad g po nl v) (hok : okPl nl v) (hl9 : 0 ≤ li ∧ li < nl) : Met l yX4_cutBefore wsX4_cutBefore ({ frames := 3, cells := 0, slots := 0, locals := 75 }) (gPre κ B n ad g [.ref (ad po), .int (iz li)]) (gQi κ B n ad (fun z g' => g' = g ∧ (z = cutN nl v li ∧ 0 ≤ z ∧ z ≤ 6))) 0 0 (gFree B) := by
  refine g_met RX4 (cc := cX4_cutBefore) (maxL := 4) (ret := (some .int)) (by decide) rfl rfl (Nat.le_of_ble_eq_true rfl) ?_
  intro p e s m args below meth c C hr hlk hnm G ls hl
  have hl : lv_has ls 4 [(0, .ref (ad po)), (1, .int (iz li))] := hl
  obtain ⟨hn6, hv0, hv25, hlay, hsee⟩ := id hok
  refine g_iconst (a := 0) C dX4_cutBefore_0 rfl ?_
  refine lv_istore_n (lv' := [(2, .int (iz 0)), (0, .ref (ad po)), (1, .int (iz li))]) C.1.1 C.1.2.1 dX4_cutBefore_1 rfl hl (by decide) rfl (fun ls hl => ?_)
  refine g_iconst (a := 0) C dX4_cutBefore_2 rfl ?_
  refine lv_istore_n (lv' := [(3, .int (iz 0)), (2, .int (iz 0)), (0, .ref (ad po)), (1, .int (iz li))]) C.1.1 C.1.2.1 dX4_cutBefore_3 rfl hl (by decide) rfl (fun ls hl => ?_)
  have lp_4_n_2 : ∀ (k_1 : Nat) (num : Int) (k : Int), (nl - k).toNat < k_1 → (0 ≤ k) → (k ≤ nl) → (0 ≤ num ∧ num ≤ k) → (num = (fb_ct (fun l => dB ((fun k => k ≠ li ∧ CBf v k li) (l : Int))) k.toNat : Int)) → ∀ (H : Heap) (locs : List Loc), gG κ B n ad s g H locs → ∀ (ls : Array Slot), lv_has ls 4 [(0, .ref (ad po)), (1, .int (iz li)), (2, .int (iz num)), (3, .int (iz k))] → W p l e ({ frames := 3, cells := 0, slots := 0, locals := 75 }) s m args below meth c H locs 0 0 (MQ below (gQi κ B n ad (fun z g' => g' = g ∧ (z = cutN nl v li ∧ 0 ≤ z ∧ z ≤ 6))) args s 0 0 (gFree B)) (F0 m 4 ls []) := by
    intro k_1
    induction k_1 with
    | zero => intro num k hm; exact absurd hm (Nat.not_lt_zero _)
    | succ k_1 ih_lp_4_n_2 =>
      intro num k hm hk0 hk1 hn2 hnum H locs G ls hl
      refine g_iload_n C dX4_cutBefore_4 rfl hl 3 rfl ?_
      refine g_aload_n C dX4_cutBefore_5 rfl hl 0 rfl ?_
      refine g_get C G (pos := po) fX4_cutBefore_33 (by omega) hpl.1 rfl dX4_cutBefore_6 ?_
      refine g_icmp_ge (tgt := 35) C (by omega) (by omega) dX4_cutBefore_9 (by decide) (fun c_3 => ?_) (fun c_3 => ?_)
      · refine g_iload_n C dX4_cutBefore_35 rfl hl 2 rfl ?_
        refine g_iret C G hr hlk (Nat.le_of_ble_eq_true rfl) (Nat.le_of_ble_eq_true rfl) dX4_cutBefore_36 ?_
        have hk9 : k = nl := by omega
        subst hk9
        exact ⟨rfl, hnum, by omega⟩
      · refine g_iload_n C dX4_cutBefore_12 rfl hl 3 rfl ?_
        refine g_iload_n C dX4_cutBefore_13 rfl hl 1 rfl ?_
        refine g_icmp_eq (tgt := 29) C (by omega) (by omega) dX4_cutBefore_14 (by decide) (fun c_4 => ?_) (fun c_4 => ?_)
        · have hy9 : ¬ (fun k => k ≠ li ∧ CBf v k li) k := fun q => absurd q.1 (by omega)
          refine lv_iinc (v := iz (k + 1)) (lv' := [(3, .int (iz (k + 1))), (0, .ref (ad po)), (1, .int (iz li)), (2, .int (iz num))]) C.1.1 C.1.2.1 dX4_cutBefore_29 hl (k := 3) rfl (g_inc (by omega)) (by decide) rfl (fun ls hl => ?_)
          refine g_goto (tgt := 4) C dX4_cutBefore_32 (by decide) ?_
          exact ih_lp_4_n_2 num (k + 1) (by omega) (by omega) (by omega) (by omega) (ct_out (P := fun k => k ≠ li ∧ CBf v k li) hk0 hnum hy9) _ _ G _ (lv_sub hl [1, 2, 3, 0] rfl)
        · refine g_aload_n C dX4_cutBefore_17 rfl hl 0 rfl ?_
          refine g_iload_n C dX4_cutBefore_18 rfl hl 3 rfl ?_
          refine g_iload_n C dX4_cutBefore_19 rfl hl 1 rfl ?_
          refine g_ci C G (g_runV (As := [.int (iz k), .int (iz li)]) (rest := []) (pos := po) C G (c_X4_isCutBefore l κ B n ad g po nl v k li (by omega) hpl (by omega) (by omega) (by omega)) (cwV 2 C.1.2.2.2.2 gX4_cutBefore_X4_isCutBefore rfl rfl rfl (by decide +kernel) ⟨Nat.le_of_ble_eq_true rfl, Nat.le_of_ble_eq_true rfl⟩) (by omega) hpl.1 (T := TX4) (N := 6) rfl rfl hl rfl (Nat.le_of_ble_eq_true rfl) dX4_cutBefore_20 ⟨Nat.le_of_ble_eq_true rfl, Nat.le_of_ble_eq_true rfl⟩) (fun z_6 g9 H locs hw G => ?_)
          obtain ⟨hg9, hw⟩ := hw
          replace hg9 := hg9.symm
          subst hg9
          rcases hw with ⟨b_5, rfl⟩ | ⟨b_5, rfl⟩
          · have hy9 : (fun k => k ≠ li ∧ CBf v k li) k := ⟨by omega, b_5⟩
            refine g_if_eq (tgt := 29) C (by decide) dX4_cutBefore_23 (by decide) (fun c9 => absurd c9 (by decide)) (fun _ => ?_)
            refine lv_iinc (v := iz (num + 1)) (lv' := [(2, .int (iz (num + 1))), (0, .ref (ad po)), (1, .int (iz li)), (3, .int (iz k))]) C.1.1 C.1.2.1 dX4_cutBefore_26 hl (k := 2) rfl (g_inc (by omega)) (by decide) rfl (fun ls hl => ?_)
            refine lv_iinc (v := iz (k + 1)) (lv' := [(3, .int (iz (k + 1))), (2, .int (iz (num + 1))), (0, .ref (ad po)), (1, .int (iz li))]) C.1.1 C.1.2.1 dX4_cutBefore_29 hl (k := 3) rfl (g_inc (by omega)) (by decide) rfl (fun ls hl => ?_)
            refine g_goto (tgt := 4) C dX4_cutBefore_32 (by decide) ?_
            exact ih_lp_4_n_2 (num + 1) (k + 1) (by omega) (by omega) (by omega) (by omega) (ct_in (P := fun k => k ≠ li ∧ CBf v k li) hk0 hnum hy9) _ _ G _ (lv_sub hl [2, 3, 1, 0] rfl)
          · refine g_if_eq (tgt := 29) C (by decide) dX4_cutBefore_23 (by decide) (fun _ => ?_) (fun c9 => absurd c9 (by decide))
            have hy9 : ¬ (fun k => k ≠ li ∧ CBf v k li) k := fun q => absurd q.2 b_5
            refine lv_iinc (v := iz (k + 1)) (lv' := [(3, .int (iz (k + 1))), (0, .ref (ad po)), (1, .int (iz li)), (2, .int (iz num))]) C.1.1 C.1.2.1 dX4_cutBefore_29 hl (k := 3) rfl (g_inc (by omega)) (by decide) rfl (fun ls hl => ?_)
            refine g_goto (tgt := 4) C dX4_cutBefore_32 (by decide) ?_
            exact ih_lp_4_n_2 num (k + 1) (by omega) (by omega) (by omega) (by omega) (ct_out (P := fun k => k ≠ li ∧ CBf v k li) hk0 hnum hy9) _ _ G _ (lv_sub hl [1, 2, 3, 0] rfl)
  exact lp_4_n_2 _ 0 0 (Nat.lt_succ_self _) (by omega) (by omega) (by omega) rfl _ _ G _ (lv_sub hl [2, 3, 1, 0] rfl)
