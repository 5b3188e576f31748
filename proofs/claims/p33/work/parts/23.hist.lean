theorem fX2_stateAt_11 : gFld wsX2_stateAt RX2 11 2 0 := ⟨RX2, TX2, 3, rfl, by decide, by decide +kernel, by decide +kernel⟩
set_option maxHeartbeats 4000000 in
set_option maxRecDepth 100000 in
theorem c_X2_stateAt (l : Launch) (κ : gKap) (B n : Nat) (ad : Nat → Nat) (g : Nat → va_E) (ho : Nat) (old : Int) (cnt : Int) (P9 : Nat → Int × (Int → Int)) (pl : Int) (hhn : ho + 142 ≤ n) (hhi : isHi κ ad g ho old cnt P9) (hol : 0 ≤ old ∧ old < 14) (hct : 0 ≤ cnt ∧ cnt ≤ 14) (hpl9 : 0 ≤ pl ∧ pl ≤ 1000) : Met l yX2_stateAt wsX2_stateAt ({ frames := 0, cells := 0, slots := 0, locals := 0 }) (gPre κ B n ad g [.ref (ad ho), .int (iz pl)]) (gQo κ B n ad (fun o g' => g' = g ∧ (((0 ≤ pl) ∧ o = some (ho + 2 + 10 * (pl % 14).toNat)) ∨ (¬ (0 ≤ pl) ∧ o = none)))) 0 0 (gFree B) := by
  refine g_met RX2 (cc := cX2_stateAt) (maxL := 3) (ret := (some (.object "RosettePlate$Plate"))) (by decide) rfl rfl (Nat.le_of_ble_eq_true rfl) ?_
  intro p e s m args below meth c C hr hlk hnm G ls hl
  have hl : lv_has ls 3 [(0, .ref (ad ho)), (1, .int (iz pl))] := hl
  refine g_iload_n C dX2_stateAt_0 rfl hl 1 rfl ?_
  refine g_bipush (a := 14) C dX2_stateAt_1 (by decide) ?_
  refine g_irem C (by omega) (by decide) (by decide) dX2_stateAt_3 ?_
  rw [show (Int.tmod pl 14 : Int) = pl % 14 from (tmod_pos (by omega))]
  refine lv_istore_n (lv' := [(2, .int (iz (pl % 14))), (0, .ref (ad ho)), (1, .int (iz pl))]) C.1.1 C.1.2.1 dX2_stateAt_4 rfl hl (by decide) rfl (fun ls hl => ?_)
  refine g_iload_n C dX2_stateAt_5 rfl hl 0 rfl ?_
  refine g_if_lt (tgt := 27) C (by omega) dX2_stateAt_6 (by decide) (fun c_1 => ?_) (fun c_1 => ?_)
  · refine lv_null C.1.1 C.1.2.1 dX2_stateAt_27 ?_
    refine g_aretN C G hr hlk (Nat.le_of_ble_eq_true rfl) (Nat.le_of_ble_eq_true rfl) dX2_stateAt_28 ?_
    omega
  · refine g_iload_n C dX2_stateAt_9 rfl hl 0 rfl ?_
    refine g_aload_n C dX2_stateAt_10 rfl hl 1 rfl ?_
    refine g_get C G (pos := ho) fX2_stateAt_11 (by omega) hhi.1 rfl dX2_stateAt_11 ?_
    refine g_alenPl C G (pos := ho + 1) (by omega) hhi.2.1 dX2_stateAt_14 ?_
    show W p l e _ s m args below meth c _ _ _ _ _ (F0 m _ ls (.int (iz 14) :: _))
    refine g_icmp_ge (tgt := 27) C (by omega) (by decide) dX2_stateAt_15 (by decide) (fun c_2 => ?_) (fun c_2 => ?_)
    · refine lv_null C.1.1 C.1.2.1 dX2_stateAt_27 ?_
      refine g_aretN C G hr hlk (Nat.le_of_ble_eq_true rfl) (Nat.le_of_ble_eq_true rfl) dX2_stateAt_28 ?_
      omega
    · refine g_aload_n C dX2_stateAt_18 rfl hl 1 rfl ?_
      refine g_get C G (pos := ho) fX2_stateAt_11 (by omega) hhi.1 rfl dX2_stateAt_19 ?_
      refine g_iload_n C dX2_stateAt_22 rfl hl 0 rfl ?_
      refine g_aaloadPl C G (pos := ho + 1) (by omega) hhi.2.1 (by omega) (by omega) (by omega) (if_pos (by omega)) dX2_stateAt_23 ?_
      refine g_goto (tgt := 28) C dX2_stateAt_24 (by decide) ?_
      refine g_aret C G hr hlk (Nat.le_of_ble_eq_true rfl) (Nat.le_of_ble_eq_true rfl) dX2_stateAt_28 ?_
      exact ⟨rfl, Or.inl ⟨by omega, rfl⟩⟩
theorem fX2_remember_18 : gFld wsX2_remember RX2 18 2 1 := ⟨RX2, TX2, 3, rfl, by decide, by decide +kernel, by decide +kernel⟩
theorem fX2_remember_22 : gFld wsX2_remember RX2 22 2 2 := ⟨RX2, TX2, 3, rfl, by decide, by decide +kernel, by decide +kernel⟩
theorem fwX2_remember_18 : gFldW wsX2_remember RX2 18 2 1 .int false := ⟨RX2, TX2, 3, tyX2, rfl, by decide, by decide +kernel, by decide +kernel, tyX2_ok, nmX2, rfl, by decide +kernel, by decide +kernel⟩
theorem fwX2_remember_22 : gFldW wsX2_remember RX2 22 2 2 .int false := ⟨RX2, TX2, 3, tyX2, rfl, by decide, by decide +kernel, by decide +kernel, tyX2_ok, nmX2, rfl, by decide +kernel, by decide +kernel⟩
set_option maxHeartbeats 4000000 in
set_option maxRecDepth 100000 in
theorem c_X2_remember (l : Launch) (κ : gKap) (B n : Nat) (ad : Nat → Nat) (g : Nat → va_E) (ho : Nat) (old : Int) (cnt : Int) (P9 : Nat → Int × (Int → Int)) (pp : Nat) (nl : Int) (v : Int → Int) (hhn : ho + 142 ≤ n) (hhi : isHi κ ad g ho old cnt P9) (hol : 0 ≤ old ∧ old < 14) (hct : 0 ≤ cnt ∧ cnt ≤ 14) (hpn2 : pp + 10 ≤ n) (hpl2 : isPl κ ad g pp nl v) (hdis : pp + 10 ≤ ho ∨ ho + 142 ≤ pp) (hok : okPl nl v) (hin : inV v) (hinP : ∀ j : Nat, j < 14 → inV (P9 j).2) : Met l yX2_remember wsX2_remember ({ frames := 3, cells := 0, slots := 0, locals := 72 }) (gPre κ B n ad g [.ref (ad ho), .ref (ad pp)]) (gQv κ B n ad (fun g' => ∃ U9, isHi κ ad g' ho (if cnt < 14 then old else (old + 1) % 14) (remC cnt) (fun j => if j = ((old + cnt) % 14).toNat then (nl, U9) else P9 j) ∧ sim nl U9 v ∧ inV U9 ∧ ∀ q, q < ho ∨ ho + 142 ≤ q → g' q = g q)) 0 0 (gFree B) := by
  refine g_met RX2 (cc := cX2_remember) (maxL := 3) (ret := none) (by decide) rfl rfl (Nat.le_of_ble_eq_true rfl) ?_
  intro p e s m args below meth c C hr hlk hnm G ls hl
  have hl : lv_has ls 3 [(0, .ref (ad ho)), (1, .ref (ad pp))] := hl
  refine g_aload_n C dX2_remember_0 rfl hl 0 rfl ?_
  refine g_aload_n C dX2_remember_1 rfl hl 0 rfl ?_
  refine g_get C G (pos := ho) fX2_remember_18 (by omega) hhi.1 rfl dX2_remember_2 ?_
  refine g_aload_n C dX2_remember_5 rfl hl 0 rfl ?_
  refine g_get C G (pos := ho) fX2_remember_22 (by omega) hhi.1 rfl dX2_remember_6 ?_
  refine g_iadd C dX2_remember_9 ?_
  refine g_co C G (g_runV (As := [.int (iz (old + cnt))]) (rest := []) (pos := ho) C G (c_X2_stateAt l κ B n ad g ho old cnt P9 (old + cnt) (by omega) hhi (by omega) (by omega) (by omega)) (cwV 1 C.1.2.2.2.2 gX2_remember_X2_stateAt rfl rfl rfl (by decide +kernel) ⟨Nat.le_of_ble_eq_true rfl, Nat.le_of_ble_eq_true rfl⟩) (by omega) hhi.1 (T := TX2) (N := 3) rfl rfl hl rfl (Nat.le_of_ble_eq_true rfl) dX2_remember_10 ⟨Nat.le_of_ble_eq_true rfl, Nat.le_of_ble_eq_true rfl⟩) (fun q_1 g9 H locs hw G => ?_) (fun g9 H locs hw G => ?_)
  · obtain ⟨hg9, ⟨b_2, hw⟩ | ⟨b_2, hw⟩⟩ := hw
    all_goals replace hg9 := hg9.symm
    all_goals subst hg9
    · cases hw
      refine lv_astore_n (lv' := [(2, .ref (ad (ho + 2 + 10 * ((old + cnt) % 14).toNat))), (0, .ref (ad ho)), (1, .ref (ad pp))]) C.1.1 C.1.2.1 dX2_remember_13 rfl hl (by decide) rfl (fun ls hl => ?_)
      refine g_aload_n C dX2_remember_14 rfl hl 0 rfl ?_
      refine lv_ifnull C.1.1 C.1.2.1 dX2_remember_15 ?_
      refine g_aload_n C dX2_remember_18 rfl hl 0 rfl ?_
      refine g_aload_n C dX2_remember_19 rfl hl 2 rfl ?_
      refine g_cv C G (g_runV (As := [.ref (ad pp)]) (rest := []) (pos := ho + 2 + 10 * ((old + cnt) % 14).toNat) C G (c_X4_become l κ B n ad g (ho + 2 + 10 * ((old + cnt) % 14).toNat) ((P9 ((old + cnt) % 14).toNat).1) ((P9 ((old + cnt) % 14).toNat).2) pp nl v (by omega) (hhi.2.2 ((old + cnt) % 14).toNat (by omega)) (by omega) hpl2 (by omega) hok.1 hok.2.2.1 (hinP ((old + cnt) % 14).toNat (by omega)) hin) (cwV 1 C.1.2.2.2.2 gX2_remember_X4_become rfl rfl rfl (by decide +kernel) ⟨Nat.le_of_ble_eq_true rfl, Nat.le_of_ble_eq_true rfl⟩) (by omega) (hhi.2.2 ((old + cnt) % 14).toNat (by omega)).1 (T := TX4) (N := 6) rfl rfl hl rfl (Nat.le_of_ble_eq_true rfl) dX2_remember_20 ⟨Nat.le_of_ble_eq_true rfl, Nat.le_of_ble_eq_true rfl⟩) (fun g_3 H locs hw9 G => ?_)
      obtain ⟨v_7, hpl_4, hfr_5, hx_6⟩ := hw9
      have hc_8 : g_3 ho = .inr (2, [.ref (ad (ho + 1)), .int (iz old), .int (iz cnt)]) := (hfr_5 _ (by omega)).trans hhi.1
      have hc_9 : g_3 (ho + 1) = aPl κ 14 (fun j => if j < 14 then some (ad (ho + 2 + 10 * j)) else none) := (hfr_5 _ (by omega)).trans hhi.2.1
      have hpl_10 : isPl κ ad g_3 pp nl v := hpl2.far (fun _ _ _ => hfr_5 _ (by omega))
      refine g_aload_n C dX2_remember_23 rfl hl 1 rfl ?_
      refine g_get C G (pos := ho) fX2_remember_22 (by omega) hc_8 rfl dX2_remember_24 ?_
      refine g_bipush (a := 14) C dX2_remember_27 (by decide) ?_
      refine g_icmp_ge (tgt := 45) C (by omega) (by decide) dX2_remember_29 (by decide) (fun c_11 => ?_) (fun c_11 => ?_)
      · refine g_aload_n C dX2_remember_45 rfl hl 1 rfl ?_
        refine g_aload_n C dX2_remember_46 rfl hl 1 rfl ?_
        refine g_get C G (pos := ho) fX2_remember_18 (by omega) hc_8 rfl dX2_remember_47 ?_
        refine g_iconst (a := 1) C dX2_remember_50 rfl ?_
        refine g_iadd C dX2_remember_51 ?_
        refine g_bipush (a := 14) C dX2_remember_52 (by decide) ?_
        refine g_irem C (by omega) (by decide) (by decide) dX2_remember_54 ?_
        rw [show (Int.tmod (old + 1) 14 : Int) = (old + 1) % 14 from (tmod_pos (by omega))]
        refine g_put C G (pos := ho) (fs' := [.ref (ad (ho + 1)), .int (iz ((old + 1) % 14)), .int (iz cnt)]) fwX2_remember_18 (by omega) hc_8 (Nat.le_of_ble_eq_true rfl) rfl rfl rfl dX2_remember_55 (fun H locs G => ?_)
        obtain ⟨g_12, hg_13⟩ : ∃ g9, g9 = va_up g_3 ho (.inr (2, [.ref (ad (ho + 1)), .int (iz ((old + 1) % 14)), .int (iz cnt)])) := ⟨_, rfl⟩
        rw [← hg_13] at G
        have hc_14 : g_12 ho = .inr (2, [.ref (ad (ho + 1)), .int (iz ((old + 1) % 14)), .int (iz cnt)]) := by rw [hg_13]; exact gu_self _ _ _
        have hc_15 : g_12 (ho + 1) = aPl κ 14 (fun j => if j < 14 then some (ad (ho + 2 + 10 * j)) else none) := by rw [hg_13, gu_ne (by omega)]; exact hc_9
        have hpl_16 : isPl κ ad g_12 pp nl v := by rw [hg_13]; exact hpl_10.out (by omega)
        have hpl_17 : isPl κ ad g_12 (ho + 2 + 10 * ((old + cnt) % 14).toNat) nl v_7 := by rw [hg_13]; exact hpl_4.out (by omega)
        refine g_vret C G hr hlk (Nat.le_of_ble_eq_true rfl) (Nat.le_of_ble_eq_true rfl) dX2_remember_58 ?_
        have hfr9 : ∀ q, (q < ho + 2 + 10 * ((old + cnt) % 14).toNat ∨ ho + 2 + 10 * ((old + cnt) % 14).toNat + 10 ≤ q) → q ≠ ho → g_12 q = g q := fun q q0 q1 => by rw [hg_13, gu_ne (by omega)]; refine (hfr_5 _ (by omega)).trans ?_; rfl
        refine ⟨v_7, ⟨?_, ?_, fun j hj => ?_⟩, hx_6.1, hx_6.2, fun q q0 => hfr9 q (by omega) (by omega)⟩
        · rw [hc_14]
          unfold remC
          first | rw [if_pos (show cnt < 14 by omega), if_pos (show cnt < 14 by omega)] | rw [if_neg (show ¬ cnt < 14 by omega), if_neg (show ¬ cnt < 14 by omega), show cnt = 14 by omega]
        · exact hc_15
        · by_cases hjJ : j = ((old + cnt) % 14).toNat
          · simp only [hjJ, if_true]
            exact hpl_17
          · simp only [hjJ, if_false]
            exact (hhi.2.2 j hj).far (fun q q0 q1 => hfr9 q (by omega) (by omega))
      · refine g_aload_n C dX2_remember_32 rfl hl 1 rfl ?_
        refine lv_dup C.1.1 C.1.2.1 dX2_remember_33 rfl ?_
        refine g_get C G (pos := ho) fX2_remember_22 (by omega) hc_8 rfl dX2_remember_34 ?_
        refine g_iconst (a := 1) C dX2_remember_37 rfl ?_
        refine g_iadd C dX2_remember_38 ?_
        refine g_put C G (pos := ho) (fs' := [.ref (ad (ho + 1)), .int (iz old), .int (iz (cnt + 1))]) fwX2_remember_22 (by omega) hc_8 (Nat.le_of_ble_eq_true rfl) rfl rfl rfl dX2_remember_39 (fun H locs G => ?_)
        obtain ⟨g_18, hg_19⟩ : ∃ g9, g9 = va_up g_3 ho (.inr (2, [.ref (ad (ho + 1)), .int (iz old), .int (iz (cnt + 1))])) := ⟨_, rfl⟩
        rw [← hg_19] at G
        have hc_20 : g_18 ho = .inr (2, [.ref (ad (ho + 1)), .int (iz old), .int (iz (cnt + 1))]) := by rw [hg_19]; exact gu_self _ _ _
        have hc_21 : g_18 (ho + 1) = aPl κ 14 (fun j => if j < 14 then some (ad (ho + 2 + 10 * j)) else none) := by rw [hg_19, gu_ne (by omega)]; exact hc_9
        have hpl_22 : isPl κ ad g_18 pp nl v := by rw [hg_19]; exact hpl_10.out (by omega)
        have hpl_23 : isPl κ ad g_18 (ho + 2 + 10 * ((old + cnt) % 14).toNat) nl v_7 := by rw [hg_19]; exact hpl_4.out (by omega)
        refine g_goto (tgt := 58) C dX2_remember_42 (by decide) ?_
        refine g_vret C G hr hlk (Nat.le_of_ble_eq_true rfl) (Nat.le_of_ble_eq_true rfl) dX2_remember_58 ?_
        have hfr9 : ∀ q, (q < ho + 2 + 10 * ((old + cnt) % 14).toNat ∨ ho + 2 + 10 * ((old + cnt) % 14).toNat + 10 ≤ q) → q ≠ ho → g_18 q = g q := fun q q0 q1 => by rw [hg_19, gu_ne (by omega)]; refine (hfr_5 _ (by omega)).trans ?_; rfl
        refine ⟨v_7, ⟨?_, ?_, fun j hj => ?_⟩, hx_6.1, hx_6.2, fun q q0 => hfr9 q (by omega) (by omega)⟩
        · rw [hc_20]
          unfold remC
          first | rw [if_pos (show cnt < 14 by omega), if_pos (show cnt < 14 by omega)] | rw [if_neg (show ¬ cnt < 14 by omega), if_neg (show ¬ cnt < 14 by omega), show cnt = 14 by omega]
        · exact hc_21
        · by_cases hjJ : j = ((old + cnt) % 14).toNat
          · simp only [hjJ, if_true]
            exact hpl_23
          · simp only [hjJ, if_false]
            exact (hhi.2.2 j hj).far (fun q q0 q1 => hfr9 q (by omega) (by omega))
    · cases hw
  · obtain ⟨hg9, ⟨b_2, hw⟩ | ⟨b_2, hw⟩⟩ := hw
    all_goals replace hg9 := hg9.symm
    all_goals subst hg9
    · cases hw
    · exact absurd (by omega) b_2
theorem fX2_takeBack_22 : gFld wsX2_takeBack RX2 22 2 2 := ⟨RX2, TX2, 3, rfl, by decide, by decide +kernel, by decide +kernel⟩
theorem fwX2_takeBack_22 : gFldW wsX2_takeBack RX2 22 2 2 .int false := ⟨RX2, TX2, 3, tyX2, rfl, by decide, by decide +kernel, by decide +kernel, tyX2_ok, nmX2, rfl, by decide +kernel, by decide +kernel⟩
theorem fX2_takeBack_18 : gFld wsX2_takeBack RX2 18 2 1 := ⟨RX2, TX2, 3, rfl, by decide, by decide +kernel, by decide +kernel⟩
set_option maxHeartbeats 4000000 in
set_option maxRecDepth 100000 in
theorem c_X2_takeBack (l : Launch) (κ : gKap) (B n : Nat) (ad : Nat → Nat) (g : Nat → va_E) (ho : Nat) (old : Int) (cnt : Int) (P9 : Nat → Int × (Int → Int)) (pp : Nat) (nl : Int) (v : Int → Int) (hhn : ho + 142 ≤ n) (hhi : isHi κ ad g ho old cnt P9) (hol : 0 ≤ old ∧ old < 14) (hct : 0 ≤ cnt ∧ cnt ≤ 14) (hpn2 : pp + 10 ≤ n) (hpl2 : isPl κ ad g pp nl v) (hdis : pp + 10 ≤ ho ∨ ho + 142 ≤ pp) (hin : inV v) (hc1 : 1 ≤ cnt) (hinJ : inV (P9 ((old + (cnt - 1)) % 14).toNat).2) (hJ6 : 0 ≤ (P9 ((old + (cnt - 1)) % 14).toNat).1 ∧ (P9 ((old + (cnt - 1)) % 14).toNat).1 ≤ 6) (hJ8 : 0 ≤ (P9 ((old + (cnt - 1)) % 14).toNat).2 25 ∧ (P9 ((old + (cnt - 1)) % 14).toNat).2 25 ≤ 8) : Met l yX2_takeBack wsX2_takeBack ({ frames := 3, cells := 0, slots := 0, locals := 72 }) (gPre κ B n ad g [.ref (ad ho), .ref (ad pp)]) (gQv κ B n ad (fun g' => ∃ U9, isHi κ ad g' ho old (cnt - 1) P9 ∧ isPl κ ad g' pp (P9 ((old + (cnt - 1)) % 14).toNat).1 U9 ∧ sim (P9 ((old + (cnt - 1)) % 14).toNat).1 U9 (P9 ((old + (cnt - 1)) % 14).toNat).2 ∧ inV U9 ∧ ∀ q, q ≠ ho → (q < pp ∨ pp + 10 ≤ q) → g' q = g q)) 0 0 (gFree B) := by
  refine g_met RX2 (cc := cX2_takeBack) (maxL := 3) (ret := none) (by decide) rfl rfl (Nat.le_of_ble_eq_true rfl) ?_
  intro p e s m args below meth c C hr hlk hnm G ls hl
  have hl : lv_has ls 3 [(0, .ref (ad ho)), (1, .ref (ad pp))] := hl
  refine g_aload_n C dX2_takeBack_0 rfl hl 0 rfl ?_
  refine lv_dup C.1.1 C.1.2.1 dX2_takeBack_1 rfl ?_
  refine g_get C G (pos := ho) fX2_takeBack_22 (by omega) hhi.1 rfl dX2_takeBack_2 ?_
  refine g_iconst (a := 1) C dX2_takeBack_5 rfl ?_
  refine g_isub C dX2_takeBack_6 ?_
  refine g_put C G (pos := ho) (fs' := [.ref (ad (ho + 1)), .int (iz old), .int (iz (cnt - 1))]) fwX2_takeBack_22 (by omega) hhi.1 (Nat.le_of_ble_eq_true rfl) rfl rfl rfl dX2_takeBack_7 (fun H locs G => ?_)
  obtain ⟨g_1, hg_2⟩ : ∃ g9, g9 = va_up g ho (.inr (2, [.ref (ad (ho + 1)), .int (iz old), .int (iz (cnt - 1))])) := ⟨_, rfl⟩
  rw [← hg_2] at G
  have hc_3 : g_1 ho = .inr (2, [.ref (ad (ho + 1)), .int (iz old), .int (iz (cnt - 1))]) := by rw [hg_2]; exact gu_self _ _ _
  have hc_4 : g_1 (ho + 1) = aPl κ 14 (fun j => if j < 14 then some (ad (ho + 2 + 10 * j)) else none) := by rw [hg_2, gu_ne (by omega)]; exact hhi.2.1
  have hpl_5 : isPl κ ad g_1 pp nl v := by rw [hg_2]; exact hpl2.out (by omega)
  refine g_aload_n C dX2_takeBack_10 rfl hl 0 rfl ?_
  refine g_aload_n C dX2_takeBack_11 rfl hl 0 rfl ?_
  refine g_get C G (pos := ho) fX2_takeBack_18 (by omega) hc_3 rfl dX2_takeBack_12 ?_
  refine g_aload_n C dX2_takeBack_15 rfl hl 0 rfl ?_
  refine g_get C G (pos := ho) fX2_takeBack_22 (by omega) hc_3 rfl dX2_takeBack_16 ?_
  refine g_iadd C dX2_takeBack_19 ?_
  have hhi_6 : isHi κ ad g_1 ho old (cnt - 1) P9 := ⟨hc_3, hc_4, fun j hj => (hhi.2.2 j hj).far (fun q q0 q1 => by rw [hg_2, gu_ne (by omega)])⟩
  refine g_co C G (g_runV (As := [.int (iz (old + (cnt - 1)))]) (rest := []) (pos := ho) C G (c_X2_stateAt l κ B n ad g_1 ho old (cnt - 1) P9 (old + (cnt - 1)) (by omega) hhi_6 (by omega) (by omega) (by omega)) (cwV 1 C.1.2.2.2.2 gX2_takeBack_X2_stateAt rfl rfl rfl (by decide +kernel) ⟨Nat.le_of_ble_eq_true rfl, Nat.le_of_ble_eq_true rfl⟩) (by omega) hc_3 (T := TX2) (N := 3) rfl rfl hl rfl (Nat.le_of_ble_eq_true rfl) dX2_takeBack_20 ⟨Nat.le_of_ble_eq_true rfl, Nat.le_of_ble_eq_true rfl⟩) (fun q_7 g9 H locs hw G => ?_) (fun g9 H locs hw G => ?_)
  · obtain ⟨hg9, ⟨b_8, hw⟩ | ⟨b_8, hw⟩⟩ := hw
    all_goals replace hg9 := hg9.symm
    all_goals subst hg9
    · cases hw
      have hplJ_9 : isPl κ ad g_1 (ho + 2 + 10 * ((old + (cnt - 1)) % 14).toNat) (P9 ((old + (cnt - 1)) % 14).toNat).1 (P9 ((old + (cnt - 1)) % 14).toNat).2 := (hhi.2.2 ((old + (cnt - 1)) % 14).toNat (by omega)).far (fun q q0 q1 => by rw [hg_2, gu_ne (by omega)])
      refine lv_astore_n (lv' := [(2, .ref (ad (ho + 2 + 10 * ((old + (cnt - 1)) % 14).toNat))), (0, .ref (ad ho)), (1, .ref (ad pp))]) C.1.1 C.1.2.1 dX2_takeBack_23 rfl hl (by decide) rfl (fun ls hl => ?_)
      refine g_aload_n C dX2_takeBack_24 rfl hl 0 rfl ?_
      refine lv_ifnull C.1.1 C.1.2.1 dX2_takeBack_25 ?_
      refine g_aload_n C dX2_takeBack_28 rfl hl 2 rfl ?_
      refine g_aload_n C dX2_takeBack_29 rfl hl 0 rfl ?_
      refine g_cv C G (g_runV (As := [.ref (ad (ho + 2 + 10 * ((old + (cnt - 1)) % 14).toNat))]) (rest := []) (pos := pp) C G (c_X4_become l κ B n ad g_1 pp nl v (ho + 2 + 10 * ((old + (cnt - 1)) % 14).toNat) ((P9 ((old + (cnt - 1)) % 14).toNat).1) ((P9 ((old + (cnt - 1)) % 14).toNat).2) (by omega) hpl_5 (by omega) hplJ_9 (by omega) hJ6 hJ8 hin hinJ) (cwV 1 C.1.2.2.2.2 gX2_takeBack_X4_become rfl rfl rfl (by decide +kernel) ⟨Nat.le_of_ble_eq_true rfl, Nat.le_of_ble_eq_true rfl⟩) (by omega) hpl_5.1 (T := TX4) (N := 6) rfl rfl hl rfl (Nat.le_of_ble_eq_true rfl) dX2_takeBack_30 ⟨Nat.le_of_ble_eq_true rfl, Nat.le_of_ble_eq_true rfl⟩) (fun g_10 H locs hw9 G => ?_)
      obtain ⟨v_14, hpl_11, hfr_12, hx_13⟩ := hw9
      have hc_15 : g_10 ho = .inr (2, [.ref (ad (ho + 1)), .int (iz old), .int (iz (cnt - 1))]) := (hfr_12 _ (by omega)).trans hc_3
      have hc_16 : g_10 (ho + 1) = aPl κ 14 (fun j => if j < 14 then some (ad (ho + 2 + 10 * j)) else none) := (hfr_12 _ (by omega)).trans hc_4
      have hpl_17 : isPl κ ad g_10 (ho + 2 + 10 * ((old + (cnt - 1)) % 14).toNat) ((P9 ((old + (cnt - 1)) % 14).toNat).1) ((P9 ((old + (cnt - 1)) % 14).toNat).2) := hplJ_9.far (fun _ _ _ => hfr_12 _ (by omega))
      refine g_vret C G hr hlk (Nat.le_of_ble_eq_true rfl) (Nat.le_of_ble_eq_true rfl) dX2_takeBack_33 ?_
      exact ⟨v_14, ⟨hc_15, hc_16, fun j hj => (hhi.2.2 j hj).far (fun q q0 q1 => ((hfr_12 q (by omega)).trans (by rw [hg_2, gu_ne (by omega)])))⟩, hpl_11, hx_13.1, hx_13.2, fun q q0 q1 => (hfr_12 q q1).trans (by rw [hg_2, gu_ne (by omega)])⟩
    · cases hw
  · obtain ⟨hg9, ⟨b_8, hw⟩ | ⟨b_8, hw⟩⟩ := hw
    all_goals replace hg9 := hg9.symm
    all_goals subst hg9
    · cases hw
    · exact absurd (by omega) b_8
theorem fwX2_forgetAll_18 : gFldW wsX2_forgetAll RX2 18 2 1 .int false := ⟨RX2, TX2, 3, tyX2, rfl, by decide, by decide +kernel, by decide +kernel, tyX2_ok, nmX2, rfl, by decide +kernel, by decide +kernel⟩
theorem fwX2_forgetAll_22 : gFldW wsX2_forgetAll RX2 22 2 2 .int false := ⟨RX2, TX2, 3, tyX2, rfl, by decide, by decide +kernel, by decide +kernel, tyX2_ok, nmX2, rfl, by decide +kernel, by decide +kernel⟩
set_option maxHeartbeats 4000000 in
set_option maxRecDepth 100000 in
theorem c_X2_forgetAll (l : Launch) (κ : gKap) (B n : Nat) (ad : Nat → Nat) (g : Nat → va_E) (ho : Nat) (old : Int) (cnt : Int) (P9 : Nat → Int × (Int → Int)) (hhn : ho + 142 ≤ n) (hhi : isHi κ ad g ho old cnt P9) (hol : 0 ≤ old ∧ old < 14) (hct : 0 ≤ cnt ∧ cnt ≤ 14) : Met l yX2_forgetAll wsX2_forgetAll ({ frames := 0, cells := 0, slots := 0, locals := 0 }) (gPre κ B n ad g [.ref (ad ho)]) (gQv κ B n ad (fun g' => isHi κ ad g' ho 0 0 P9 ∧ ∀ q, q ≠ ho → g' q = g q)) 0 0 (gFree B) := by
  refine g_met RX2 (cc := cX2_forgetAll) (maxL := 1) (ret := none) (by decide) rfl rfl (Nat.le_of_ble_eq_true rfl) ?_
  intro p e s m args below meth c C hr hlk hnm G ls hl
  have hl : lv_has ls 1 [(0, .ref (ad ho))] := hl
  refine g_aload_n C dX2_forgetAll_0 rfl hl 0 rfl ?_
  refine g_iconst (a := 0) C dX2_forgetAll_1 rfl ?_
  refine g_put C G (pos := ho) (fs' := [.ref (ad (ho + 1)), .int (iz 0), .int (iz cnt)]) fwX2_forgetAll_18 (by omega) hhi.1 (Nat.le_of_ble_eq_true rfl) rfl rfl rfl dX2_forgetAll_2 (fun H locs G => ?_)
  obtain ⟨g_1, hg_2⟩ : ∃ g9, g9 = va_up g ho (.inr (2, [.ref (ad (ho + 1)), .int (iz 0), .int (iz cnt)])) := ⟨_, rfl⟩
  rw [← hg_2] at G
  have hc_3 : g_1 ho = .inr (2, [.ref (ad (ho + 1)), .int (iz 0), .int (iz cnt)]) := by rw [hg_2]; exact gu_self _ _ _
  have hc_4 : g_1 (ho + 1) = aPl κ 14 (fun j => if j < 14 then some (ad (ho + 2 + 10 * j)) else none) := by rw [hg_2, gu_ne (by omega)]; exact hhi.2.1
  refine g_aload_n C dX2_forgetAll_5 rfl hl 0 rfl ?_
  refine g_iconst (a := 0) C dX2_forgetAll_6 rfl ?_
  refine g_put C G (pos := ho) (fs' := [.ref (ad (ho + 1)), .int (iz 0), .int (iz 0)]) fwX2_forgetAll_22 (by omega) hc_3 (Nat.le_of_ble_eq_true rfl) rfl rfl rfl dX2_forgetAll_7 (fun H locs G => ?_)
  obtain ⟨g_5, hg_6⟩ : ∃ g9, g9 = va_up g_1 ho (.inr (2, [.ref (ad (ho + 1)), .int (iz 0), .int (iz 0)])) := ⟨_, rfl⟩
  rw [← hg_6] at G
  have hc_7 : g_5 ho = .inr (2, [.ref (ad (ho + 1)), .int (iz 0), .int (iz 0)]) := by rw [hg_6]; exact gu_self _ _ _
  have hc_8 : g_5 (ho + 1) = aPl κ 14 (fun j => if j < 14 then some (ad (ho + 2 + 10 * j)) else none) := by rw [hg_6, gu_ne (by omega)]; exact hc_4
  refine g_vret C G hr hlk (Nat.le_of_ble_eq_true rfl) (Nat.le_of_ble_eq_true rfl) dX2_forgetAll_10 ?_
  have hfr9 : ∀ q, q ≠ ho → g_5 q = g q := fun q q0 => by rw [hg_6, gu_ne (by omega), hg_2, gu_ne (by omega)]
  exact ⟨⟨hc_7, hc_8, fun j hj => (hhi.2.2 j hj).far (fun q q0 q1 => hfr9 q (by omega))⟩, hfr9⟩
