/-! COMMAND (X1) -/
theorem ex_vu {v : Int → Int} {l b x : Int} (hb : 0 ≤ b ∧ b ≤ 3) : v4 v l (if b = 0 then x else v (4 * l + 1)) (if b = 1 then x else v (4 * l + 2)) (if b = 2 then x else v (4 * l + 3)) (if b = 3 then x else v (4 * l + 4)) = vu v (4 * l + 1 + b) x := by
  funext i
  unfold v4 vu
  repeat' split
  all_goals first | rfl | (exfalso; omega) | (congr 1; omega)
def cmOK (kd c2 c3 c4 c5 nl : Int) (v : Int → Int) : Prop := if kd = 1 then (c2 < nl ∧ ((c3 = 0 ∧ 5 ≤ 10 * c4 + c5 ∧ 10 * c4 + c5 ≤ 60) ∨ (c3 = 1 ∧ (10 * c4 + c5 = 0 ∨ 10 * c4 + c5 = 1)) ∨ (c3 = 2 ∧ 0 ≤ 10 * c4 + c5 ∧ 10 * c4 + c5 ≤ 20) ∨ (c3 = 3 ∧ 0 ≤ 10 * c4 + c5 ∧ 10 * c4 + c5 < v 0))) else if kd = 2 then (c3 = 0 ∧ 10 * c4 + c5 = 0 ∧ c2 < nl) else if kd = 3 then (c2 = 0 ∧ c3 = 0 ∧ 12 ≤ 10 * c4 + c5 ∧ 10 * c4 + c5 ≤ 96) else if kd = 4 then ((c2 = 0 ∨ c2 = 1) ∧ 5 ≤ 10 * c3 + c4 ∧ 10 * c3 + c4 ≤ 60 ∧ nl < 6) else if kd = 5 then (c2 < nl ∧ c3 < nl ∧ 10 * c4 + c5 ≤ (cntS (fun x y => PTl v c2 x y ∧ PTl v c3 x y) : Int)) else if kd = 6 then (c2 < nl ∧ c3 = 0 ∧ tn (v 0) (v (4 * c2 + 1)) = 10 * c4 + c5) else if kd = 7 then (c2 < nl ∧ c3 < nl ∧ isFirst (fun d => SameR (v 0) (v (4 * c2 + 1)) (v (4 * c2 + 2)) (v (4 * c2 + 3)) ((v (4 * c2 + 4) + d) % v 0) (v (4 * c3 + 1)) (v (4 * c3 + 2)) (v (4 * c3 + 3)) (v (4 * c3 + 4))) (v 0) (10 * c4 + c5)) else if kd = 8 then (c3 = 0 ∧ 10 * c4 + c5 = 0 ∧ c2 ≤ fitN nl v) else if kd = 9 then (c2 < nl ∧ c3 = 0 ∧ lb (v 0) (v (4 * c2 + 1)) = 10 * c4 + c5) else False
def cmP (kd c2 c3 c4 c5 nl : Int) (v : Int → Int) : Int × (Int → Int) := if kd = 1 then (nl, vu v (4 * c2 + 1 + c3) (10 * c4 + c5)) else if kd = 2 then (nl - 1, drv nl v c2) else if kd = 3 then (nl, tkr nl v (10 * c4 + c5)) else if kd = 4 then (nl + 1, v4 v nl (10 * c3 + c4) c2 c5 0) else (nl, v)
theorem fX1_lastTwo_19 : gFld wsX1_lastTwo RX1 19 1 3 := ⟨RX1, TX1, 5, rfl, by decide, by decide +kernel, by decide +kernel⟩
theorem fX1_lastTwo_22 : gFld wsX1_lastTwo RX1 22 1 4 := ⟨RX1, TX1, 5, rfl, by decide, by decide +kernel, by decide +kernel⟩
set_option maxHeartbeats 4000000 in
set_option maxRecDepth 100000 in
theorem c_X1_lastTwo (l : Launch) (κ : gKap) (B n : Nat) (ad : Nat → Nat) (g : Nat → va_E) (co : Nat) (kd : Int) (c2 : Int) (c3 : Int) (c4 : Int) (c5 : Int) (hcn : co < n) (hco : g co = .inr (1, [.int (iz kd), .int (iz c2), .int (iz c3), .int (iz c4), .int (iz c5)])) (hdg : (0 ≤ kd ∧ kd ≤ 9) ∧ (0 ≤ c2 ∧ c2 ≤ 9) ∧ (0 ≤ c3 ∧ c3 ≤ 9) ∧ (0 ≤ c4 ∧ c4 ≤ 9) ∧ 0 ≤ c5 ∧ c5 ≤ 9) : Met l yX1_lastTwo wsX1_lastTwo ({ frames := 0, cells := 0, slots := 0, locals := 0 }) (gPre κ B n ad g [.ref (ad co)]) (gQi κ B n ad (fun z g' => g' = g ∧ (z = 10 * c4 + c5))) 0 0 (gFree B) := by
  refine g_met RX1 (cc := cX1_lastTwo) (maxL := 1) (ret := (some .int)) (by decide) rfl rfl (Nat.le_of_ble_eq_true rfl) ?_
  intro p e s m args below meth c C hr hlk hnm G ls hl
  have hl : lv_has ls 1 [(0, .ref (ad co))] := hl
  refine g_bipush (a := 10) C dX1_lastTwo_0 (by decide) ?_
  refine g_aload_n C dX1_lastTwo_2 rfl hl 0 rfl ?_
  refine g_get C G (pos := co) fX1_lastTwo_19 (by omega) hco rfl dX1_lastTwo_3 ?_
  refine g_imul C dX1_lastTwo_6 ?_
  refine g_aload_n C dX1_lastTwo_7 rfl hl 0 rfl ?_
  refine g_get C G (pos := co) fX1_lastTwo_22 (by omega) hco rfl dX1_lastTwo_8 ?_
  refine g_iadd C dX1_lastTwo_11 ?_
  refine g_iret C G hr hlk (Nat.le_of_ble_eq_true rfl) (Nat.le_of_ble_eq_true rfl) dX1_lastTwo_12 ?_
  exact ⟨rfl, rfl⟩
theorem fX1_changes_13 : gFld wsX1_changes RX1 13 1 1 := ⟨RX1, TX1, 5, rfl, by decide, by decide +kernel, by decide +kernel⟩
theorem fX1_changes_16 : gFld wsX1_changes RX1 16 1 2 := ⟨RX1, TX1, 5, rfl, by decide, by decide +kernel, by decide +kernel⟩
set_option maxHeartbeats 4000000 in
set_option maxRecDepth 100000 in
theorem c_X1_changes (l : Launch) (κ : gKap) (B n : Nat) (ad : Nat → Nat) (g : Nat → va_E) (co : Nat) (kd : Int) (c2 : Int) (c3 : Int) (c4 : Int) (c5 : Int) (po : Nat) (nl : Int) (v : Int → Int) (hcn : co < n) (hco : g co = .inr (1, [.int (iz kd), .int (iz c2), .int (iz c3), .int (iz c4), .int (iz c5)])) (hdg : (0 ≤ kd ∧ kd ≤ 9) ∧ (0 ≤ c2 ∧ c2 ≤ 9) ∧ (0 ≤ c3 ∧ c3 ≤ 9) ∧ (0 ≤ c4 ∧ c4 ≤ 9) ∧ 0 ≤ c5 ∧ c5 ≤ 9) (hpn : po + 10 ≤ n) (hpl : isPl κ ad g po nl v) (hok : okPl nl v) (hcp : co < po ∨ po + 10 ≤ co) (hin : inV v) : Met l yX1_changes wsX1_changes ({ frames := 2, cells := 0, slots := 0, locals := 43 }) (gPre κ B n ad g [.ref (ad co), .ref (ad po)]) (gQi κ B n ad (fun z g' => (((c2 < nl ∧ ((c3 = 0 ∧ 5 ≤ 10 * c4 + c5 ∧ 10 * c4 + c5 ≤ 60) ∨ (c3 = 1 ∧ (10 * c4 + c5 = 0 ∨ 10 * c4 + c5 = 1)) ∨ (c3 = 2 ∧ 0 ≤ 10 * c4 + c5 ∧ 10 * c4 + c5 ≤ 20) ∨ (c3 = 3 ∧ 0 ≤ 10 * c4 + c5 ∧ 10 * c4 + c5 < v 0))) ∧ z = 1 ∧ isPl κ ad g' po nl (vu v (4 * c2 + 1 + c3) (10 * c4 + c5))) ∨ (¬ (c2 < nl ∧ ((c3 = 0 ∧ 5 ≤ 10 * c4 + c5 ∧ 10 * c4 + c5 ≤ 60) ∨ (c3 = 1 ∧ (10 * c4 + c5 = 0 ∨ 10 * c4 + c5 = 1)) ∨ (c3 = 2 ∧ 0 ≤ 10 * c4 + c5 ∧ 10 * c4 + c5 ≤ 20) ∨ (c3 = 3 ∧ 0 ≤ 10 * c4 + c5 ∧ 10 * c4 + c5 < v 0))) ∧ z = 0 ∧ isPl κ ad g' po nl v)) ∧ frP g g' po)) 0 0 (gFree B) := by
  refine g_met RX1 (cc := cX1_changes) (maxL := 3) (ret := (some .boolean)) (by decide) rfl rfl (Nat.le_of_ble_eq_true rfl) ?_
  intro p e s m args below meth c C hr hlk hnm G ls hl
  have hl : lv_has ls 3 [(0, .ref (ad co)), (1, .ref (ad po))] := hl
  obtain ⟨hn6, hv0, hv25, hlay, hsee⟩ := id hok
  refine g_aload_n C dX1_changes_0 rfl hl 1 rfl ?_
  refine g_aload_n C dX1_changes_1 rfl hl 0 rfl ?_
  refine g_get C G (pos := co) fX1_changes_13 (by omega) hco rfl dX1_changes_2 ?_
  refine g_co C G (g_runV (As := [.int (iz c2)]) (rest := []) (pos := po) C G (c_X4_find l κ B n ad g po nl v c2 (by omega) hpl (by omega) (by omega)) (cwV 1 C.1.2.2.2.2 gX1_changes_X4_find rfl rfl rfl (by decide +kernel) ⟨Nat.le_of_ble_eq_true rfl, Nat.le_of_ble_eq_true rfl⟩) (by omega) hpl.1 (T := TX4) (N := 6) rfl rfl hl rfl (Nat.le_of_ble_eq_true rfl) dX1_changes_5 ⟨Nat.le_of_ble_eq_true rfl, Nat.le_of_ble_eq_true rfl⟩) (fun q_1 g9 H locs hw G => ?_) (fun g9 H locs hw G => ?_)
  · obtain ⟨hg9, ⟨b_2, hw⟩ | ⟨b_2, hw⟩⟩ := hw
    all_goals replace hg9 := hg9.symm
    all_goals subst hg9
    · cases hw
      refine lv_astore_n (lv' := [(2, .ref (ad (po + 2 + (c2).toNat))), (0, .ref (ad co)), (1, .ref (ad po))]) C.1.1 C.1.2.1 dX1_changes_8 rfl hl (by decide) rfl (fun ls hl => ?_)
      refine g_aload_n C dX1_changes_9 rfl hl 0 rfl ?_
      refine lv_ifnull C.1.1 C.1.2.1 dX1_changes_10 ?_
      refine g_aload_n C dX1_changes_13 rfl hl 2 rfl ?_
      refine g_aload_n C dX1_changes_14 rfl hl 1 rfl ?_
      refine g_get C G (pos := co) fX1_changes_16 (by omega) hco rfl dX1_changes_15 ?_
      refine g_aload_n C dX1_changes_18 rfl hl 1 rfl ?_
      refine g_ci C G (g_runV (As := []) (rest := [.int (iz c3), .ref (ad po)]) (pos := co) C G (c_X1_lastTwo l κ B n ad g co kd c2 c3 c4 c5 (by omega) hco hdg) (cwV 0 C.1.2.2.2.2 gX1_changes_X1_lastTwo rfl rfl rfl (by decide +kernel) ⟨Nat.le_of_ble_eq_true rfl, Nat.le_of_ble_eq_true rfl⟩) (by omega) hco (T := TX1) (N := 5) rfl rfl hl rfl (Nat.le_of_ble_eq_true rfl) dX1_changes_19 ⟨Nat.le_of_ble_eq_true rfl, Nat.le_of_ble_eq_true rfl⟩) (fun z_3 g9 H locs hw G => ?_)
      obtain ⟨hg9, h_4⟩ := hw
      replace hg9 := hg9.symm
      subst hg9
      subst h_4
      refine g_ci C G (g_runV (As := [.int (iz c3), .int (iz (10 * c4 + c5))]) (rest := []) (pos := po) C G (c_X4_allows l κ B n ad g po nl v c3 (10 * c4 + c5) (by omega) hpl (by omega) (by omega) (by omega)) (cwV 2 C.1.2.2.2.2 gX1_changes_X4_allows rfl rfl rfl (by decide +kernel) ⟨Nat.le_of_ble_eq_true rfl, Nat.le_of_ble_eq_true rfl⟩) (by omega) hpl.1 (T := TX4) (N := 6) rfl rfl hl rfl (Nat.le_of_ble_eq_true rfl) dX1_changes_22 ⟨Nat.le_of_ble_eq_true rfl, Nat.le_of_ble_eq_true rfl⟩) (fun z_6 g9 H locs hw G => ?_)
      obtain ⟨hg9, hw⟩ := hw
      replace hg9 := hg9.symm
      subst hg9
      rcases hw with ⟨b_5, rfl⟩ | ⟨b_5, rfl⟩
      · refine g_if_ne (tgt := 30) C (by decide) dX1_changes_25 (by decide) (fun _ => ?_) (fun c9 => absurd c9 (by decide))
        refine g_aload_n C dX1_changes_30 rfl hl 0 rfl ?_
        refine g_aload_n C dX1_changes_31 rfl hl 1 rfl ?_
        refine g_get C G (pos := co) fX1_changes_16 (by omega) hco rfl dX1_changes_32 ?_
        refine g_aload_n C dX1_changes_35 rfl hl 1 rfl ?_
        refine g_ci C G (g_runV (As := []) (rest := [.int (iz c3), .ref (ad (po + 2 + (c2).toNat))]) (pos := co) C G (c_X1_lastTwo l κ B n ad g co kd c2 c3 c4 c5 (by omega) hco hdg) (cwV 0 C.1.2.2.2.2 gX1_changes_X1_lastTwo rfl rfl rfl (by decide +kernel) ⟨Nat.le_of_ble_eq_true rfl, Nat.le_of_ble_eq_true rfl⟩) (by omega) hco (T := TX1) (N := 5) rfl rfl hl rfl (Nat.le_of_ble_eq_true rfl) dX1_changes_36 ⟨Nat.le_of_ble_eq_true rfl, Nat.le_of_ble_eq_true rfl⟩) (fun z_7 g9 H locs hw G => ?_)
        obtain ⟨hg9, h_8⟩ := hw
        replace hg9 := hg9.symm
        subst hg9
        subst h_8
        refine g_ci C G (g_runV (As := [.int (iz c3), .int (iz (10 * c4 + c5))]) (rest := []) (pos := po + 2 + (c2).toNat) C G (c_X3_exchange l κ B n ad g (po + 2 + (c2).toNat) (v (4 * c2 + 1)) (v (4 * c2 + 2)) (v (4 * c2 + 3)) (v (4 * c2 + 4)) c3 (10 * c4 + c5) (by omega) (hpl.lay (by omega) (by omega)) (by omega)) (cwV 2 C.1.2.2.2.2 gX1_changes_X3_exchange rfl rfl rfl (by decide +kernel) ⟨Nat.le_of_ble_eq_true rfl, Nat.le_of_ble_eq_true rfl⟩) (by omega) (hpl.lay (by omega) (by omega)) (T := TX3) (N := 4) rfl rfl hl rfl (Nat.le_of_ble_eq_true rfl) dX1_changes_39 ⟨Nat.le_of_ble_eq_true rfl, Nat.le_of_ble_eq_true rfl⟩) (fun z_9 g9 H locs hw G => ?_)
        obtain ⟨hw, h_10⟩ := hw
        subst hw
        obtain ⟨g_11, hg_12⟩ : ∃ g9, g9 = va_up g (po + 2 + (c2).toNat) (.inr (3, [.int (iz (if c3 = 0 then 10 * c4 + c5 else v (4 * c2 + 1))), .int (iz (if c3 = 1 then 10 * c4 + c5 else v (4 * c2 + 2))), .int (iz (if c3 = 2 then 10 * c4 + c5 else v (4 * c2 + 3))), .int (iz (if c3 = 3 then 10 * c4 + c5 else v (4 * c2 + 4)))])) := ⟨_, rfl⟩
        rw [← hg_12] at G
        have hc_13 : g_11 co = .inr (1, [.int (iz kd), .int (iz c2), .int (iz c3), .int (iz c4), .int (iz c5)]) := by rw [hg_12, gu_ne (by omega)]; exact hco
        have hpl_14 : isPl κ ad g_11 po nl (v4 v c2 (if c3 = 0 then 10 * c4 + c5 else v (4 * c2 + 1)) (if c3 = 1 then 10 * c4 + c5 else v (4 * c2 + 2)) (if c3 = 2 then 10 * c4 + c5 else v (4 * c2 + 3)) (if c3 = 3 then 10 * c4 + c5 else v (4 * c2 + 4))) := by rw [hg_12]; exact hpl.layer (by omega) (by omega)
        have hfr_15 : frP g g_11 po := by rw [hg_12]; exact frP.rf.up (by omega) (by omega)
        refine lv_pop C.1.1 C.1.2.1 dX1_changes_42 rfl ?_
        refine g_iconst (a := 1) C dX1_changes_43 rfl ?_
        refine g_zret C G hr hlk (by decide) (Nat.le_of_ble_eq_true rfl) (Nat.le_of_ble_eq_true rfl) dX1_changes_44 ?_
        exact ⟨Or.inl ⟨by omega, rfl, (by rw [← ex_vu (by omega)]; exact hpl_14)⟩, hfr_15⟩
      · refine g_if_ne (tgt := 30) C (by decide) dX1_changes_25 (by decide) (fun c9 => absurd c9 (by decide)) (fun _ => ?_)
        refine g_iconst (a := 0) C dX1_changes_28 rfl ?_
        refine g_zret C G hr hlk (by decide) (Nat.le_of_ble_eq_true rfl) (Nat.le_of_ble_eq_true rfl) dX1_changes_29 ?_
        exact ⟨Or.inr ⟨by omega, rfl, hpl⟩, frP.rf⟩
    · cases hw
  · obtain ⟨hg9, ⟨b_2, hw⟩ | ⟨b_2, hw⟩⟩ := hw
    all_goals replace hg9 := hg9.symm
    all_goals subst hg9
    · cases hw
    · refine lv_astore_nN (lv' := [(2, .null), (0, .ref (ad co)), (1, .ref (ad po))]) C.1.1 C.1.2.1 dX1_changes_8 rfl hl (by decide) rfl (fun ls hl => ?_)
      refine lv_aload_nN C.1.1 C.1.2.1 dX1_changes_9 rfl (lv_at hl 0 rfl) ?_
      refine lv_ifnullN (tgt := 28) C.1.1 C.1.2.1 dX1_changes_10 (by decide) ?_
      refine g_iconst (a := 0) C dX1_changes_28 rfl ?_
      refine g_zret C G hr hlk (by decide) (Nat.le_of_ble_eq_true rfl) (Nat.le_of_ble_eq_true rfl) dX1_changes_29 ?_
      exact ⟨Or.inr ⟨by omega, rfl, hpl⟩, frP.rf⟩
theorem fX1_removes_16 : gFld wsX1_removes RX1 16 1 2 := ⟨RX1, TX1, 5, rfl, by decide, by decide +kernel, by decide +kernel⟩
theorem fX1_removes_13 : gFld wsX1_removes RX1 13 1 1 := ⟨RX1, TX1, 5, rfl, by decide, by decide +kernel, by decide +kernel⟩
set_option maxHeartbeats 4000000 in
set_option maxRecDepth 100000 in
theorem c_X1_removes (l : Launch) (κ : gKap) (B n : Nat) (ad : Nat → Nat) (g : Nat → va_E) (co : Nat) (kd : Int) (c2 : Int) (c3 : Int) (c4 : Int) (c5 : Int) (po : Nat) (nl : Int) (v : Int → Int) (hcn : co < n) (hco : g co = .inr (1, [.int (iz kd), .int (iz c2), .int (iz c3), .int (iz c4), .int (iz c5)])) (hdg : (0 ≤ kd ∧ kd ≤ 9) ∧ (0 ≤ c2 ∧ c2 ≤ 9) ∧ (0 ≤ c3 ∧ c3 ≤ 9) ∧ (0 ≤ c4 ∧ c4 ≤ 9) ∧ 0 ≤ c5 ∧ c5 ≤ 9) (hpn : po + 10 ≤ n) (hpl : isPl κ ad g po nl v) (hok : okPl nl v) (hcp : co < po ∨ po + 10 ≤ co) (hin : inV v) : Met l yX1_removes wsX1_removes ({ frames := 3, cells := 0, slots := 0, locals := 69 }) (gPre κ B n ad g [.ref (ad co), .ref (ad po)]) (gQi κ B n ad (fun z g' => (((c3 = 0 ∧ 10 * c4 + c5 = 0 ∧ c2 < nl) ∧ z = 1 ∧ isPl κ ad g' po (nl - 1) (drv nl v c2)) ∨ (¬ (c3 = 0 ∧ 10 * c4 + c5 = 0 ∧ c2 < nl) ∧ z = 0 ∧ isPl κ ad g' po nl v)) ∧ frP g g' po)) 0 0 (gFree B) := by
  refine g_met RX1 (cc := cX1_removes) (maxL := 2) (ret := (some .boolean)) (by decide) rfl rfl (Nat.le_of_ble_eq_true rfl) ?_
  intro p e s m args below meth c C hr hlk hnm G ls hl
  have hl : lv_has ls 2 [(0, .ref (ad co)), (1, .ref (ad po))] := hl
  obtain ⟨hn6, hv0, hv25, hlay, hsee⟩ := id hok
  refine g_aload_n C dX1_removes_0 rfl hl 0 rfl ?_
  refine g_get C G (pos := co) fX1_removes_16 (by omega) hco rfl dX1_removes_1 ?_
  refine g_if_ne (tgt := 25) C (by omega) dX1_removes_4 (by decide) (fun c_1 => ?_) (fun c_1 => ?_)
  · refine g_iconst (a := 0) C dX1_removes_25 rfl ?_
    refine g_zret C G hr hlk (by decide) (Nat.le_of_ble_eq_true rfl) (Nat.le_of_ble_eq_true rfl) dX1_removes_26 ?_
    exact ⟨Or.inr ⟨by omega, rfl, hpl⟩, frP.rf⟩
  · refine g_aload_n C dX1_removes_7 rfl hl 0 rfl ?_
    refine g_ci C G (g_runV (As := []) (rest := []) (pos := co) C G (c_X1_lastTwo l κ B n ad g co kd c2 c3 c4 c5 (by omega) hco hdg) (cwV 0 C.1.2.2.2.2 gX1_removes_X1_lastTwo rfl rfl rfl (by decide +kernel) ⟨Nat.le_of_ble_eq_true rfl, Nat.le_of_ble_eq_true rfl⟩) (by omega) hco (T := TX1) (N := 5) rfl rfl hl rfl (Nat.le_of_ble_eq_true rfl) dX1_removes_8 ⟨Nat.le_of_ble_eq_true rfl, Nat.le_of_ble_eq_true rfl⟩) (fun z_2 g9 H locs hw G => ?_)
    obtain ⟨hg9, h_3⟩ := hw
    replace hg9 := hg9.symm
    subst hg9
    subst h_3
    refine g_if_ne (tgt := 25) C (by omega) dX1_removes_11 (by decide) (fun c_4 => ?_) (fun c_4 => ?_)
    · refine g_iconst (a := 0) C dX1_removes_25 rfl ?_
      refine g_zret C G hr hlk (by decide) (Nat.le_of_ble_eq_true rfl) (Nat.le_of_ble_eq_true rfl) dX1_removes_26 ?_
      exact ⟨Or.inr ⟨by omega, rfl, hpl⟩, frP.rf⟩
    · refine g_aload_n C dX1_removes_14 rfl hl 1 rfl ?_
      refine g_aload_n C dX1_removes_15 rfl hl 0 rfl ?_
      refine g_get C G (pos := co) fX1_removes_13 (by omega) hco rfl dX1_removes_16 ?_
      refine g_co C G (g_runV (As := [.int (iz c2)]) (rest := []) (pos := po) C G (c_X4_find l κ B n ad g po nl v c2 (by omega) hpl (by omega) (by omega)) (cwV 1 C.1.2.2.2.2 gX1_removes_X4_find rfl rfl rfl (by decide +kernel) ⟨Nat.le_of_ble_eq_true rfl, Nat.le_of_ble_eq_true rfl⟩) (by omega) hpl.1 (T := TX4) (N := 6) rfl rfl hl rfl (Nat.le_of_ble_eq_true rfl) dX1_removes_19 ⟨Nat.le_of_ble_eq_true rfl, Nat.le_of_ble_eq_true rfl⟩) (fun q_5 g9 H locs hw G => ?_) (fun g9 H locs hw G => ?_)
      · obtain ⟨hg9, ⟨b_6, hw⟩ | ⟨b_6, hw⟩⟩ := hw
        all_goals replace hg9 := hg9.symm
        all_goals subst hg9
        · cases hw
          refine lv_ifnonnull (tgt := 27) C.1.1 C.1.2.1 dX1_removes_22 (by decide) ?_
          refine g_aload_n C dX1_removes_27 rfl hl 1 rfl ?_
          refine g_aload_n C dX1_removes_28 rfl hl 0 rfl ?_
          refine g_get C G (pos := co) fX1_removes_13 (by omega) hco rfl dX1_removes_29 ?_
          refine g_cv C G (g_runV (As := [.int (iz c2)]) (rest := []) (pos := po) C G (c_X4_dropLayer l κ B n ad g po nl v c2 (by omega) hpl (by omega) (by omega)) (cwV 1 C.1.2.2.2.2 gX1_removes_X4_dropLayer rfl rfl rfl (by decide +kernel) ⟨Nat.le_of_ble_eq_true rfl, Nat.le_of_ble_eq_true rfl⟩) (by omega) hpl.1 (T := TX4) (N := 6) rfl rfl hl rfl (Nat.le_of_ble_eq_true rfl) dX1_removes_32 ⟨Nat.le_of_ble_eq_true rfl, Nat.le_of_ble_eq_true rfl⟩) (fun g_7 H locs hw9 G => ?_)
          obtain ⟨hpl_8, hfr_9⟩ := hw9
          have hc_11 : g_7 co = .inr (1, [.int (iz kd), .int (iz c2), .int (iz c3), .int (iz c4), .int (iz c5)]) := (hfr_9 _ (by omega)).trans hco
          have hfr_12 : frP g g_7 po := frP.rf.tr hfr_9
          refine g_iconst (a := 1) C dX1_removes_35 rfl ?_
          refine g_zret C G hr hlk (by decide) (Nat.le_of_ble_eq_true rfl) (Nat.le_of_ble_eq_true rfl) dX1_removes_36 ?_
          exact ⟨Or.inl ⟨by omega, rfl, hpl_8⟩, hfr_12⟩
        · cases hw
      · obtain ⟨hg9, ⟨b_6, hw⟩ | ⟨b_6, hw⟩⟩ := hw
        all_goals replace hg9 := hg9.symm
        all_goals subst hg9
        · cases hw
        · refine lv_ifnonnullN C.1.1 C.1.2.1 dX1_removes_22 ?_
          refine g_iconst (a := 0) C dX1_removes_25 rfl ?_
          refine g_zret C G hr hlk (by decide) (Nat.le_of_ble_eq_true rfl) (Nat.le_of_ble_eq_true rfl) dX1_removes_26 ?_
          exact ⟨Or.inr ⟨by omega, rfl, hpl⟩, frP.rf⟩
theorem fX1_takesRing_13 : gFld wsX1_takesRing RX1 13 1 1 := ⟨RX1, TX1, 5, rfl, by decide, by decide +kernel, by decide +kernel⟩
theorem fX1_takesRing_16 : gFld wsX1_takesRing RX1 16 1 2 := ⟨RX1, TX1, 5, rfl, by decide, by decide +kernel, by decide +kernel⟩
set_option maxHeartbeats 4000000 in
set_option maxRecDepth 100000 in
theorem c_X1_takesRing (l : Launch) (κ : gKap) (B n : Nat) (ad : Nat → Nat) (g : Nat → va_E) (co : Nat) (kd : Int) (c2 : Int) (c3 : Int) (c4 : Int) (c5 : Int) (po : Nat) (nl : Int) (v : Int → Int) (hcn : co < n) (hco : g co = .inr (1, [.int (iz kd), .int (iz c2), .int (iz c3), .int (iz c4), .int (iz c5)])) (hdg : (0 ≤ kd ∧ kd ≤ 9) ∧ (0 ≤ c2 ∧ c2 ≤ 9) ∧ (0 ≤ c3 ∧ c3 ≤ 9) ∧ (0 ≤ c4 ∧ c4 ≤ 9) ∧ 0 ≤ c5 ∧ c5 ≤ 9) (hpn : po + 10 ≤ n) (hpl : isPl κ ad g po nl v) (hok : okPl nl v) (hcp : co < po ∨ po + 10 ≤ co) (hin : inV v) : Met l yX1_takesRing wsX1_takesRing ({ frames := 2, cells := 0, slots := 0, locals := 44 }) (gPre κ B n ad g [.ref (ad co), .ref (ad po)]) (gQi κ B n ad (fun z g' => (((c2 = 0 ∧ c3 = 0 ∧ 12 ≤ 10 * c4 + c5 ∧ 10 * c4 + c5 ≤ 96) ∧ z = 1 ∧ isPl κ ad g' po nl (tkr nl v (10 * c4 + c5))) ∨ (¬ (c2 = 0 ∧ c3 = 0 ∧ 12 ≤ 10 * c4 + c5 ∧ 10 * c4 + c5 ≤ 96) ∧ z = 0 ∧ isPl κ ad g' po nl v)) ∧ frP g g' po)) 0 0 (gFree B) := by
  refine g_met RX1 (cc := cX1_takesRing) (maxL := 2) (ret := (some .boolean)) (by decide) rfl rfl (Nat.le_of_ble_eq_true rfl) ?_
  intro p e s m args below meth c C hr hlk hnm G ls hl
  have hl : lv_has ls 2 [(0, .ref (ad co)), (1, .ref (ad po))] := hl
  obtain ⟨hn6, hv0, hv25, hlay, hsee⟩ := id hok
  refine g_aload_n C dX1_takesRing_0 rfl hl 0 rfl ?_
  refine g_get C G (pos := co) fX1_takesRing_13 (by omega) hco rfl dX1_takesRing_1 ?_
  refine g_if_ne (tgt := 24) C (by omega) dX1_takesRing_4 (by decide) (fun c_1 => ?_) (fun c_1 => ?_)
  · refine g_iconst (a := 0) C dX1_takesRing_24 rfl ?_
    refine g_zret C G hr hlk (by decide) (Nat.le_of_ble_eq_true rfl) (Nat.le_of_ble_eq_true rfl) dX1_takesRing_25 ?_
    exact ⟨Or.inr ⟨by omega, rfl, hpl⟩, frP.rf⟩
  · refine g_aload_n C dX1_takesRing_7 rfl hl 0 rfl ?_
    refine g_get C G (pos := co) fX1_takesRing_16 (by omega) hco rfl dX1_takesRing_8 ?_
    refine g_if_ne (tgt := 24) C (by omega) dX1_takesRing_11 (by decide) (fun c_2 => ?_) (fun c_2 => ?_)
    · refine g_iconst (a := 0) C dX1_takesRing_24 rfl ?_
      refine g_zret C G hr hlk (by decide) (Nat.le_of_ble_eq_true rfl) (Nat.le_of_ble_eq_true rfl) dX1_takesRing_25 ?_
      exact ⟨Or.inr ⟨by omega, rfl, hpl⟩, frP.rf⟩
    · refine g_aload_n C dX1_takesRing_14 rfl hl 0 rfl ?_
      refine g_ci C G (g_runV (As := []) (rest := []) (pos := co) C G (c_X1_lastTwo l κ B n ad g co kd c2 c3 c4 c5 (by omega) hco hdg) (cwV 0 C.1.2.2.2.2 gX1_takesRing_X1_lastTwo rfl rfl rfl (by decide +kernel) ⟨Nat.le_of_ble_eq_true rfl, Nat.le_of_ble_eq_true rfl⟩) (by omega) hco (T := TX1) (N := 5) rfl rfl hl rfl (Nat.le_of_ble_eq_true rfl) dX1_takesRing_15 ⟨Nat.le_of_ble_eq_true rfl, Nat.le_of_ble_eq_true rfl⟩) (fun z_3 g9 H locs hw G => ?_)
      obtain ⟨hg9, h_4⟩ := hw
      replace hg9 := hg9.symm
      subst hg9
      subst h_4
      refine g_ci C G (g_runN (As := [.int (iz (10 * c4 + c5))]) (rest := []) C G (c_X7_isRing l κ B n ad g (10 * c4 + c5) (by omega)) (g_cwN (index := 78) 1 C gX1_takesRing_X7_isRing_n78 rfl rfl rfl (by decide +kernel) (by decide +kernel) (by decide +kernel) (by decide +kernel) ⟨Nat.le_of_ble_eq_true rfl, Nat.le_of_ble_eq_true rfl⟩) rfl hl rfl (Nat.le_of_ble_eq_true rfl) dX1_takesRing_18 ⟨Nat.le_of_ble_eq_true rfl, Nat.le_of_ble_eq_true rfl⟩) (fun z_6 g9 H locs hw G => ?_)
      obtain ⟨hg9, hw⟩ := hw
      replace hg9 := hg9.symm
      subst hg9
      rcases hw with ⟨b_5, rfl⟩ | ⟨b_5, rfl⟩
      · refine g_if_ne (tgt := 26) C (by decide) dX1_takesRing_21 (by decide) (fun _ => ?_) (fun c9 => absurd c9 (by decide))
        refine g_aload_n C dX1_takesRing_26 rfl hl 1 rfl ?_
        refine g_aload_n C dX1_takesRing_27 rfl hl 0 rfl ?_
        refine g_ci C G (g_runV (As := []) (rest := [.ref (ad po)]) (pos := co) C G (c_X1_lastTwo l κ B n ad g co kd c2 c3 c4 c5 (by omega) hco hdg) (cwV 0 C.1.2.2.2.2 gX1_takesRing_X1_lastTwo rfl rfl rfl (by decide +kernel) ⟨Nat.le_of_ble_eq_true rfl, Nat.le_of_ble_eq_true rfl⟩) (by omega) hco (T := TX1) (N := 5) rfl rfl hl rfl (Nat.le_of_ble_eq_true rfl) dX1_takesRing_28 ⟨Nat.le_of_ble_eq_true rfl, Nat.le_of_ble_eq_true rfl⟩) (fun z_7 g9 H locs hw G => ?_)
        obtain ⟨hg9, h_8⟩ := hw
        replace hg9 := hg9.symm
        subst hg9
        subst h_8
        refine g_cv C G (g_runV (As := [.int (iz (10 * c4 + c5))]) (rest := []) (pos := po) C G (c_X4_takeRing l κ B n ad g po nl v (10 * c4 + c5) (by omega) hpl (by omega) (by omega) (by omega)) (cwV 1 C.1.2.2.2.2 gX1_takesRing_X4_takeRing rfl rfl rfl (by decide +kernel) ⟨Nat.le_of_ble_eq_true rfl, Nat.le_of_ble_eq_true rfl⟩) (by omega) hpl.1 (T := TX4) (N := 6) rfl rfl hl rfl (Nat.le_of_ble_eq_true rfl) dX1_takesRing_31 ⟨Nat.le_of_ble_eq_true rfl, Nat.le_of_ble_eq_true rfl⟩) (fun g_9 H locs hw9 G => ?_)
        obtain ⟨hpl_10, hfr_11⟩ := hw9
        have hc_13 : g_9 co = .inr (1, [.int (iz kd), .int (iz c2), .int (iz c3), .int (iz c4), .int (iz c5)]) := (hfr_11 _ (by omega)).trans hco
        have hfr_14 : frP g g_9 po := frP.rf.tr hfr_11
        refine g_iconst (a := 1) C dX1_takesRing_34 rfl ?_
        refine g_zret C G hr hlk (by decide) (Nat.le_of_ble_eq_true rfl) (Nat.le_of_ble_eq_true rfl) dX1_takesRing_35 ?_
        exact ⟨Or.inl ⟨by omega, rfl, hpl_10⟩, hfr_14⟩
      · refine g_if_ne (tgt := 26) C (by decide) dX1_takesRing_21 (by decide) (fun c9 => absurd c9 (by decide)) (fun _ => ?_)
        refine g_iconst (a := 0) C dX1_takesRing_24 rfl ?_
        refine g_zret C G hr hlk (by decide) (Nat.le_of_ble_eq_true rfl) (Nat.le_of_ble_eq_true rfl) dX1_takesRing_25 ?_
        exact ⟨Or.inr ⟨by omega, rfl, hpl⟩, frP.rf⟩
theorem fX1_adds_16 : gFld wsX1_adds RX1 16 1 2 := ⟨RX1, TX1, 5, rfl, by decide, by decide +kernel, by decide +kernel⟩
theorem fX1_adds_19 : gFld wsX1_adds RX1 19 1 3 := ⟨RX1, TX1, 5, rfl, by decide, by decide +kernel, by decide +kernel⟩
theorem fX1_adds_13 : gFld wsX1_adds RX1 13 1 1 := ⟨RX1, TX1, 5, rfl, by decide, by decide +kernel, by decide +kernel⟩
theorem fX1_adds_22 : gFld wsX1_adds RX1 22 1 4 := ⟨RX1, TX1, 5, rfl, by decide, by decide +kernel, by decide +kernel⟩
set_option maxHeartbeats 4000000 in
set_option maxRecDepth 100000 in
theorem c_X1_adds (l : Launch) (κ : gKap) (B n : Nat) (ad : Nat → Nat) (g : Nat → va_E) (co : Nat) (kd : Int) (c2 : Int) (c3 : Int) (c4 : Int) (c5 : Int) (po : Nat) (nl : Int) (v : Int → Int) (hcn : co < n) (hco : g co = .inr (1, [.int (iz kd), .int (iz c2), .int (iz c3), .int (iz c4), .int (iz c5)])) (hdg : (0 ≤ kd ∧ kd ≤ 9) ∧ (0 ≤ c2 ∧ c2 ≤ 9) ∧ (0 ≤ c3 ∧ c3 ≤ 9) ∧ (0 ≤ c4 ∧ c4 ≤ 9) ∧ 0 ≤ c5 ∧ c5 ≤ 9) (hpn : po + 10 ≤ n) (hpl : isPl κ ad g po nl v) (hok : okPl nl v) (hcp : co < po ∨ po + 10 ≤ co) (hin : inV v) : Met l yX1_adds wsX1_adds ({ frames := 2, cells := 0, slots := 0, locals := 49 }) (gPre κ B n ad g [.ref (ad co), .ref (ad po)]) (gQi κ B n ad (fun z g' => ((((c2 = 0 ∨ c2 = 1) ∧ 5 ≤ 10 * c3 + c4 ∧ 10 * c3 + c4 ≤ 60 ∧ nl < 6) ∧ z = 1 ∧ isPl κ ad g' po (nl + 1) (v4 v nl (10 * c3 + c4) c2 c5 0)) ∨ (¬ ((c2 = 0 ∨ c2 = 1) ∧ 5 ≤ 10 * c3 + c4 ∧ 10 * c3 + c4 ≤ 60 ∧ nl < 6) ∧ z = 0 ∧ isPl κ ad g' po nl v)) ∧ frP g g' po)) 0 0 (gFree B) := by
  refine g_met RX1 (cc := cX1_adds) (maxL := 3) (ret := (some .boolean)) (by decide) rfl rfl (Nat.le_of_ble_eq_true rfl) ?_
  intro p e s m args below meth c C hr hlk hnm G ls hl
  have hl : lv_has ls 3 [(0, .ref (ad co)), (1, .ref (ad po))] := hl
  obtain ⟨hn6, hv0, hv25, hlay, hsee⟩ := id hok
  refine g_bipush (a := 10) C dX1_adds_0 (by decide) ?_
  refine g_aload_n C dX1_adds_2 rfl hl 0 rfl ?_
  refine g_get C G (pos := co) fX1_adds_16 (by omega) hco rfl dX1_adds_3 ?_
  refine g_imul C dX1_adds_6 ?_
  refine g_aload_n C dX1_adds_7 rfl hl 0 rfl ?_
  refine g_get C G (pos := co) fX1_adds_19 (by omega) hco rfl dX1_adds_8 ?_
  refine g_iadd C dX1_adds_11 ?_
  refine lv_istore_n (lv' := [(2, .int (iz ((10 * c3) + c4))), (0, .ref (ad co)), (1, .ref (ad po))]) C.1.1 C.1.2.1 dX1_adds_12 rfl hl (by decide) rfl (fun ls hl => ?_)
  refine g_aload_n C dX1_adds_13 rfl hl 1 rfl ?_
  refine g_get C G (pos := co) fX1_adds_13 (by omega) hco rfl dX1_adds_14 ?_
  refine g_ci C G (g_runN (As := [.int (iz c2)]) (rest := []) C G (c_X7_isSide l κ B n ad g c2 (by omega)) (g_cwN (index := 87) 1 C gX1_adds_X7_isSide_n87 rfl rfl rfl (by decide +kernel) (by decide +kernel) (by decide +kernel) (by decide +kernel) ⟨Nat.le_of_ble_eq_true rfl, Nat.le_of_ble_eq_true rfl⟩) rfl hl rfl (Nat.le_of_ble_eq_true rfl) dX1_adds_17 ⟨Nat.le_of_ble_eq_true rfl, Nat.le_of_ble_eq_true rfl⟩) (fun z_2 g9 H locs hw G => ?_)
  obtain ⟨hg9, hw⟩ := hw
  replace hg9 := hg9.symm
  subst hg9
  rcases hw with ⟨b_1, rfl⟩ | ⟨b_1, rfl⟩
  · refine g_if_eq (tgt := 47) C (by decide) dX1_adds_20 (by decide) (fun c9 => absurd c9 (by decide)) (fun _ => ?_)
    refine g_iload_n C dX1_adds_23 rfl hl 0 rfl ?_
    refine g_ci C G (g_runN (As := [.int (iz ((10 * c3) + c4))]) (rest := []) C G (c_X7_isWheel l κ B n ad g ((10 * c3) + c4) (by omega)) (g_cwN (index := 90) 1 C gX1_adds_X7_isWheel_n90 rfl rfl rfl (by decide +kernel) (by decide +kernel) (by decide +kernel) (by decide +kernel) ⟨Nat.le_of_ble_eq_true rfl, Nat.le_of_ble_eq_true rfl⟩) rfl hl rfl (Nat.le_of_ble_eq_true rfl) dX1_adds_24 ⟨Nat.le_of_ble_eq_true rfl, Nat.le_of_ble_eq_true rfl⟩) (fun z_4 g9 H locs hw G => ?_)
    obtain ⟨hg9, hw⟩ := hw
    replace hg9 := hg9.symm
    subst hg9
    rcases hw with ⟨b_3, rfl⟩ | ⟨b_3, rfl⟩
    · refine g_if_eq (tgt := 47) C (by decide) dX1_adds_27 (by decide) (fun c9 => absurd c9 (by decide)) (fun _ => ?_)
      refine g_aload_n C dX1_adds_30 rfl hl 1 rfl ?_
      refine g_get C G (pos := co) fX1_adds_22 (by omega) hco rfl dX1_adds_31 ?_
      refine g_ci C G (g_runN (As := [.int (iz c5)]) (rest := []) C G (c_X7_isHole l κ B n ad g c5 (by omega)) (g_cwN (index := 93) 1 C gX1_adds_X7_isHole_n93 rfl rfl rfl (by decide +kernel) (by decide +kernel) (by decide +kernel) (by decide +kernel) ⟨Nat.le_of_ble_eq_true rfl, Nat.le_of_ble_eq_true rfl⟩) rfl hl rfl (Nat.le_of_ble_eq_true rfl) dX1_adds_34 ⟨Nat.le_of_ble_eq_true rfl, Nat.le_of_ble_eq_true rfl⟩) (fun z_6 g9 H locs hw G => ?_)
      obtain ⟨hg9, hw⟩ := hw
      replace hg9 := hg9.symm
      subst hg9
      rcases hw with ⟨b_5, rfl⟩ | ⟨b_5, rfl⟩
      · refine g_if_eq (tgt := 47) C (by decide) dX1_adds_37 (by decide) (fun c9 => absurd c9 (by decide)) (fun _ => ?_)
        refine g_aload_n C dX1_adds_40 rfl hl 2 rfl ?_
        refine g_ci C G (g_runV (As := []) (rest := []) (pos := po) C G (c_X4_isFull l κ B n ad g po nl v (by omega) hpl (by omega)) (cwV 0 C.1.2.2.2.2 gX1_adds_X4_isFull rfl rfl rfl (by decide +kernel) ⟨Nat.le_of_ble_eq_true rfl, Nat.le_of_ble_eq_true rfl⟩) (by omega) hpl.1 (T := TX4) (N := 6) rfl rfl hl rfl (Nat.le_of_ble_eq_true rfl) dX1_adds_41 ⟨Nat.le_of_ble_eq_true rfl, Nat.le_of_ble_eq_true rfl⟩) (fun z_8 g9 H locs hw G => ?_)
        obtain ⟨hg9, hw⟩ := hw
        replace hg9 := hg9.symm
        subst hg9
        rcases hw with ⟨b_7, rfl⟩ | ⟨b_7, rfl⟩
        · refine g_if_eq (tgt := 49) C (by decide) dX1_adds_44 (by decide) (fun c9 => absurd c9 (by decide)) (fun _ => ?_)
          refine g_iconst (a := 0) C dX1_adds_47 rfl ?_
          refine g_zret C G hr hlk (by decide) (Nat.le_of_ble_eq_true rfl) (Nat.le_of_ble_eq_true rfl) dX1_adds_48 ?_
          exact ⟨Or.inr ⟨by omega, rfl, hpl⟩, frP.rf⟩
        · refine g_if_eq (tgt := 49) C (by decide) dX1_adds_44 (by decide) (fun _ => ?_) (fun c9 => absurd c9 (by decide))
          refine g_aload_n C dX1_adds_49 rfl hl 2 rfl ?_
          refine g_iload_n C dX1_adds_50 rfl hl 0 rfl ?_
          refine g_aload_n C dX1_adds_51 rfl hl 1 rfl ?_
          refine g_get C G (pos := co) fX1_adds_13 (by omega) hco rfl dX1_adds_52 ?_
          refine g_aload_n C dX1_adds_55 rfl hl 1 rfl ?_
          refine g_get C G (pos := co) fX1_adds_22 (by omega) hco rfl dX1_adds_56 ?_
          refine g_iconst (a := 0) C dX1_adds_59 rfl ?_
          refine g_cv C G (g_runV (As := [.int (iz ((10 * c3) + c4)), .int (iz c2), .int (iz c5), .int (iz 0)]) (rest := []) (pos := po) C G (c_X4_putLayer l κ B n ad g po nl v ((10 * c3) + c4) c2 c5 0 (by omega) hpl (by omega)) (cwV 4 C.1.2.2.2.2 gX1_adds_X4_putLayer rfl rfl rfl (by decide +kernel) ⟨Nat.le_of_ble_eq_true rfl, Nat.le_of_ble_eq_true rfl⟩) (by omega) hpl.1 (T := TX4) (N := 6) rfl rfl hl rfl (Nat.le_of_ble_eq_true rfl) dX1_adds_60 ⟨Nat.le_of_ble_eq_true rfl, Nat.le_of_ble_eq_true rfl⟩) (fun g_9 H locs hw9 G => ?_)
          obtain ⟨hpl_10, hfr_11⟩ := hw9
          have hc_13 : g_9 co = .inr (1, [.int (iz kd), .int (iz c2), .int (iz c3), .int (iz c4), .int (iz c5)]) := (hfr_11 _ (by omega)).trans hco
          have hfr_14 : frP g g_9 po := frP.rf.tr hfr_11
          refine g_iconst (a := 1) C dX1_adds_63 rfl ?_
          refine g_zret C G hr hlk (by decide) (Nat.le_of_ble_eq_true rfl) (Nat.le_of_ble_eq_true rfl) dX1_adds_64 ?_
          exact ⟨Or.inl ⟨by omega, rfl, hpl_10⟩, hfr_14⟩
      · refine g_if_eq (tgt := 47) C (by decide) dX1_adds_37 (by decide) (fun _ => ?_) (fun c9 => absurd c9 (by decide))
        refine g_iconst (a := 0) C dX1_adds_47 rfl ?_
        refine g_zret C G hr hlk (by decide) (Nat.le_of_ble_eq_true rfl) (Nat.le_of_ble_eq_true rfl) dX1_adds_48 ?_
        exact ⟨Or.inr ⟨by omega, rfl, hpl⟩, frP.rf⟩
    · refine g_if_eq (tgt := 47) C (by decide) dX1_adds_27 (by decide) (fun _ => ?_) (fun c9 => absurd c9 (by decide))
      refine g_iconst (a := 0) C dX1_adds_47 rfl ?_
      refine g_zret C G hr hlk (by decide) (Nat.le_of_ble_eq_true rfl) (Nat.le_of_ble_eq_true rfl) dX1_adds_48 ?_
      exact ⟨Or.inr ⟨by omega, rfl, hpl⟩, frP.rf⟩
  · refine g_if_eq (tgt := 47) C (by decide) dX1_adds_20 (by decide) (fun _ => ?_) (fun c9 => absurd c9 (by decide))
    refine g_iconst (a := 0) C dX1_adds_47 rfl ?_
    refine g_zret C G hr hlk (by decide) (Nat.le_of_ble_eq_true rfl) (Nat.le_of_ble_eq_true rfl) dX1_adds_48 ?_
    exact ⟨Or.inr ⟨by omega, rfl, hpl⟩, frP.rf⟩
theorem fX1_sharesEnough_13 : gFld wsX1_sharesEnough RX1 13 1 1 := ⟨RX1, TX1, 5, rfl, by decide, by decide +kernel, by decide +kernel⟩
theorem fX1_sharesEnough_16 : gFld wsX1_sharesEnough RX1 16 1 2 := ⟨RX1, TX1, 5, rfl, by decide, by decide +kernel, by decide +kernel⟩
theorem fX1_sharesEnough_104 : gFld wsX1_sharesEnough RX1 104 4 0 := ⟨RX4, TX4, 6, rfl, by decide, by decide +kernel, by decide +kernel⟩
set_option maxHeartbeats 4000000 in
set_option maxRecDepth 100000 in
theorem c_X1_sharesEnough (l : Launch) (κ : gKap) (B n : Nat) (ad : Nat → Nat) (g : Nat → va_E) (co : Nat) (kd : Int) (c2 : Int) (c3 : Int) (c4 : Int) (c5 : Int) (po : Nat) (nl : Int) (v : Int → Int) (bo : Nat) (hcn : co < n) (hco : g co = .inr (1, [.int (iz kd), .int (iz c2), .int (iz c3), .int (iz c4), .int (iz c5)])) (hdg : (0 ≤ kd ∧ kd ≤ 9) ∧ (0 ≤ c2 ∧ c2 ≤ 9) ∧ (0 ≤ c3 ∧ c3 ≤ 9) ∧ (0 ≤ c4 ∧ c4 ≤ 9) ∧ 0 ≤ c5 ∧ c5 ≤ 9) (hpn : po + 10 ≤ n) (hpl : isPl κ ad g po nl v) (hok : okPl nl v) (hbn9 : bo + 6 ≤ n) (hbn : isBn κ ad g bo) (hcp : co < po ∨ po + 10 ≤ co) (hcb : co < bo ∨ bo + 6 ≤ co) (hpb : po + 10 ≤ bo ∨ bo + 6 ≤ po) : Met l yX1_sharesEnough wsX1_sharesEnough ({ frames := 4, cells := 0, slots := 0, locals := 100 }) (gPre κ B n ad g [.ref (ad co), .ref (ad po), .ref (ad bo)]) (gQi κ B n ad (fun z g' => isBn κ ad g' bo ∧ frB g g' bo ∧ (((c2 < nl ∧ c3 < nl ∧ 10 * c4 + c5 ≤ (cntS (fun x y => PTl v c2 x y ∧ PTl v c3 x y) : Int)) ∧ z = 1) ∨ (¬ (c2 < nl ∧ c3 < nl ∧ 10 * c4 + c5 ≤ (cntS (fun x y => PTl v c2 x y ∧ PTl v c3 x y) : Int)) ∧ z = 0)))) 0 0 (gFree B) := by
  refine g_met RX1 (cc := cX1_sharesEnough) (maxL := 5) (ret := (some .boolean)) (by decide) rfl rfl (Nat.le_of_ble_eq_true rfl) ?_
  intro p e s m args below meth c C hr hlk hnm G ls hl
  have hl : lv_has ls 5 [(0, .ref (ad co)), (1, .ref (ad po)), (2, .ref (ad bo))] := hl
  obtain ⟨hn6, hv0, hv25, hlay, hsee⟩ := id hok
  have hla := hlay c2
  have hlb := hlay c3
  refine g_aload_n C dX1_sharesEnough_0 rfl hl 1 rfl ?_
  refine g_aload_n C dX1_sharesEnough_1 rfl hl 0 rfl ?_
  refine g_get C G (pos := co) fX1_sharesEnough_13 (by omega) hco rfl dX1_sharesEnough_2 ?_
  refine g_co C G (g_runV (As := [.int (iz c2)]) (rest := []) (pos := po) C G (c_X4_find l κ B n ad g po nl v c2 (by omega) hpl (by omega) (by omega)) (cwV 1 C.1.2.2.2.2 gX1_sharesEnough_X4_find rfl rfl rfl (by decide +kernel) ⟨Nat.le_of_ble_eq_true rfl, Nat.le_of_ble_eq_true rfl⟩) (by omega) hpl.1 (T := TX4) (N := 6) rfl rfl hl rfl (Nat.le_of_ble_eq_true rfl) dX1_sharesEnough_5 ⟨Nat.le_of_ble_eq_true rfl, Nat.le_of_ble_eq_true rfl⟩) (fun q_1 g9 H locs hw G => ?_) (fun g9 H locs hw G => ?_)
  · obtain ⟨hg9, ⟨b_2, hw⟩ | ⟨b_2, hw⟩⟩ := hw
    all_goals replace hg9 := hg9.symm
    all_goals subst hg9
    · cases hw
      refine lv_astore_n (lv' := [(3, .ref (ad (po + 2 + (c2).toNat))), (0, .ref (ad co)), (1, .ref (ad po)), (2, .ref (ad bo))]) C.1.1 C.1.2.1 dX1_sharesEnough_8 rfl hl (by decide) rfl (fun ls hl => ?_)
      refine g_aload_n C dX1_sharesEnough_9 rfl hl 2 rfl ?_
      refine g_aload_n C dX1_sharesEnough_10 rfl hl 1 rfl ?_
      refine g_get C G (pos := co) fX1_sharesEnough_16 (by omega) hco rfl dX1_sharesEnough_11 ?_
      refine g_co C G (g_runV (As := [.int (iz c3)]) (rest := []) (pos := po) C G (c_X4_find l κ B n ad g po nl v c3 (by omega) hpl (by omega) (by omega)) (cwV 1 C.1.2.2.2.2 gX1_sharesEnough_X4_find rfl rfl rfl (by decide +kernel) ⟨Nat.le_of_ble_eq_true rfl, Nat.le_of_ble_eq_true rfl⟩) (by omega) hpl.1 (T := TX4) (N := 6) rfl rfl hl rfl (Nat.le_of_ble_eq_true rfl) dX1_sharesEnough_14 ⟨Nat.le_of_ble_eq_true rfl, Nat.le_of_ble_eq_true rfl⟩) (fun q_3 g9 H locs hw G => ?_) (fun g9 H locs hw G => ?_)
      · obtain ⟨hg9, ⟨b_4, hw⟩ | ⟨b_4, hw⟩⟩ := hw
        all_goals replace hg9 := hg9.symm
        all_goals subst hg9
        · cases hw
          refine lv_astore (lv' := [(4, .ref (ad (po + 2 + (c3).toNat))), (3, .ref (ad (po + 2 + (c2).toNat))), (0, .ref (ad co)), (1, .ref (ad po)), (2, .ref (ad bo))]) C.1.1 C.1.2.1 dX1_sharesEnough_17 hl (by decide) rfl (fun ls hl => ?_)
          refine g_aload_n C dX1_sharesEnough_19 rfl hl 1 rfl ?_
          refine lv_ifnull C.1.1 C.1.2.1 dX1_sharesEnough_20 ?_
          refine g_aload C dX1_sharesEnough_23 hl 0 rfl ?_
          refine lv_ifnull C.1.1 C.1.2.1 dX1_sharesEnough_25 ?_
          refine g_aload_n C dX1_sharesEnough_28 rfl hl 4 rfl ?_
          refine g_aload_n C dX1_sharesEnough_29 rfl hl 3 rfl ?_
          refine g_get C G (pos := po) fX1_sharesEnough_104 (by omega) hpl.1 rfl dX1_sharesEnough_30 ?_
          refine g_aload_n C dX1_sharesEnough_33 rfl hl 1 rfl ?_
          refine g_aload C dX1_sharesEnough_34 hl 0 rfl ?_
          refine g_ci C G (g_runV (As := [.int (iz (v 0)), .ref (ad (po + 2 + (c2).toNat)), .ref (ad (po + 2 + (c3).toNat))]) (rest := []) (pos := bo) C G (c_X0_countCommon l κ B n ad g bo (v 0) (po + 2 + (c2).toNat) (v (4 * c2 + 1)) (v (4 * c2 + 2)) (v (4 * c2 + 3)) (v (4 * c2 + 4)) (po + 2 + (c3).toNat) (v (4 * c3 + 1)) (v (4 * c3 + 2)) (v (4 * c3 + 3)) (v (4 * c3 + 4)) (by omega) hbn hv0 (by omega) (hpl.lay (by omega) (by omega)) (by omega) (hla hdg.2.1.1 (by omega)).1 (hla hdg.2.1.1 (by omega)).2 (by omega) (hpl.lay (by omega) (by omega)) (by omega) (hlb hdg.2.2.1.1 (by omega)).1 (hlb hdg.2.2.1.1 (by omega)).2) (cwV 3 C.1.2.2.2.2 gX1_sharesEnough_X0_countCommon rfl rfl rfl (by decide +kernel) ⟨Nat.le_of_ble_eq_true rfl, Nat.le_of_ble_eq_true rfl⟩) (by omega) hbn.1 (T := TX0) (N := 3) rfl rfl hl rfl (Nat.le_of_ble_eq_true rfl) dX1_sharesEnough_36 ⟨Nat.le_of_ble_eq_true rfl, Nat.le_of_ble_eq_true rfl⟩) (fun z_9 g_5 H locs hw9 G => ?_)
          obtain ⟨hbn_6, hfb_7, hx_8⟩ := hw9
          have hc_10 : g_5 co = .inr (1, [.int (iz kd), .int (iz c2), .int (iz c3), .int (iz c4), .int (iz c5)]) := (hfb_7 _ (by omega)).trans hco
          have hpl_11 : isPl κ ad g_5 po nl v := hpl.far (fun _ _ _ => hfb_7 _ (by omega))
          refine g_aload_n C dX1_sharesEnough_39 rfl hl 2 rfl ?_
          refine g_ci C G (g_runV (As := []) (rest := [.int (iz z_9)]) (pos := co) C G (c_X1_lastTwo l κ B n ad g_5 co kd c2 c3 c4 c5 (by omega) hc_10 hdg) (cwV 0 C.1.2.2.2.2 gX1_sharesEnough_X1_lastTwo rfl rfl rfl (by decide +kernel) ⟨Nat.le_of_ble_eq_true rfl, Nat.le_of_ble_eq_true rfl⟩) (by omega) hc_10 (T := TX1) (N := 5) rfl rfl hl rfl (Nat.le_of_ble_eq_true rfl) dX1_sharesEnough_40 ⟨Nat.le_of_ble_eq_true rfl, Nat.le_of_ble_eq_true rfl⟩) (fun z_12 g9 H locs hw G => ?_)
          obtain ⟨hg9, h_13⟩ := hw
          replace hg9 := hg9.symm
          subst hg9
          subst h_13
          refine g_icmp_lt (tgt := 50) C (by omega) (by omega) dX1_sharesEnough_43 (by decide) (fun c_14 => ?_) (fun c_14 => ?_)
          · refine g_iconst (a := 0) C dX1_sharesEnough_50 rfl ?_
            refine g_zret C G hr hlk (by decide) (Nat.le_of_ble_eq_true rfl) (Nat.le_of_ble_eq_true rfl) dX1_sharesEnough_51 ?_
            refine ⟨hbn_6, hfb_7, ?_⟩
            exact Or.inr ⟨fun q => absurd (Int.le_trans q.2.2 (Int.le_of_eq hx_8.1.symm)) (by omega), rfl⟩
          · refine g_iconst (a := 1) C dX1_sharesEnough_46 rfl ?_
            refine g_goto (tgt := 51) C dX1_sharesEnough_47 (by decide) ?_
            refine g_zret C G hr hlk (by decide) (Nat.le_of_ble_eq_true rfl) (Nat.le_of_ble_eq_true rfl) dX1_sharesEnough_51 ?_
            refine ⟨hbn_6, hfb_7, ?_⟩
            exact Or.inl ⟨⟨by omega, by omega, by have q := hx_8.1; exact Int.le_trans (show 10 * c4 + c5 ≤ z_9 by omega) (Int.le_of_eq q)⟩, rfl⟩
        · cases hw
      · obtain ⟨hg9, ⟨b_4, hw⟩ | ⟨b_4, hw⟩⟩ := hw
        all_goals replace hg9 := hg9.symm
        all_goals subst hg9
        · cases hw
        · refine lv_astoreN (lv' := [(4, .null), (3, .ref (ad (po + 2 + (c2).toNat))), (0, .ref (ad co)), (1, .ref (ad po)), (2, .ref (ad bo))]) C.1.1 C.1.2.1 dX1_sharesEnough_17 hl (by decide) rfl (fun ls hl => ?_)
          refine g_aload_n C dX1_sharesEnough_19 rfl hl 1 rfl ?_
          refine lv_ifnull C.1.1 C.1.2.1 dX1_sharesEnough_20 ?_
          refine lv_aloadN C.1.1 C.1.2.1 dX1_sharesEnough_23 (lv_at hl 0 rfl) ?_
          refine lv_ifnullN (tgt := 50) C.1.1 C.1.2.1 dX1_sharesEnough_25 (by decide) ?_
          refine g_iconst (a := 0) C dX1_sharesEnough_50 rfl ?_
          refine g_zret C G hr hlk (by decide) (Nat.le_of_ble_eq_true rfl) (Nat.le_of_ble_eq_true rfl) dX1_sharesEnough_51 ?_
          refine ⟨hbn, frB.rf, ?_⟩
          exact Or.inr ⟨by omega, rfl⟩
    · cases hw
  · obtain ⟨hg9, ⟨b_2, hw⟩ | ⟨b_2, hw⟩⟩ := hw
    all_goals replace hg9 := hg9.symm
    all_goals subst hg9
    · cases hw
    · refine lv_astore_nN (lv' := [(3, .null), (0, .ref (ad co)), (1, .ref (ad po)), (2, .ref (ad bo))]) C.1.1 C.1.2.1 dX1_sharesEnough_8 rfl hl (by decide) rfl (fun ls hl => ?_)
      refine g_aload_n C dX1_sharesEnough_9 rfl hl 2 rfl ?_
      refine g_aload_n C dX1_sharesEnough_10 rfl hl 1 rfl ?_
      refine g_get C G (pos := co) fX1_sharesEnough_16 (by omega) hco rfl dX1_sharesEnough_11 ?_
      refine g_co C G (g_runV (As := [.int (iz c3)]) (rest := []) (pos := po) C G (c_X4_find l κ B n ad g po nl v c3 (by omega) hpl (by omega) (by omega)) (cwV 1 C.1.2.2.2.2 gX1_sharesEnough_X4_find rfl rfl rfl (by decide +kernel) ⟨Nat.le_of_ble_eq_true rfl, Nat.le_of_ble_eq_true rfl⟩) (by omega) hpl.1 (T := TX4) (N := 6) rfl rfl hl rfl (Nat.le_of_ble_eq_true rfl) dX1_sharesEnough_14 ⟨Nat.le_of_ble_eq_true rfl, Nat.le_of_ble_eq_true rfl⟩) (fun q_15 g9 H locs hw G => ?_) (fun g9 H locs hw G => ?_)
      · obtain ⟨hg9, ⟨b_16, hw⟩ | ⟨b_16, hw⟩⟩ := hw
        all_goals replace hg9 := hg9.symm
        all_goals subst hg9
        · cases hw
          refine lv_astore (lv' := [(4, .ref (ad (po + 2 + (c3).toNat))), (3, .null), (0, .ref (ad co)), (1, .ref (ad po)), (2, .ref (ad bo))]) C.1.1 C.1.2.1 dX1_sharesEnough_17 hl (by decide) rfl (fun ls hl => ?_)
          refine lv_aload_nN C.1.1 C.1.2.1 dX1_sharesEnough_19 rfl (lv_at hl 1 rfl) ?_
          refine lv_ifnullN (tgt := 50) C.1.1 C.1.2.1 dX1_sharesEnough_20 (by decide) ?_
          refine g_iconst (a := 0) C dX1_sharesEnough_50 rfl ?_
          refine g_zret C G hr hlk (by decide) (Nat.le_of_ble_eq_true rfl) (Nat.le_of_ble_eq_true rfl) dX1_sharesEnough_51 ?_
          refine ⟨hbn, frB.rf, ?_⟩
          exact Or.inr ⟨by omega, rfl⟩
        · cases hw
      · obtain ⟨hg9, ⟨b_16, hw⟩ | ⟨b_16, hw⟩⟩ := hw
        all_goals replace hg9 := hg9.symm
        all_goals subst hg9
        · cases hw
        · refine lv_astoreN (lv' := [(4, .null), (3, .null), (0, .ref (ad co)), (1, .ref (ad po)), (2, .ref (ad bo))]) C.1.1 C.1.2.1 dX1_sharesEnough_17 hl (by decide) rfl (fun ls hl => ?_)
          refine lv_aload_nN C.1.1 C.1.2.1 dX1_sharesEnough_19 rfl (lv_at hl 1 rfl) ?_
          refine lv_ifnullN (tgt := 50) C.1.1 C.1.2.1 dX1_sharesEnough_20 (by decide) ?_
          refine g_iconst (a := 0) C dX1_sharesEnough_50 rfl ?_
          refine g_zret C G hr hlk (by decide) (Nat.le_of_ble_eq_true rfl) (Nat.le_of_ble_eq_true rfl) dX1_sharesEnough_51 ?_
          refine ⟨hbn, frB.rf, ?_⟩
          exact Or.inr ⟨by omega, rfl⟩
theorem fX1_isTurned_13 : gFld wsX1_isTurned RX1 13 1 1 := ⟨RX1, TX1, 5, rfl, by decide, by decide +kernel, by decide +kernel⟩
theorem fX1_isTurned_16 : gFld wsX1_isTurned RX1 16 1 2 := ⟨RX1, TX1, 5, rfl, by decide, by decide +kernel, by decide +kernel⟩
theorem fX1_isTurned_104 : gFld wsX1_isTurned RX1 104 4 0 := ⟨RX4, TX4, 6, rfl, by decide, by decide +kernel, by decide +kernel⟩
set_option maxHeartbeats 4000000 in
set_option maxRecDepth 100000 in
theorem c_X1_isTurned (l : Launch) (κ : gKap) (B n : Nat) (ad : Nat → Nat) (g : Nat → va_E) (co : Nat) (kd : Int) (c2 : Int) (c3 : Int) (c4 : Int) (c5 : Int) (po : Nat) (nl : Int) (v : Int → Int) (bo : Nat) (hcn : co < n) (hco : g co = .inr (1, [.int (iz kd), .int (iz c2), .int (iz c3), .int (iz c4), .int (iz c5)])) (hdg : (0 ≤ kd ∧ kd ≤ 9) ∧ (0 ≤ c2 ∧ c2 ≤ 9) ∧ (0 ≤ c3 ∧ c3 ≤ 9) ∧ (0 ≤ c4 ∧ c4 ≤ 9) ∧ 0 ≤ c5 ∧ c5 ≤ 9) (hpn : po + 10 ≤ n) (hpl : isPl κ ad g po nl v) (hok : okPl nl v) (hbn9 : bo + 6 ≤ n) (hbn : isBn κ ad g bo) (hcp : co < po ∨ po + 10 ≤ co) (hcb : co < bo ∨ bo + 6 ≤ co) (hpb : po + 10 ≤ bo ∨ bo + 6 ≤ po) : Met l yX1_isTurned wsX1_isTurned ({ frames := 4, cells := 0, slots := 0, locals := 102 }) (gPre κ B n ad g [.ref (ad co), .ref (ad po), .ref (ad bo)]) (gQi κ B n ad (fun z g' => isBn κ ad g' bo ∧ frB g g' bo ∧ (((c2 < nl ∧ c3 < nl ∧ isFirst (fun d => SameR (v 0) (v (4 * c2 + 1)) (v (4 * c2 + 2)) (v (4 * c2 + 3)) ((v (4 * c2 + 4) + d) % v 0) (v (4 * c3 + 1)) (v (4 * c3 + 2)) (v (4 * c3 + 3)) (v (4 * c3 + 4))) (v 0) (10 * c4 + c5)) ∧ z = 1) ∨ (¬ (c2 < nl ∧ c3 < nl ∧ isFirst (fun d => SameR (v 0) (v (4 * c2 + 1)) (v (4 * c2 + 2)) (v (4 * c2 + 3)) ((v (4 * c2 + 4) + d) % v 0) (v (4 * c3 + 1)) (v (4 * c3 + 2)) (v (4 * c3 + 3)) (v (4 * c3 + 4))) (v 0) (10 * c4 + c5)) ∧ z = 0)))) 0 0 (gFree B) := by
  refine g_met RX1 (cc := cX1_isTurned) (maxL := 5) (ret := (some .boolean)) (by decide) rfl rfl (Nat.le_of_ble_eq_true rfl) ?_
  intro p e s m args below meth c C hr hlk hnm G ls hl
  have hl : lv_has ls 5 [(0, .ref (ad co)), (1, .ref (ad po)), (2, .ref (ad bo))] := hl
  obtain ⟨hn6, hv0, hv25, hlay, hsee⟩ := id hok
  have hla := hlay c2
  have hlb := hlay c3
  refine g_aload_n C dX1_isTurned_0 rfl hl 1 rfl ?_
  refine g_aload_n C dX1_isTurned_1 rfl hl 0 rfl ?_
  refine g_get C G (pos := co) fX1_isTurned_13 (by omega) hco rfl dX1_isTurned_2 ?_
  refine g_co C G (g_runV (As := [.int (iz c2)]) (rest := []) (pos := po) C G (c_X4_find l κ B n ad g po nl v c2 (by omega) hpl (by omega) (by omega)) (cwV 1 C.1.2.2.2.2 gX1_isTurned_X4_find rfl rfl rfl (by decide +kernel) ⟨Nat.le_of_ble_eq_true rfl, Nat.le_of_ble_eq_true rfl⟩) (by omega) hpl.1 (T := TX4) (N := 6) rfl rfl hl rfl (Nat.le_of_ble_eq_true rfl) dX1_isTurned_5 ⟨Nat.le_of_ble_eq_true rfl, Nat.le_of_ble_eq_true rfl⟩) (fun q_1 g9 H locs hw G => ?_) (fun g9 H locs hw G => ?_)
  · obtain ⟨hg9, ⟨b_2, hw⟩ | ⟨b_2, hw⟩⟩ := hw
    all_goals replace hg9 := hg9.symm
    all_goals subst hg9
    · cases hw
      refine lv_astore_n (lv' := [(3, .ref (ad (po + 2 + (c2).toNat))), (0, .ref (ad co)), (1, .ref (ad po)), (2, .ref (ad bo))]) C.1.1 C.1.2.1 dX1_isTurned_8 rfl hl (by decide) rfl (fun ls hl => ?_)
      refine g_aload_n C dX1_isTurned_9 rfl hl 2 rfl ?_
      refine g_aload_n C dX1_isTurned_10 rfl hl 1 rfl ?_
      refine g_get C G (pos := co) fX1_isTurned_16 (by omega) hco rfl dX1_isTurned_11 ?_
      refine g_co C G (g_runV (As := [.int (iz c3)]) (rest := []) (pos := po) C G (c_X4_find l κ B n ad g po nl v c3 (by omega) hpl (by omega) (by omega)) (cwV 1 C.1.2.2.2.2 gX1_isTurned_X4_find rfl rfl rfl (by decide +kernel) ⟨Nat.le_of_ble_eq_true rfl, Nat.le_of_ble_eq_true rfl⟩) (by omega) hpl.1 (T := TX4) (N := 6) rfl rfl hl rfl (Nat.le_of_ble_eq_true rfl) dX1_isTurned_14 ⟨Nat.le_of_ble_eq_true rfl, Nat.le_of_ble_eq_true rfl⟩) (fun q_3 g9 H locs hw G => ?_) (fun g9 H locs hw G => ?_)
      · obtain ⟨hg9, ⟨b_4, hw⟩ | ⟨b_4, hw⟩⟩ := hw
        all_goals replace hg9 := hg9.symm
        all_goals subst hg9
        · cases hw
          refine lv_astore (lv' := [(4, .ref (ad (po + 2 + (c3).toNat))), (3, .ref (ad (po + 2 + (c2).toNat))), (0, .ref (ad co)), (1, .ref (ad po)), (2, .ref (ad bo))]) C.1.1 C.1.2.1 dX1_isTurned_17 hl (by decide) rfl (fun ls hl => ?_)
          refine g_aload_n C dX1_isTurned_19 rfl hl 1 rfl ?_
          refine lv_ifnull C.1.1 C.1.2.1 dX1_isTurned_20 ?_
          refine g_aload C dX1_isTurned_23 hl 0 rfl ?_
          refine lv_ifnull C.1.1 C.1.2.1 dX1_isTurned_25 ?_
          refine g_aload_n C dX1_isTurned_28 rfl hl 4 rfl ?_
          refine g_aload_n C dX1_isTurned_29 rfl hl 3 rfl ?_
          refine g_get C G (pos := po) fX1_isTurned_104 (by omega) hpl.1 rfl dX1_isTurned_30 ?_
          refine g_aload_n C dX1_isTurned_33 rfl hl 1 rfl ?_
          refine g_aload C dX1_isTurned_34 hl 0 rfl ?_
          refine g_ci C G (g_runV (As := [.int (iz (v 0)), .ref (ad (po + 2 + (c2).toNat)), .ref (ad (po + 2 + (c3).toNat))]) (rest := []) (pos := bo) C G (c_X0_turnBetween l κ B n ad g bo (v 0) (po + 2 + (c2).toNat) (v (4 * c2 + 1)) (v (4 * c2 + 2)) (v (4 * c2 + 3)) (v (4 * c2 + 4)) (po + 2 + (c3).toNat) (v (4 * c3 + 1)) (v (4 * c3 + 2)) (v (4 * c3 + 3)) (v (4 * c3 + 4)) (by omega) hbn hv0 (by omega) (hpl.lay (by omega) (by omega)) (by omega) (hla hdg.2.1.1 (by omega)).1 (hla hdg.2.1.1 (by omega)).2 (by omega) (hpl.lay (by omega) (by omega)) (by omega) (hlb hdg.2.2.1.1 (by omega)).1 (hlb hdg.2.2.1.1 (by omega)).2) (cwV 3 C.1.2.2.2.2 gX1_isTurned_X0_turnBetween rfl rfl rfl (by decide +kernel) ⟨Nat.le_of_ble_eq_true rfl, Nat.le_of_ble_eq_true rfl⟩) (by omega) hbn.1 (T := TX0) (N := 3) rfl rfl hl rfl (Nat.le_of_ble_eq_true rfl) dX1_isTurned_36 ⟨Nat.le_of_ble_eq_true rfl, Nat.le_of_ble_eq_true rfl⟩) (fun z_9 g_5 H locs hw9 G => ?_)
          obtain ⟨hbn_6, hfb_7, hx_8⟩ := hw9
          have hc_10 : g_5 co = .inr (1, [.int (iz kd), .int (iz c2), .int (iz c3), .int (iz c4), .int (iz c5)]) := (hfb_7 _ (by omega)).trans hco
          have hpl_11 : isPl κ ad g_5 po nl v := hpl.far (fun _ _ _ => hfb_7 _ (by omega))
          have hrz := hx_8.rg
          refine g_aload_n C dX1_isTurned_39 rfl hl 2 rfl ?_
          refine g_ci C G (g_runV (As := []) (rest := [.int (iz z_9)]) (pos := co) C G (c_X1_lastTwo l κ B n ad g_5 co kd c2 c3 c4 c5 (by omega) hc_10 hdg) (cwV 0 C.1.2.2.2.2 gX1_isTurned_X1_lastTwo rfl rfl rfl (by decide +kernel) ⟨Nat.le_of_ble_eq_true rfl, Nat.le_of_ble_eq_true rfl⟩) (by omega) hc_10 (T := TX1) (N := 5) rfl rfl hl rfl (Nat.le_of_ble_eq_true rfl) dX1_isTurned_40 ⟨Nat.le_of_ble_eq_true rfl, Nat.le_of_ble_eq_true rfl⟩) (fun z_12 g9 H locs hw G => ?_)
          obtain ⟨hg9, h_13⟩ := hw
          replace hg9 := hg9.symm
          subst hg9
          subst h_13
          refine g_icmp_ne (tgt := 50) C (by omega) (by omega) dX1_isTurned_43 (by decide) (fun c_14 => ?_) (fun c_14 => ?_)
          · refine g_iconst (a := 0) C dX1_isTurned_50 rfl ?_
            refine g_zret C G hr hlk (by decide) (Nat.le_of_ble_eq_true rfl) (Nat.le_of_ble_eq_true rfl) dX1_isTurned_51 ?_
            refine ⟨hbn_6, hfb_7, ?_⟩
            exact Or.inr ⟨fun q => absurd (hx_8.uniq q.2.2) (by omega), rfl⟩
          · refine g_iconst (a := 1) C dX1_isTurned_46 rfl ?_
            refine g_goto (tgt := 51) C dX1_isTurned_47 (by decide) ?_
            refine g_zret C G hr hlk (by decide) (Nat.le_of_ble_eq_true rfl) (Nat.le_of_ble_eq_true rfl) dX1_isTurned_51 ?_
            refine ⟨hbn_6, hfb_7, ?_⟩
            exact Or.inl ⟨⟨by omega, by omega, by rw [← show z_9 = 10 * c4 + c5 by omega]; exact hx_8⟩, rfl⟩
        · cases hw
      · obtain ⟨hg9, ⟨b_4, hw⟩ | ⟨b_4, hw⟩⟩ := hw
        all_goals replace hg9 := hg9.symm
        all_goals subst hg9
        · cases hw
        · refine lv_astoreN (lv' := [(4, .null), (3, .ref (ad (po + 2 + (c2).toNat))), (0, .ref (ad co)), (1, .ref (ad po)), (2, .ref (ad bo))]) C.1.1 C.1.2.1 dX1_isTurned_17 hl (by decide) rfl (fun ls hl => ?_)
          refine g_aload_n C dX1_isTurned_19 rfl hl 1 rfl ?_
          refine lv_ifnull C.1.1 C.1.2.1 dX1_isTurned_20 ?_
          refine lv_aloadN C.1.1 C.1.2.1 dX1_isTurned_23 (lv_at hl 0 rfl) ?_
          refine lv_ifnullN (tgt := 50) C.1.1 C.1.2.1 dX1_isTurned_25 (by decide) ?_
          refine g_iconst (a := 0) C dX1_isTurned_50 rfl ?_
          refine g_zret C G hr hlk (by decide) (Nat.le_of_ble_eq_true rfl) (Nat.le_of_ble_eq_true rfl) dX1_isTurned_51 ?_
          refine ⟨hbn, frB.rf, ?_⟩
          exact Or.inr ⟨by omega, rfl⟩
    · cases hw
  · obtain ⟨hg9, ⟨b_2, hw⟩ | ⟨b_2, hw⟩⟩ := hw
    all_goals replace hg9 := hg9.symm
    all_goals subst hg9
    · cases hw
    · refine lv_astore_nN (lv' := [(3, .null), (0, .ref (ad co)), (1, .ref (ad po)), (2, .ref (ad bo))]) C.1.1 C.1.2.1 dX1_isTurned_8 rfl hl (by decide) rfl (fun ls hl => ?_)
      refine g_aload_n C dX1_isTurned_9 rfl hl 2 rfl ?_
      refine g_aload_n C dX1_isTurned_10 rfl hl 1 rfl ?_
      refine g_get C G (pos := co) fX1_isTurned_16 (by omega) hco rfl dX1_isTurned_11 ?_
      refine g_co C G (g_runV (As := [.int (iz c3)]) (rest := []) (pos := po) C G (c_X4_find l κ B n ad g po nl v c3 (by omega) hpl (by omega) (by omega)) (cwV 1 C.1.2.2.2.2 gX1_isTurned_X4_find rfl rfl rfl (by decide +kernel) ⟨Nat.le_of_ble_eq_true rfl, Nat.le_of_ble_eq_true rfl⟩) (by omega) hpl.1 (T := TX4) (N := 6) rfl rfl hl rfl (Nat.le_of_ble_eq_true rfl) dX1_isTurned_14 ⟨Nat.le_of_ble_eq_true rfl, Nat.le_of_ble_eq_true rfl⟩) (fun q_15 g9 H locs hw G => ?_) (fun g9 H locs hw G => ?_)
      · obtain ⟨hg9, ⟨b_16, hw⟩ | ⟨b_16, hw⟩⟩ := hw
        all_goals replace hg9 := hg9.symm
        all_goals subst hg9
        · cases hw
          refine lv_astore (lv' := [(4, .ref (ad (po + 2 + (c3).toNat))), (3, .null), (0, .ref (ad co)), (1, .ref (ad po)), (2, .ref (ad bo))]) C.1.1 C.1.2.1 dX1_isTurned_17 hl (by decide) rfl (fun ls hl => ?_)
          refine lv_aload_nN C.1.1 C.1.2.1 dX1_isTurned_19 rfl (lv_at hl 1 rfl) ?_
          refine lv_ifnullN (tgt := 50) C.1.1 C.1.2.1 dX1_isTurned_20 (by decide) ?_
          refine g_iconst (a := 0) C dX1_isTurned_50 rfl ?_
          refine g_zret C G hr hlk (by decide) (Nat.le_of_ble_eq_true rfl) (Nat.le_of_ble_eq_true rfl) dX1_isTurned_51 ?_
          refine ⟨hbn, frB.rf, ?_⟩
          exact Or.inr ⟨by omega, rfl⟩
        · cases hw
      · obtain ⟨hg9, ⟨b_16, hw⟩ | ⟨b_16, hw⟩⟩ := hw
        all_goals replace hg9 := hg9.symm
        all_goals subst hg9
        · cases hw
        · refine lv_astoreN (lv' := [(4, .null), (3, .null), (0, .ref (ad co)), (1, .ref (ad po)), (2, .ref (ad bo))]) C.1.1 C.1.2.1 dX1_isTurned_17 hl (by decide) rfl (fun ls hl => ?_)
          refine lv_aload_nN C.1.1 C.1.2.1 dX1_isTurned_19 rfl (lv_at hl 1 rfl) ?_
          refine lv_ifnullN (tgt := 50) C.1.1 C.1.2.1 dX1_isTurned_20 (by decide) ?_
          refine g_iconst (a := 0) C dX1_isTurned_50 rfl ?_
          refine g_zret C G hr hlk (by decide) (Nat.le_of_ble_eq_true rfl) (Nat.le_of_ble_eq_true rfl) dX1_isTurned_51 ?_
          refine ⟨hbn, frB.rf, ?_⟩
          exact Or.inr ⟨by omega, rfl⟩
theorem fX1_hasTurns_13 : gFld wsX1_hasTurns RX1 13 1 1 := ⟨RX1, TX1, 5, rfl, by decide, by decide +kernel, by decide +kernel⟩
theorem fX1_hasTurns_16 : gFld wsX1_hasTurns RX1 16 1 2 := ⟨RX1, TX1, 5, rfl, by decide, by decide +kernel, by decide +kernel⟩
theorem fX1_hasTurns_104 : gFld wsX1_hasTurns RX1 104 4 0 := ⟨RX4, TX4, 6, rfl, by decide, by decide +kernel, by decide +kernel⟩
set_option maxHeartbeats 4000000 in
set_option maxRecDepth 100000 in
theorem c_X1_hasTurns (l : Launch) (κ : gKap) (B n : Nat) (ad : Nat → Nat) (g : Nat → va_E) (co : Nat) (kd : Int) (c2 : Int) (c3 : Int) (c4 : Int) (c5 : Int) (po : Nat) (nl : Int) (v : Int → Int) (hcn : co < n) (hco : g co = .inr (1, [.int (iz kd), .int (iz c2), .int (iz c3), .int (iz c4), .int (iz c5)])) (hdg : (0 ≤ kd ∧ kd ≤ 9) ∧ (0 ≤ c2 ∧ c2 ≤ 9) ∧ (0 ≤ c3 ∧ c3 ≤ 9) ∧ (0 ≤ c4 ∧ c4 ≤ 9) ∧ 0 ≤ c5 ∧ c5 ≤ 9) (hpn : po + 10 ≤ n) (hpl : isPl κ ad g po nl v) (hok : okPl nl v) (hcp : co < po ∨ po + 10 ≤ co) : Met l yX1_hasTurns wsX1_hasTurns ({ frames := 2, cells := 0, slots := 0, locals := 51 }) (gPre κ B n ad g [.ref (ad co), .ref (ad po)]) (gQi κ B n ad (fun z g' => g' = g ∧ (((c2 < nl ∧ c3 = 0 ∧ tn (v 0) (v (4 * c2 + 1)) = 10 * c4 + c5) ∧ z = 1) ∨ (¬ (c2 < nl ∧ c3 = 0 ∧ tn (v 0) (v (4 * c2 + 1)) = 10 * c4 + c5) ∧ z = 0)))) 0 0 (gFree B) := by
  refine g_met RX1 (cc := cX1_hasTurns) (maxL := 3) (ret := (some .boolean)) (by decide) rfl rfl (Nat.le_of_ble_eq_true rfl) ?_
  intro p e s m args below meth c C hr hlk hnm G ls hl
  have hl : lv_has ls 3 [(0, .ref (ad co)), (1, .ref (ad po))] := hl
  obtain ⟨hn6, hv0, hv25, hlay, hsee⟩ := id hok
  have hla := hlay c2
  refine g_aload_n C dX1_hasTurns_0 rfl hl 1 rfl ?_
  refine g_aload_n C dX1_hasTurns_1 rfl hl 0 rfl ?_
  refine g_get C G (pos := co) fX1_hasTurns_13 (by omega) hco rfl dX1_hasTurns_2 ?_
  refine g_co C G (g_runV (As := [.int (iz c2)]) (rest := []) (pos := po) C G (c_X4_find l κ B n ad g po nl v c2 (by omega) hpl (by omega) (by omega)) (cwV 1 C.1.2.2.2.2 gX1_hasTurns_X4_find rfl rfl rfl (by decide +kernel) ⟨Nat.le_of_ble_eq_true rfl, Nat.le_of_ble_eq_true rfl⟩) (by omega) hpl.1 (T := TX4) (N := 6) rfl rfl hl rfl (Nat.le_of_ble_eq_true rfl) dX1_hasTurns_5 ⟨Nat.le_of_ble_eq_true rfl, Nat.le_of_ble_eq_true rfl⟩) (fun q_1 g9 H locs hw G => ?_) (fun g9 H locs hw G => ?_)
  · obtain ⟨hg9, ⟨b_2, hw⟩ | ⟨b_2, hw⟩⟩ := hw
    all_goals replace hg9 := hg9.symm
    all_goals subst hg9
    · cases hw
      refine lv_astore_n (lv' := [(2, .ref (ad (po + 2 + (c2).toNat))), (0, .ref (ad co)), (1, .ref (ad po))]) C.1.1 C.1.2.1 dX1_hasTurns_8 rfl hl (by decide) rfl (fun ls hl => ?_)
      refine g_aload_n C dX1_hasTurns_9 rfl hl 0 rfl ?_
      refine lv_ifnull C.1.1 C.1.2.1 dX1_hasTurns_10 ?_
      refine g_aload_n C dX1_hasTurns_13 rfl hl 1 rfl ?_
      refine g_get C G (pos := co) fX1_hasTurns_16 (by omega) hco rfl dX1_hasTurns_14 ?_
      refine g_if_ne (tgt := 39) C (by omega) dX1_hasTurns_17 (by decide) (fun c_3 => ?_) (fun c_3 => ?_)
      · refine g_iconst (a := 0) C dX1_hasTurns_39 rfl ?_
        refine g_zret C G hr hlk (by decide) (Nat.le_of_ble_eq_true rfl) (Nat.le_of_ble_eq_true rfl) dX1_hasTurns_40 ?_
        exact ⟨rfl, Or.inr ⟨by omega, rfl⟩⟩
      · refine g_aload_n C dX1_hasTurns_20 rfl hl 0 rfl ?_
        refine g_aload_n C dX1_hasTurns_21 rfl hl 2 rfl ?_
        refine g_get C G (pos := po) fX1_hasTurns_104 (by omega) hpl.1 rfl dX1_hasTurns_22 ?_
        refine g_ci C G (g_runV (As := [.int (iz (v 0))]) (rest := []) (pos := po + 2 + (c2).toNat) C G (c_X3_turns l κ B n ad g (po + 2 + (c2).toNat) (v (4 * c2 + 1)) (v (4 * c2 + 2)) (v (4 * c2 + 3)) (v (4 * c2 + 4)) (v 0) (by omega) (hpl.lay (by omega) (by omega)) (hla hdg.2.1.1 (by omega)).1 hv0) (cwV 1 C.1.2.2.2.2 gX1_hasTurns_X3_turns rfl rfl rfl (by decide +kernel) ⟨Nat.le_of_ble_eq_true rfl, Nat.le_of_ble_eq_true rfl⟩) (by omega) (hpl.lay (by omega) (by omega)) (T := TX3) (N := 4) rfl rfl hl rfl (Nat.le_of_ble_eq_true rfl) dX1_hasTurns_25 ⟨Nat.le_of_ble_eq_true rfl, Nat.le_of_ble_eq_true rfl⟩) (fun z_4 g9 H locs hw G => ?_)
        obtain ⟨hg9, h_5⟩ := hw
        replace hg9 := hg9.symm
        subst hg9
        have hq9 := h_5.2.2
        refine g_aload_n C dX1_hasTurns_28 rfl hl 1 rfl ?_
        refine g_ci C G (g_runV (As := []) (rest := [.int (iz z_4)]) (pos := co) C G (c_X1_lastTwo l κ B n ad g co kd c2 c3 c4 c5 (by omega) hco hdg) (cwV 0 C.1.2.2.2.2 gX1_hasTurns_X1_lastTwo rfl rfl rfl (by decide +kernel) ⟨Nat.le_of_ble_eq_true rfl, Nat.le_of_ble_eq_true rfl⟩) (by omega) hco (T := TX1) (N := 5) rfl rfl hl rfl (Nat.le_of_ble_eq_true rfl) dX1_hasTurns_29 ⟨Nat.le_of_ble_eq_true rfl, Nat.le_of_ble_eq_true rfl⟩) (fun z_6 g9 H locs hw G => ?_)
        obtain ⟨hg9, h_7⟩ := hw
        replace hg9 := hg9.symm
        subst hg9
        subst h_7
        refine g_icmp_ne (tgt := 39) C (by omega) (by omega) dX1_hasTurns_32 (by decide) (fun c_8 => ?_) (fun c_8 => ?_)
        · refine g_iconst (a := 0) C dX1_hasTurns_39 rfl ?_
          refine g_zret C G hr hlk (by decide) (Nat.le_of_ble_eq_true rfl) (Nat.le_of_ble_eq_true rfl) dX1_hasTurns_40 ?_
          exact ⟨rfl, Or.inr ⟨by omega, rfl⟩⟩
        · refine g_iconst (a := 1) C dX1_hasTurns_35 rfl ?_
          refine g_goto (tgt := 40) C dX1_hasTurns_36 (by decide) ?_
          refine g_zret C G hr hlk (by decide) (Nat.le_of_ble_eq_true rfl) (Nat.le_of_ble_eq_true rfl) dX1_hasTurns_40 ?_
          exact ⟨rfl, Or.inl ⟨⟨by omega, by omega, by omega⟩, rfl⟩⟩
    · cases hw
  · obtain ⟨hg9, ⟨b_2, hw⟩ | ⟨b_2, hw⟩⟩ := hw
    all_goals replace hg9 := hg9.symm
    all_goals subst hg9
    · cases hw
    · refine lv_astore_nN (lv' := [(2, .null), (0, .ref (ad co)), (1, .ref (ad po))]) C.1.1 C.1.2.1 dX1_hasTurns_8 rfl hl (by decide) rfl (fun ls hl => ?_)
      refine lv_aload_nN C.1.1 C.1.2.1 dX1_hasTurns_9 rfl (lv_at hl 0 rfl) ?_
      refine lv_ifnullN (tgt := 39) C.1.1 C.1.2.1 dX1_hasTurns_10 (by decide) ?_
      refine g_iconst (a := 0) C dX1_hasTurns_39 rfl ?_
      refine g_zret C G hr hlk (by decide) (Nat.le_of_ble_eq_true rfl) (Nat.le_of_ble_eq_true rfl) dX1_hasTurns_40 ?_
      exact ⟨rfl, Or.inr ⟨by omega, rfl⟩⟩
theorem fX1_hasLobes_13 : gFld wsX1_hasLobes RX1 13 1 1 := ⟨RX1, TX1, 5, rfl, by decide, by decide +kernel, by decide +kernel⟩
theorem fX1_hasLobes_16 : gFld wsX1_hasLobes RX1 16 1 2 := ⟨RX1, TX1, 5, rfl, by decide, by decide +kernel, by decide +kernel⟩
theorem fX1_hasLobes_104 : gFld wsX1_hasLobes RX1 104 4 0 := ⟨RX4, TX4, 6, rfl, by decide, by decide +kernel, by decide +kernel⟩
set_option maxHeartbeats 4000000 in
set_option maxRecDepth 100000 in
theorem c_X1_hasLobes (l : Launch) (κ : gKap) (B n : Nat) (ad : Nat → Nat) (g : Nat → va_E) (co : Nat) (kd : Int) (c2 : Int) (c3 : Int) (c4 : Int) (c5 : Int) (po : Nat) (nl : Int) (v : Int → Int) (hcn : co < n) (hco : g co = .inr (1, [.int (iz kd), .int (iz c2), .int (iz c3), .int (iz c4), .int (iz c5)])) (hdg : (0 ≤ kd ∧ kd ≤ 9) ∧ (0 ≤ c2 ∧ c2 ≤ 9) ∧ (0 ≤ c3 ∧ c3 ≤ 9) ∧ (0 ≤ c4 ∧ c4 ≤ 9) ∧ 0 ≤ c5 ∧ c5 ≤ 9) (hpn : po + 10 ≤ n) (hpl : isPl κ ad g po nl v) (hok : okPl nl v) (hcp : co < po ∨ po + 10 ≤ co) : Met l yX1_hasLobes wsX1_hasLobes ({ frames := 2, cells := 0, slots := 0, locals := 51 }) (gPre κ B n ad g [.ref (ad co), .ref (ad po)]) (gQi κ B n ad (fun z g' => g' = g ∧ (((c2 < nl ∧ c3 = 0 ∧ lb (v 0) (v (4 * c2 + 1)) = 10 * c4 + c5) ∧ z = 1) ∨ (¬ (c2 < nl ∧ c3 = 0 ∧ lb (v 0) (v (4 * c2 + 1)) = 10 * c4 + c5) ∧ z = 0)))) 0 0 (gFree B) := by
  refine g_met RX1 (cc := cX1_hasLobes) (maxL := 3) (ret := (some .boolean)) (by decide) rfl rfl (Nat.le_of_ble_eq_true rfl) ?_
  intro p e s m args below meth c C hr hlk hnm G ls hl
  have hl : lv_has ls 3 [(0, .ref (ad co)), (1, .ref (ad po))] := hl
  obtain ⟨hn6, hv0, hv25, hlay, hsee⟩ := id hok
  have hla := hlay c2
  refine g_aload_n C dX1_hasLobes_0 rfl hl 1 rfl ?_
  refine g_aload_n C dX1_hasLobes_1 rfl hl 0 rfl ?_
  refine g_get C G (pos := co) fX1_hasLobes_13 (by omega) hco rfl dX1_hasLobes_2 ?_
  refine g_co C G (g_runV (As := [.int (iz c2)]) (rest := []) (pos := po) C G (c_X4_find l κ B n ad g po nl v c2 (by omega) hpl (by omega) (by omega)) (cwV 1 C.1.2.2.2.2 gX1_hasLobes_X4_find rfl rfl rfl (by decide +kernel) ⟨Nat.le_of_ble_eq_true rfl, Nat.le_of_ble_eq_true rfl⟩) (by omega) hpl.1 (T := TX4) (N := 6) rfl rfl hl rfl (Nat.le_of_ble_eq_true rfl) dX1_hasLobes_5 ⟨Nat.le_of_ble_eq_true rfl, Nat.le_of_ble_eq_true rfl⟩) (fun q_1 g9 H locs hw G => ?_) (fun g9 H locs hw G => ?_)
  · obtain ⟨hg9, ⟨b_2, hw⟩ | ⟨b_2, hw⟩⟩ := hw
    all_goals replace hg9 := hg9.symm
    all_goals subst hg9
    · cases hw
      refine lv_astore_n (lv' := [(2, .ref (ad (po + 2 + (c2).toNat))), (0, .ref (ad co)), (1, .ref (ad po))]) C.1.1 C.1.2.1 dX1_hasLobes_8 rfl hl (by decide) rfl (fun ls hl => ?_)
      refine g_aload_n C dX1_hasLobes_9 rfl hl 0 rfl ?_
      refine lv_ifnull C.1.1 C.1.2.1 dX1_hasLobes_10 ?_
      refine g_aload_n C dX1_hasLobes_13 rfl hl 1 rfl ?_
      refine g_get C G (pos := co) fX1_hasLobes_16 (by omega) hco rfl dX1_hasLobes_14 ?_
      refine g_if_ne (tgt := 39) C (by omega) dX1_hasLobes_17 (by decide) (fun c_3 => ?_) (fun c_3 => ?_)
      · refine g_iconst (a := 0) C dX1_hasLobes_39 rfl ?_
        refine g_zret C G hr hlk (by decide) (Nat.le_of_ble_eq_true rfl) (Nat.le_of_ble_eq_true rfl) dX1_hasLobes_40 ?_
        exact ⟨rfl, Or.inr ⟨by omega, rfl⟩⟩
      · refine g_aload_n C dX1_hasLobes_20 rfl hl 0 rfl ?_
        refine g_aload_n C dX1_hasLobes_21 rfl hl 2 rfl ?_
        refine g_get C G (pos := po) fX1_hasLobes_104 (by omega) hpl.1 rfl dX1_hasLobes_22 ?_
        refine g_ci C G (g_runV (As := [.int (iz (v 0))]) (rest := []) (pos := po + 2 + (c2).toNat) C G (c_X3_lobes l κ B n ad g (po + 2 + (c2).toNat) (v (4 * c2 + 1)) (v (4 * c2 + 2)) (v (4 * c2 + 3)) (v (4 * c2 + 4)) (v 0) (by omega) (hpl.lay (by omega) (by omega)) (hla hdg.2.1.1 (by omega)).1 hv0) (cwV 1 C.1.2.2.2.2 gX1_hasLobes_X3_lobes rfl rfl rfl (by decide +kernel) ⟨Nat.le_of_ble_eq_true rfl, Nat.le_of_ble_eq_true rfl⟩) (by omega) (hpl.lay (by omega) (by omega)) (T := TX3) (N := 4) rfl rfl hl rfl (Nat.le_of_ble_eq_true rfl) dX1_hasLobes_25 ⟨Nat.le_of_ble_eq_true rfl, Nat.le_of_ble_eq_true rfl⟩) (fun z_4 g9 H locs hw G => ?_)
        obtain ⟨hg9, h_5⟩ := hw
        replace hg9 := hg9.symm
        subst hg9
        have hq9 := h_5.2.2
        refine g_aload_n C dX1_hasLobes_28 rfl hl 1 rfl ?_
        refine g_ci C G (g_runV (As := []) (rest := [.int (iz z_4)]) (pos := co) C G (c_X1_lastTwo l κ B n ad g co kd c2 c3 c4 c5 (by omega) hco hdg) (cwV 0 C.1.2.2.2.2 gX1_hasLobes_X1_lastTwo rfl rfl rfl (by decide +kernel) ⟨Nat.le_of_ble_eq_true rfl, Nat.le_of_ble_eq_true rfl⟩) (by omega) hco (T := TX1) (N := 5) rfl rfl hl rfl (Nat.le_of_ble_eq_true rfl) dX1_hasLobes_29 ⟨Nat.le_of_ble_eq_true rfl, Nat.le_of_ble_eq_true rfl⟩) (fun z_6 g9 H locs hw G => ?_)
        obtain ⟨hg9, h_7⟩ := hw
        replace hg9 := hg9.symm
        subst hg9
        subst h_7
        refine g_icmp_ne (tgt := 39) C (by omega) (by omega) dX1_hasLobes_32 (by decide) (fun c_8 => ?_) (fun c_8 => ?_)
        · refine g_iconst (a := 0) C dX1_hasLobes_39 rfl ?_
          refine g_zret C G hr hlk (by decide) (Nat.le_of_ble_eq_true rfl) (Nat.le_of_ble_eq_true rfl) dX1_hasLobes_40 ?_
          exact ⟨rfl, Or.inr ⟨by omega, rfl⟩⟩
        · refine g_iconst (a := 1) C dX1_hasLobes_35 rfl ?_
          refine g_goto (tgt := 40) C dX1_hasLobes_36 (by decide) ?_
          refine g_zret C G hr hlk (by decide) (Nat.le_of_ble_eq_true rfl) (Nat.le_of_ble_eq_true rfl) dX1_hasLobes_40 ?_
          exact ⟨rfl, Or.inl ⟨⟨by omega, by omega, by omega⟩, rfl⟩⟩
    · cases hw
  · obtain ⟨hg9, ⟨b_2, hw⟩ | ⟨b_2, hw⟩⟩ := hw
    all_goals replace hg9 := hg9.symm
    all_goals subst hg9
    · cases hw
    · refine lv_astore_nN (lv' := [(2, .null), (0, .ref (ad co)), (1, .ref (ad po))]) C.1.1 C.1.2.1 dX1_hasLobes_8 rfl hl (by decide) rfl (fun ls hl => ?_)
      refine lv_aload_nN C.1.1 C.1.2.1 dX1_hasLobes_9 rfl (lv_at hl 0 rfl) ?_
      refine lv_ifnullN (tgt := 39) C.1.1 C.1.2.1 dX1_hasLobes_10 (by decide) ?_
      refine g_iconst (a := 0) C dX1_hasLobes_39 rfl ?_
      refine g_zret C G hr hlk (by decide) (Nat.le_of_ble_eq_true rfl) (Nat.le_of_ble_eq_true rfl) dX1_hasLobes_40 ?_
      exact ⟨rfl, Or.inr ⟨by omega, rfl⟩⟩
theorem fX1_succeeds_7 : gFld wsX1_succeeds RX1 7 1 0 := ⟨RX1, TX1, 5, rfl, by decide, by decide +kernel, by decide +kernel⟩
theorem fX1_succeeds_16 : gFld wsX1_succeeds RX1 16 1 2 := ⟨RX1, TX1, 5, rfl, by decide, by decide +kernel, by decide +kernel⟩
theorem fX1_succeeds_13 : gFld wsX1_succeeds RX1 13 1 1 := ⟨RX1, TX1, 5, rfl, by decide, by decide +kernel, by decide +kernel⟩
set_option maxHeartbeats 4000000 in
set_option maxRecDepth 100000 in
theorem c_X1_succeeds (l : Launch) (κ : gKap) (B n : Nat) (ad : Nat → Nat) (g : Nat → va_E) (co : Nat) (kd : Int) (c2 : Int) (c3 : Int) (c4 : Int) (c5 : Int) (po : Nat) (nl : Int) (v : Int → Int) (bo : Nat) (hcn : co < n) (hco : g co = .inr (1, [.int (iz kd), .int (iz c2), .int (iz c3), .int (iz c4), .int (iz c5)])) (hdg : (0 ≤ kd ∧ kd ≤ 9) ∧ (0 ≤ c2 ∧ c2 ≤ 9) ∧ (0 ≤ c3 ∧ c3 ≤ 9) ∧ (0 ≤ c4 ∧ c4 ≤ 9) ∧ 0 ≤ c5 ∧ c5 ≤ 9) (hpn : po + 10 ≤ n) (hpl : isPl κ ad g po nl v) (hok : okPl nl v) (hbn9 : bo + 6 ≤ n) (hbn : isBn κ ad g bo) (hcp : co < po ∨ po + 10 ≤ co) (hcb : co < bo ∨ bo + 6 ≤ co) (hpb : po + 10 ≤ bo ∨ bo + 6 ≤ po) (hin : inV v) : Met l yX1_succeeds wsX1_succeeds ({ frames := 5, cells := 0, slots := 0, locals := 126 }) (gPre κ B n ad g [.ref (ad co), .ref (ad po), .ref (ad bo)]) (gQi κ B n ad (fun z g' => (((cmOK kd c2 c3 c4 c5 nl v) ∧ z = 1 ∧ isPl κ ad g' po (cmP kd c2 c3 c4 c5 nl v).1 (cmP kd c2 c3 c4 c5 nl v).2) ∨ (¬ (cmOK kd c2 c3 c4 c5 nl v) ∧ z = 0 ∧ isPl κ ad g' po nl v)) ∧ isBn κ ad g' bo ∧ ∀ q, (q < po ∨ po + 10 ≤ q) → (q < bo ∨ bo + 6 ≤ q) → g' q = g q)) 0 0 (gFree B) := by
  refine g_met RX1 (cc := cX1_succeeds) (maxL := 3) (ret := (some .boolean)) (by decide) rfl rfl (Nat.le_of_ble_eq_true rfl) ?_
  intro p e s m args below meth c C hr hlk hnm G ls hl
  have hl : lv_has ls 3 [(0, .ref (ad co)), (1, .ref (ad po)), (2, .ref (ad bo))] := hl
  obtain ⟨hn6, hv0, hv25, hlay, hsee⟩ := id hok
  refine g_aload_n C dX1_succeeds_0 rfl hl 0 rfl ?_
  refine g_get C G (pos := co) fX1_succeeds_7 (by omega) hco rfl dX1_succeeds_1 ?_
  by_cases e_1 : kd = 1
  · refine g_tswIn (v := 1) (off := 52) (tgt := 56) C dX1_succeeds_4 e_1 (by decide) (by decide) (by decide) (by decide) (by decide) ?_
    refine g_aload_n C dX1_succeeds_56 rfl hl 0 rfl ?_
    refine g_aload_n C dX1_succeeds_57 rfl hl 1 rfl ?_
    refine g_ci C G (g_runV (As := [.ref (ad po)]) (rest := []) (pos := co) C G (c_X1_changes l κ B n ad g co kd c2 c3 c4 c5 po nl v (by omega) hco hdg (by omega) hpl hok (by omega) hin) (cwV 1 C.1.2.2.2.2 gX1_succeeds_X1_changes rfl rfl rfl (by decide +kernel) ⟨Nat.le_of_ble_eq_true rfl, Nat.le_of_ble_eq_true rfl⟩) (by omega) hco (T := TX1) (N := 5) rfl rfl hl rfl (Nat.le_of_ble_eq_true rfl) dX1_succeeds_58 ⟨Nat.le_of_ble_eq_true rfl, Nat.le_of_ble_eq_true rfl⟩) (fun z_2 g_3 H locs hw9 G => ?_)
    obtain ⟨h_4c, h_4f⟩ := hw9
    have h_4z : z_2 = 0 ∨ z_2 = 1 := h_4c.elim (fun q => Or.inr q.2.1) (fun q => Or.inl q.2.1)
    refine g_zret C G hr hlk (by omega) (Nat.le_of_ble_eq_true rfl) (Nat.le_of_ble_eq_true rfl) dX1_succeeds_61 ?_
    rw [e_1]
    exact ⟨h_4c, hbn.far (fun q q0 q1 => h_4f q (by omega)), fun q q0 q1 => h_4f q q0⟩
  by_cases e_5 : kd = 2
  · refine g_tswIn (v := 2) (off := 58) (tgt := 62) C dX1_succeeds_4 e_5 (by decide) (by decide) (by decide) (by decide) (by decide) ?_
    refine g_aload_n C dX1_succeeds_62 rfl hl 0 rfl ?_
    refine g_aload_n C dX1_succeeds_63 rfl hl 1 rfl ?_
    refine g_ci C G (g_runV (As := [.ref (ad po)]) (rest := []) (pos := co) C G (c_X1_removes l κ B n ad g co kd c2 c3 c4 c5 po nl v (by omega) hco hdg (by omega) hpl hok (by omega) hin) (cwV 1 C.1.2.2.2.2 gX1_succeeds_X1_removes rfl rfl rfl (by decide +kernel) ⟨Nat.le_of_ble_eq_true rfl, Nat.le_of_ble_eq_true rfl⟩) (by omega) hco (T := TX1) (N := 5) rfl rfl hl rfl (Nat.le_of_ble_eq_true rfl) dX1_succeeds_64 ⟨Nat.le_of_ble_eq_true rfl, Nat.le_of_ble_eq_true rfl⟩) (fun z_6 g_7 H locs hw9 G => ?_)
    obtain ⟨h_8c, h_8f⟩ := hw9
    have h_8z : z_6 = 0 ∨ z_6 = 1 := h_8c.elim (fun q => Or.inr q.2.1) (fun q => Or.inl q.2.1)
    refine g_zret C G hr hlk (by omega) (Nat.le_of_ble_eq_true rfl) (Nat.le_of_ble_eq_true rfl) dX1_succeeds_67 ?_
    rw [e_5]
    exact ⟨h_8c, hbn.far (fun q q0 q1 => h_8f q (by omega)), fun q q0 q1 => h_8f q q0⟩
  by_cases e_9 : kd = 3
  · refine g_tswIn (v := 3) (off := 64) (tgt := 68) C dX1_succeeds_4 e_9 (by decide) (by decide) (by decide) (by decide) (by decide) ?_
    refine g_aload_n C dX1_succeeds_68 rfl hl 0 rfl ?_
    refine g_aload_n C dX1_succeeds_69 rfl hl 1 rfl ?_
    refine g_ci C G (g_runV (As := [.ref (ad po)]) (rest := []) (pos := co) C G (c_X1_takesRing l κ B n ad g co kd c2 c3 c4 c5 po nl v (by omega) hco hdg (by omega) hpl hok (by omega) hin) (cwV 1 C.1.2.2.2.2 gX1_succeeds_X1_takesRing rfl rfl rfl (by decide +kernel) ⟨Nat.le_of_ble_eq_true rfl, Nat.le_of_ble_eq_true rfl⟩) (by omega) hco (T := TX1) (N := 5) rfl rfl hl rfl (Nat.le_of_ble_eq_true rfl) dX1_succeeds_70 ⟨Nat.le_of_ble_eq_true rfl, Nat.le_of_ble_eq_true rfl⟩) (fun z_10 g_11 H locs hw9 G => ?_)
    obtain ⟨h_12c, h_12f⟩ := hw9
    have h_12z : z_10 = 0 ∨ z_10 = 1 := h_12c.elim (fun q => Or.inr q.2.1) (fun q => Or.inl q.2.1)
    refine g_zret C G hr hlk (by omega) (Nat.le_of_ble_eq_true rfl) (Nat.le_of_ble_eq_true rfl) dX1_succeeds_73 ?_
    rw [e_9]
    exact ⟨h_12c, hbn.far (fun q q0 q1 => h_12f q (by omega)), fun q q0 q1 => h_12f q q0⟩
  by_cases e_13 : kd = 4
  · refine g_tswIn (v := 4) (off := 70) (tgt := 74) C dX1_succeeds_4 e_13 (by decide) (by decide) (by decide) (by decide) (by decide) ?_
    refine g_aload_n C dX1_succeeds_74 rfl hl 0 rfl ?_
    refine g_aload_n C dX1_succeeds_75 rfl hl 1 rfl ?_
    refine g_ci C G (g_runV (As := [.ref (ad po)]) (rest := []) (pos := co) C G (c_X1_adds l κ B n ad g co kd c2 c3 c4 c5 po nl v (by omega) hco hdg (by omega) hpl hok (by omega) hin) (cwV 1 C.1.2.2.2.2 gX1_succeeds_X1_adds rfl rfl rfl (by decide +kernel) ⟨Nat.le_of_ble_eq_true rfl, Nat.le_of_ble_eq_true rfl⟩) (by omega) hco (T := TX1) (N := 5) rfl rfl hl rfl (Nat.le_of_ble_eq_true rfl) dX1_succeeds_76 ⟨Nat.le_of_ble_eq_true rfl, Nat.le_of_ble_eq_true rfl⟩) (fun z_14 g_15 H locs hw9 G => ?_)
    obtain ⟨h_16c, h_16f⟩ := hw9
    have h_16z : z_14 = 0 ∨ z_14 = 1 := h_16c.elim (fun q => Or.inr q.2.1) (fun q => Or.inl q.2.1)
    refine g_zret C G hr hlk (by omega) (Nat.le_of_ble_eq_true rfl) (Nat.le_of_ble_eq_true rfl) dX1_succeeds_79 ?_
    rw [e_13]
    exact ⟨h_16c, hbn.far (fun q q0 q1 => h_16f q (by omega)), fun q q0 q1 => h_16f q q0⟩
  by_cases e_17 : kd = 5
  · refine g_tswIn (v := 5) (off := 76) (tgt := 80) C dX1_succeeds_4 e_17 (by decide) (by decide) (by decide) (by decide) (by decide) ?_
    refine g_aload_n C dX1_succeeds_80 rfl hl 0 rfl ?_
    refine g_aload_n C dX1_succeeds_81 rfl hl 1 rfl ?_
    refine g_aload_n C dX1_succeeds_82 rfl hl 2 rfl ?_
    refine g_ci C G (g_runV (As := [.ref (ad po), .ref (ad bo)]) (rest := []) (pos := co) C G (c_X1_sharesEnough l κ B n ad g co kd c2 c3 c4 c5 po nl v bo (by omega) hco hdg (by omega) hpl hok (by omega) hbn (by omega) (by omega) (by omega)) (cwV 2 C.1.2.2.2.2 gX1_succeeds_X1_sharesEnough rfl rfl rfl (by decide +kernel) ⟨Nat.le_of_ble_eq_true rfl, Nat.le_of_ble_eq_true rfl⟩) (by omega) hco (T := TX1) (N := 5) rfl rfl hl rfl (Nat.le_of_ble_eq_true rfl) dX1_succeeds_83 ⟨Nat.le_of_ble_eq_true rfl, Nat.le_of_ble_eq_true rfl⟩) (fun z_22 g_18 H locs hw9 G => ?_)
    obtain ⟨hbn_19, hfb_20, hx_21⟩ := hw9
    have hc_23 : g_18 co = .inr (1, [.int (iz kd), .int (iz c2), .int (iz c3), .int (iz c4), .int (iz c5)]) := (hfb_20 _ (by omega)).trans hco
    have hpl_24 : isPl κ ad g_18 po nl v := hpl.far (fun _ _ _ => hfb_20 _ (by omega))
    have hz9 : z_22 = 0 ∨ z_22 = 1 := hx_21.elim (fun q => Or.inr q.2) (fun q => Or.inl q.2)
    refine g_zret C G hr hlk (by omega) (Nat.le_of_ble_eq_true rfl) (Nat.le_of_ble_eq_true rfl) dX1_succeeds_86 ?_
    rw [e_17]
    exact ⟨hx_21.elim (fun q => Or.inl ⟨q.1, q.2, hpl_24⟩) (fun q => Or.inr ⟨q.1, q.2, hpl_24⟩), hbn_19, fun q q0 q1 => hfb_20 q q1⟩
  by_cases e_25 : kd = 6
  · refine g_tswIn (v := 6) (off := 83) (tgt := 87) C dX1_succeeds_4 e_25 (by decide) (by decide) (by decide) (by decide) (by decide) ?_
    refine g_aload_n C dX1_succeeds_87 rfl hl 0 rfl ?_
    refine g_aload_n C dX1_succeeds_88 rfl hl 1 rfl ?_
    refine g_ci C G (g_runV (As := [.ref (ad po)]) (rest := []) (pos := co) C G (c_X1_hasTurns l κ B n ad g co kd c2 c3 c4 c5 po nl v (by omega) hco hdg (by omega) hpl hok (by omega)) (cwV 1 C.1.2.2.2.2 gX1_succeeds_X1_hasTurns rfl rfl rfl (by decide +kernel) ⟨Nat.le_of_ble_eq_true rfl, Nat.le_of_ble_eq_true rfl⟩) (by omega) hco (T := TX1) (N := 5) rfl rfl hl rfl (Nat.le_of_ble_eq_true rfl) dX1_succeeds_89 ⟨Nat.le_of_ble_eq_true rfl, Nat.le_of_ble_eq_true rfl⟩) (fun z_27 g9 H locs hw G => ?_)
    obtain ⟨hg9, hw⟩ := hw
    replace hg9 := hg9.symm
    subst hg9
    rcases hw with ⟨b_26, rfl⟩ | ⟨b_26, rfl⟩
    · refine g_zret C G hr hlk (by decide) (Nat.le_of_ble_eq_true rfl) (Nat.le_of_ble_eq_true rfl) dX1_succeeds_92 ?_
      rw [e_25]
      exact ⟨Or.inl ⟨b_26, rfl, hpl⟩, hbn, fun q q0 q1 => rfl⟩
    · refine g_zret C G hr hlk (by decide) (Nat.le_of_ble_eq_true rfl) (Nat.le_of_ble_eq_true rfl) dX1_succeeds_92 ?_
      rw [e_25]
      exact ⟨Or.inr ⟨b_26, rfl, hpl⟩, hbn, fun q q0 q1 => rfl⟩
  by_cases e_28 : kd = 7
  · refine g_tswIn (v := 7) (off := 89) (tgt := 93) C dX1_succeeds_4 e_28 (by decide) (by decide) (by decide) (by decide) (by decide) ?_
    refine g_aload_n C dX1_succeeds_93 rfl hl 0 rfl ?_
    refine g_aload_n C dX1_succeeds_94 rfl hl 1 rfl ?_
    refine g_aload_n C dX1_succeeds_95 rfl hl 2 rfl ?_
    refine g_ci C G (g_runV (As := [.ref (ad po), .ref (ad bo)]) (rest := []) (pos := co) C G (c_X1_isTurned l κ B n ad g co kd c2 c3 c4 c5 po nl v bo (by omega) hco hdg (by omega) hpl hok (by omega) hbn (by omega) (by omega) (by omega)) (cwV 2 C.1.2.2.2.2 gX1_succeeds_X1_isTurned rfl rfl rfl (by decide +kernel) ⟨Nat.le_of_ble_eq_true rfl, Nat.le_of_ble_eq_true rfl⟩) (by omega) hco (T := TX1) (N := 5) rfl rfl hl rfl (Nat.le_of_ble_eq_true rfl) dX1_succeeds_96 ⟨Nat.le_of_ble_eq_true rfl, Nat.le_of_ble_eq_true rfl⟩) (fun z_33 g_29 H locs hw9 G => ?_)
    obtain ⟨hbn_30, hfb_31, hx_32⟩ := hw9
    have hc_34 : g_29 co = .inr (1, [.int (iz kd), .int (iz c2), .int (iz c3), .int (iz c4), .int (iz c5)]) := (hfb_31 _ (by omega)).trans hco
    have hpl_35 : isPl κ ad g_29 po nl v := hpl.far (fun _ _ _ => hfb_31 _ (by omega))
    have hz9 : z_33 = 0 ∨ z_33 = 1 := hx_32.elim (fun q => Or.inr q.2) (fun q => Or.inl q.2)
    refine g_zret C G hr hlk (by omega) (Nat.le_of_ble_eq_true rfl) (Nat.le_of_ble_eq_true rfl) dX1_succeeds_99 ?_
    rw [e_28]
    exact ⟨hx_32.elim (fun q => Or.inl ⟨q.1, q.2, hpl_35⟩) (fun q => Or.inr ⟨q.1, q.2, hpl_35⟩), hbn_30, fun q q0 q1 => hfb_31 q q1⟩
  by_cases e_36 : kd = 8
  · refine g_tswIn (v := 8) (off := 96) (tgt := 100) C dX1_succeeds_4 e_36 (by decide) (by decide) (by decide) (by decide) (by decide) ?_
    refine g_aload_n C dX1_succeeds_100 rfl hl 0 rfl ?_
    refine g_get C G (pos := co) fX1_succeeds_16 (by omega) hco rfl dX1_succeeds_101 ?_
    refine g_if_ne (tgt := 129) C (by omega) dX1_succeeds_104 (by decide) (fun c_37 => ?_) (fun c_37 => ?_)
    · refine g_iconst (a := 0) C dX1_succeeds_129 rfl ?_
      refine g_zret C G hr hlk (by decide) (Nat.le_of_ble_eq_true rfl) (Nat.le_of_ble_eq_true rfl) dX1_succeeds_130 ?_
      rw [e_36]
      exact ⟨Or.inr ⟨show ¬ (c3 = 0 ∧ 10 * c4 + c5 = 0 ∧ c2 ≤ fitN nl v) by omega, rfl, hpl⟩, hbn, fun q q0 q1 => rfl⟩
    · refine g_aload_n C dX1_succeeds_107 rfl hl 0 rfl ?_
      refine g_ci C G (g_runV (As := []) (rest := []) (pos := co) C G (c_X1_lastTwo l κ B n ad g co kd c2 c3 c4 c5 (by omega) hco hdg) (cwV 0 C.1.2.2.2.2 gX1_succeeds_X1_lastTwo rfl rfl rfl (by decide +kernel) ⟨Nat.le_of_ble_eq_true rfl, Nat.le_of_ble_eq_true rfl⟩) (by omega) hco (T := TX1) (N := 5) rfl rfl hl rfl (Nat.le_of_ble_eq_true rfl) dX1_succeeds_108 ⟨Nat.le_of_ble_eq_true rfl, Nat.le_of_ble_eq_true rfl⟩) (fun z_38 g9 H locs hw G => ?_)
      obtain ⟨hg9, h_39⟩ := hw
      replace hg9 := hg9.symm
      subst hg9
      subst h_39
      refine g_if_ne (tgt := 129) C (by omega) dX1_succeeds_111 (by decide) (fun c_40 => ?_) (fun c_40 => ?_)
      · refine g_iconst (a := 0) C dX1_succeeds_129 rfl ?_
        refine g_zret C G hr hlk (by decide) (Nat.le_of_ble_eq_true rfl) (Nat.le_of_ble_eq_true rfl) dX1_succeeds_130 ?_
        rw [e_36]
        exact ⟨Or.inr ⟨show ¬ (c3 = 0 ∧ 10 * c4 + c5 = 0 ∧ c2 ≤ fitN nl v) by omega, rfl, hpl⟩, hbn, fun q q0 q1 => rfl⟩
      · refine g_aload_n C dX1_succeeds_114 rfl hl 1 rfl ?_
        refine g_ci C G (g_runV (As := []) (rest := []) (pos := po) C G (c_X4_fitting l κ B n ad g po nl v (by omega) hpl hok) (cwV 0 C.1.2.2.2.2 gX1_succeeds_X4_fitting rfl rfl rfl (by decide +kernel) ⟨Nat.le_of_ble_eq_true rfl, Nat.le_of_ble_eq_true rfl⟩) (by omega) hpl.1 (T := TX4) (N := 6) rfl rfl hl rfl (Nat.le_of_ble_eq_true rfl) dX1_succeeds_115 ⟨Nat.le_of_ble_eq_true rfl, Nat.le_of_ble_eq_true rfl⟩) (fun z_41 g9 H locs hw G => ?_)
        obtain ⟨hg9, h_42⟩ := hw
        replace hg9 := hg9.symm
        subst hg9
        have hz9 := h_42.1
        refine g_aload_n C dX1_succeeds_118 rfl hl 0 rfl ?_
        refine g_get C G (pos := co) fX1_succeeds_13 (by omega) hco rfl dX1_succeeds_119 ?_
        refine g_icmp_lt (tgt := 129) C (by omega) (by omega) dX1_succeeds_122 (by decide) (fun c_43 => ?_) (fun c_43 => ?_)
        · refine g_iconst (a := 0) C dX1_succeeds_129 rfl ?_
          refine g_zret C G hr hlk (by decide) (Nat.le_of_ble_eq_true rfl) (Nat.le_of_ble_eq_true rfl) dX1_succeeds_130 ?_
          rw [e_36]
          exact ⟨Or.inr ⟨show ¬ (c3 = 0 ∧ 10 * c4 + c5 = 0 ∧ c2 ≤ fitN nl v) by omega, rfl, hpl⟩, hbn, fun q q0 q1 => rfl⟩
        · refine g_iconst (a := 1) C dX1_succeeds_125 rfl ?_
          refine g_goto (tgt := 130) C dX1_succeeds_126 (by decide) ?_
          refine g_zret C G hr hlk (by decide) (Nat.le_of_ble_eq_true rfl) (Nat.le_of_ble_eq_true rfl) dX1_succeeds_130 ?_
          rw [e_36]
          exact ⟨Or.inl ⟨⟨by omega, by omega, by omega⟩, rfl, hpl⟩, hbn, fun q q0 q1 => rfl⟩
  by_cases e_44 : kd = 9
  · refine g_tswIn (v := 9) (off := 127) (tgt := 131) C dX1_succeeds_4 e_44 (by decide) (by decide) (by decide) (by decide) (by decide) ?_
    refine g_aload_n C dX1_succeeds_131 rfl hl 0 rfl ?_
    refine g_aload_n C dX1_succeeds_132 rfl hl 1 rfl ?_
    refine g_ci C G (g_runV (As := [.ref (ad po)]) (rest := []) (pos := co) C G (c_X1_hasLobes l κ B n ad g co kd c2 c3 c4 c5 po nl v (by omega) hco hdg (by omega) hpl hok (by omega)) (cwV 1 C.1.2.2.2.2 gX1_succeeds_X1_hasLobes rfl rfl rfl (by decide +kernel) ⟨Nat.le_of_ble_eq_true rfl, Nat.le_of_ble_eq_true rfl⟩) (by omega) hco (T := TX1) (N := 5) rfl rfl hl rfl (Nat.le_of_ble_eq_true rfl) dX1_succeeds_133 ⟨Nat.le_of_ble_eq_true rfl, Nat.le_of_ble_eq_true rfl⟩) (fun z_46 g9 H locs hw G => ?_)
    obtain ⟨hg9, hw⟩ := hw
    replace hg9 := hg9.symm
    subst hg9
    rcases hw with ⟨b_45, rfl⟩ | ⟨b_45, rfl⟩
    · refine g_zret C G hr hlk (by decide) (Nat.le_of_ble_eq_true rfl) (Nat.le_of_ble_eq_true rfl) dX1_succeeds_136 ?_
      rw [e_44]
      exact ⟨Or.inl ⟨b_45, rfl, hpl⟩, hbn, fun q q0 q1 => rfl⟩
    · refine g_zret C G hr hlk (by decide) (Nat.le_of_ble_eq_true rfl) (Nat.le_of_ble_eq_true rfl) dX1_succeeds_136 ?_
      rw [e_44]
      exact ⟨Or.inr ⟨b_45, rfl, hpl⟩, hbn, fun q q0 q1 => rfl⟩
  refine g_tswOut (tgt := 137) C (by omega) dX1_succeeds_4 (by omega) (by decide) ?_
  refine g_iconst (a := 0) C dX1_succeeds_137 rfl ?_
  refine g_zret C G hr hlk (by decide) (Nat.le_of_ble_eq_true rfl) (Nat.le_of_ble_eq_true rfl) dX1_succeeds_138 ?_
  have hk0 : kd = 0 := by omega
  rw [hk0]
  exact ⟨Or.inr ⟨id, rfl, hpl⟩, hbn, fun q q0 q1 => rfl⟩
theorem fwX1_init_7 : gFldW wsX1_init RX1 7 1 0 .int true := ⟨RX1, TX1, 5, tyX1, rfl, by decide, by decide +kernel, by decide +kernel, tyX1_ok, nmX1, rfl, by decide +kernel, by decide +kernel⟩
theorem fwX1_init_13 : gFldW wsX1_init RX1 13 1 1 .int true := ⟨RX1, TX1, 5, tyX1, rfl, by decide, by decide +kernel, by decide +kernel, tyX1_ok, nmX1, rfl, by decide +kernel, by decide +kernel⟩
theorem fwX1_init_16 : gFldW wsX1_init RX1 16 1 2 .int true := ⟨RX1, TX1, 5, tyX1, rfl, by decide, by decide +kernel, by decide +kernel, tyX1_ok, nmX1, rfl, by decide +kernel, by decide +kernel⟩
theorem fwX1_init_19 : gFldW wsX1_init RX1 19 1 3 .int true := ⟨RX1, TX1, 5, tyX1, rfl, by decide, by decide +kernel, by decide +kernel, tyX1_ok, nmX1, rfl, by decide +kernel, by decide +kernel⟩
theorem fwX1_init_22 : gFldW wsX1_init RX1 22 1 4 .int true := ⟨RX1, TX1, 5, tyX1, rfl, by decide, by decide +kernel, by decide +kernel, tyX1_ok, nmX1, rfl, by decide +kernel, by decide +kernel⟩
set_option maxHeartbeats 4000000 in
set_option maxRecDepth 100000 in
theorem c_X1_init (l : Launch) (κ : gKap) (B n : Nat) (ad : Nat → Nat) (g : Nat → va_E) (co : Nat) (grp : Int) (hcn : co < n) (hco : g co = .inr (1, [.int (iz 0), .int (iz 0), .int (iz 0), .int (iz 0), .int (iz 0)])) (hgr : 0 ≤ grp ∧ grp < 100000) : Met l yX1_init wsX1_init ({ frames := 1, cells := 0, slots := 0, locals := 12 }) (gPre κ B n ad g [.ref (ad co), .int (iz grp)]) (gQv κ B n ad (fun g' => g' = va_up g co (.inr (1, [.int (iz (grp / 10000 % 10)), .int (iz (grp / 1000 % 10)), .int (iz (grp / 100 % 10)), .int (iz (grp / 10 % 10)), .int (iz (grp % 10))])))) 0 0 (gFree B) := by
  refine g_met RX1 (cc := cX1_init) (maxL := 2) (ret := none) (by decide) rfl rfl (Nat.le_of_ble_eq_true rfl) ?_
  intro p e s m args below meth c C hr hlk hnm G ls hl
  have hl : lv_has ls 2 [(0, .ref (ad co)), (1, .int (iz grp))] := hl
  refine g_aload_n C dX1_init_0 rfl hl 0 rfl ?_
  refine W.objInit C.1.1 C.1.2.1 C.1.2.2.2.1 (C.1.2.2.2.2 _ (by decide +kernel : Cond.methodLink RX1 1 objectInit ∈ wsX1_init)) (C.1.2.2.2.2 _ (by decide +kernel : Cond.instanceMethod objectInit ∈ wsX1_init)) (C.1.2.2.2.2 _ (by decide +kernel : Cond.code objectInit ⟨#[0xb1]⟩ 1 none ∈ wsX1_init)) rfl (by rw [C.1.2.2.1]; exact hl.1) rfl dX1_init_1 (Nat.le_of_ble_eq_true rfl) (Nat.le_of_ble_eq_true rfl) ?_
  refine W.eq (g2 := F0 m 4 ls []) rfl ?_
  refine g_aload_n C dX1_init_4 rfl hl 0 rfl ?_
  refine g_iload_n C dX1_init_5 rfl hl 1 rfl ?_
  refine g_sipush (a := 10000) C dX1_init_6 (by decide) ?_
  refine g_idiv C (by omega) (by decide) (by decide) dX1_init_9 ?_
  rw [show (Int.tdiv grp 10000 : Int) = grp / 10000 from (tdiv_pos (by omega))]
  refine g_bipush (a := 10) C dX1_init_10 (by decide) ?_
  refine g_irem C (by omega) (by decide) (by decide) dX1_init_12 ?_
  rw [show (Int.tmod (grp / 10000) 10 : Int) = (grp / 10000) % 10 from (tmod_pos (by omega))]
  refine g_putF C G hnm (pos := co) (fs' := [.int (iz ((grp / 10000) % 10)), .int (iz 0), .int (iz 0), .int (iz 0), .int (iz 0)]) fwX1_init_7 (by omega) hco (Nat.le_of_ble_eq_true rfl) rfl rfl rfl dX1_init_13 (fun H locs G => ?_)
  obtain ⟨g_1, hg_2⟩ : ∃ g9, g9 = va_up g co (.inr (1, [.int (iz ((grp / 10000) % 10)), .int (iz 0), .int (iz 0), .int (iz 0), .int (iz 0)])) := ⟨_, rfl⟩
  rw [← hg_2] at G
  have hc_3 : g_1 co = .inr (1, [.int (iz ((grp / 10000) % 10)), .int (iz 0), .int (iz 0), .int (iz 0), .int (iz 0)]) := by rw [hg_2]; exact gu_self _ _ _
  refine g_aload_n C dX1_init_16 rfl hl 0 rfl ?_
  refine g_iload_n C dX1_init_17 rfl hl 1 rfl ?_
  refine g_sipush (a := 1000) C dX1_init_18 (by decide) ?_
  refine g_idiv C (by omega) (by decide) (by decide) dX1_init_21 ?_
  rw [show (Int.tdiv grp 1000 : Int) = grp / 1000 from (tdiv_pos (by omega))]
  refine g_bipush (a := 10) C dX1_init_22 (by decide) ?_
  refine g_irem C (by omega) (by decide) (by decide) dX1_init_24 ?_
  rw [show (Int.tmod (grp / 1000) 10 : Int) = (grp / 1000) % 10 from (tmod_pos (by omega))]
  refine g_putF C G hnm (pos := co) (fs' := [.int (iz ((grp / 10000) % 10)), .int (iz ((grp / 1000) % 10)), .int (iz 0), .int (iz 0), .int (iz 0)]) fwX1_init_13 (by omega) hc_3 (Nat.le_of_ble_eq_true rfl) rfl rfl rfl dX1_init_25 (fun H locs G => ?_)
  obtain ⟨g_4, hg_5⟩ : ∃ g9, g9 = va_up g_1 co (.inr (1, [.int (iz ((grp / 10000) % 10)), .int (iz ((grp / 1000) % 10)), .int (iz 0), .int (iz 0), .int (iz 0)])) := ⟨_, rfl⟩
  rw [← hg_5] at G
  have hc_6 : g_4 co = .inr (1, [.int (iz ((grp / 10000) % 10)), .int (iz ((grp / 1000) % 10)), .int (iz 0), .int (iz 0), .int (iz 0)]) := by rw [hg_5]; exact gu_self _ _ _
  refine g_aload_n C dX1_init_28 rfl hl 0 rfl ?_
  refine g_iload_n C dX1_init_29 rfl hl 1 rfl ?_
  refine g_bipush (a := 100) C dX1_init_30 (by decide) ?_
  refine g_idiv C (by omega) (by decide) (by decide) dX1_init_32 ?_
  rw [show (Int.tdiv grp 100 : Int) = grp / 100 from (tdiv_pos (by omega))]
  refine g_bipush (a := 10) C dX1_init_33 (by decide) ?_
  refine g_irem C (by omega) (by decide) (by decide) dX1_init_35 ?_
  rw [show (Int.tmod (grp / 100) 10 : Int) = (grp / 100) % 10 from (tmod_pos (by omega))]
  refine g_putF C G hnm (pos := co) (fs' := [.int (iz ((grp / 10000) % 10)), .int (iz ((grp / 1000) % 10)), .int (iz ((grp / 100) % 10)), .int (iz 0), .int (iz 0)]) fwX1_init_16 (by omega) hc_6 (Nat.le_of_ble_eq_true rfl) rfl rfl rfl dX1_init_36 (fun H locs G => ?_)
  obtain ⟨g_7, hg_8⟩ : ∃ g9, g9 = va_up g_4 co (.inr (1, [.int (iz ((grp / 10000) % 10)), .int (iz ((grp / 1000) % 10)), .int (iz ((grp / 100) % 10)), .int (iz 0), .int (iz 0)])) := ⟨_, rfl⟩
  rw [← hg_8] at G
  have hc_9 : g_7 co = .inr (1, [.int (iz ((grp / 10000) % 10)), .int (iz ((grp / 1000) % 10)), .int (iz ((grp / 100) % 10)), .int (iz 0), .int (iz 0)]) := by rw [hg_8]; exact gu_self _ _ _
  refine g_aload_n C dX1_init_39 rfl hl 0 rfl ?_
  refine g_iload_n C dX1_init_40 rfl hl 1 rfl ?_
  refine g_bipush (a := 10) C dX1_init_41 (by decide) ?_
  refine g_idiv C (by omega) (by decide) (by decide) dX1_init_43 ?_
  rw [show (Int.tdiv grp 10 : Int) = grp / 10 from (tdiv_pos (by omega))]
  refine g_bipush (a := 10) C dX1_init_44 (by decide) ?_
  refine g_irem C (by omega) (by decide) (by decide) dX1_init_46 ?_
  rw [show (Int.tmod (grp / 10) 10 : Int) = (grp / 10) % 10 from (tmod_pos (by omega))]
  refine g_putF C G hnm (pos := co) (fs' := [.int (iz ((grp / 10000) % 10)), .int (iz ((grp / 1000) % 10)), .int (iz ((grp / 100) % 10)), .int (iz ((grp / 10) % 10)), .int (iz 0)]) fwX1_init_19 (by omega) hc_9 (Nat.le_of_ble_eq_true rfl) rfl rfl rfl dX1_init_47 (fun H locs G => ?_)
  obtain ⟨g_10, hg_11⟩ : ∃ g9, g9 = va_up g_7 co (.inr (1, [.int (iz ((grp / 10000) % 10)), .int (iz ((grp / 1000) % 10)), .int (iz ((grp / 100) % 10)), .int (iz ((grp / 10) % 10)), .int (iz 0)])) := ⟨_, rfl⟩
  rw [← hg_11] at G
  have hc_12 : g_10 co = .inr (1, [.int (iz ((grp / 10000) % 10)), .int (iz ((grp / 1000) % 10)), .int (iz ((grp / 100) % 10)), .int (iz ((grp / 10) % 10)), .int (iz 0)]) := by rw [hg_11]; exact gu_self _ _ _
  refine g_aload_n C dX1_init_50 rfl hl 0 rfl ?_
  refine g_iload_n C dX1_init_51 rfl hl 1 rfl ?_
  refine g_bipush (a := 10) C dX1_init_52 (by decide) ?_
  refine g_irem C (by omega) (by decide) (by decide) dX1_init_54 ?_
  rw [show (Int.tmod grp 10 : Int) = grp % 10 from (tmod_pos (by omega))]
  refine g_putF C G hnm (pos := co) (fs' := [.int (iz ((grp / 10000) % 10)), .int (iz ((grp / 1000) % 10)), .int (iz ((grp / 100) % 10)), .int (iz ((grp / 10) % 10)), .int (iz (grp % 10))]) fwX1_init_22 (by omega) hc_12 (Nat.le_of_ble_eq_true rfl) rfl rfl rfl dX1_init_55 (fun H locs G => ?_)
  obtain ⟨g_13, hg_14⟩ : ∃ g9, g9 = va_up g_10 co (.inr (1, [.int (iz ((grp / 10000) % 10)), .int (iz ((grp / 1000) % 10)), .int (iz ((grp / 100) % 10)), .int (iz ((grp / 10) % 10)), .int (iz (grp % 10))])) := ⟨_, rfl⟩
  rw [← hg_14] at G
  have hc_15 : g_13 co = .inr (1, [.int (iz ((grp / 10000) % 10)), .int (iz ((grp / 1000) % 10)), .int (iz ((grp / 100) % 10)), .int (iz ((grp / 10) % 10)), .int (iz (grp % 10))]) := by rw [hg_14]; exact gu_self _ _ _
  refine g_vret C G hr hlk (Nat.le_of_ble_eq_true rfl) (Nat.le_of_ble_eq_true rfl) dX1_init_58 ?_
  rw [hg_14, hg_11, hg_8, hg_5, hg_2, gu_up, gu_up, gu_up, gu_up]
