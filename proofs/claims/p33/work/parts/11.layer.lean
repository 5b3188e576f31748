theorem fwX3_set_9 : gFldW wsX3_set RX3 9 3 0 .int false := ⟨RX3, TX3, 4, tyX3, rfl, by decide, by decide +kernel, by decide +kernel, tyX3_ok, nmX3, rfl, by decide +kernel, by decide +kernel⟩
theorem fwX3_set_15 : gFldW wsX3_set RX3 15 3 1 .int false := ⟨RX3, TX3, 4, tyX3, rfl, by decide, by decide +kernel, by decide +kernel, tyX3_ok, nmX3, rfl, by decide +kernel, by decide +kernel⟩
theorem fwX3_set_18 : gFldW wsX3_set RX3 18 3 2 .int false := ⟨RX3, TX3, 4, tyX3, rfl, by decide, by decide +kernel, by decide +kernel, tyX3_ok, nmX3, rfl, by decide +kernel, by decide +kernel⟩
theorem fwX3_set_21 : gFldW wsX3_set RX3 21 3 3 .int false := ⟨RX3, TX3, 4, tyX3, rfl, by decide, by decide +kernel, by decide +kernel, tyX3_ok, nmX3, rfl, by decide +kernel, by decide +kernel⟩
set_option maxHeartbeats 4000000 in
set_option maxRecDepth 100000 in
theorem c_X3_set (l : Launch) (κ : gKap) (B n : Nat) (ad : Nat → Nat) (g : Nat → va_E) (po : Nat) (w : Int) (sd : Int) (ho : Int) (st0 : Int) (nw : Int) (ns : Int) (nh : Int) (nt : Int) (hp : po < n) (he : g po = oL w sd ho st0) : Met l yX3_set wsX3_set ({ frames := 0, cells := 0, slots := 0, locals := 0 }) (gPre κ B n ad g [.ref (ad po), .int (iz nw), .int (iz ns), .int (iz nh), .int (iz nt)]) (gQv κ B n ad (fun g' => g' = va_up g po (oL nw ns nh nt))) 0 0 (gFree B) := by
  refine g_met RX3 (cc := cX3_set) (maxL := 5) (ret := none) (by decide) rfl rfl (Nat.le_of_ble_eq_true rfl) ?_
  intro p e s m args below meth c C hr hlk hnm G ls hl
  have hl : lv_has ls 5 [(0, .ref (ad po)), (1, .int (iz nw)), (2, .int (iz ns)), (3, .int (iz nh)), (4, .int (iz nt))] := hl
  refine g_aload_n C dX3_set_0 rfl hl 0 rfl ?_
  refine g_iload_n C dX3_set_1 rfl hl 1 rfl ?_
  refine g_put C G (pos := po) (fs' := [.int (iz nw), .int (iz sd), .int (iz ho), .int (iz st0)]) fwX3_set_9 (by omega) he (Nat.le_of_ble_eq_true rfl) rfl rfl rfl dX3_set_2 (fun H locs G => ?_)
  obtain ⟨g_1, hg_2⟩ : ∃ g9, g9 = va_up g po (.inr (3, [.int (iz nw), .int (iz sd), .int (iz ho), .int (iz st0)])) := ⟨_, rfl⟩
  rw [← hg_2] at G
  have hc_3 : g_1 po = .inr (3, [.int (iz nw), .int (iz sd), .int (iz ho), .int (iz st0)]) := by rw [hg_2]; exact gu_self _ _ _
  refine g_aload_n C dX3_set_5 rfl hl 0 rfl ?_
  refine g_iload_n C dX3_set_6 rfl hl 2 rfl ?_
  refine g_put C G (pos := po) (fs' := [.int (iz nw), .int (iz ns), .int (iz ho), .int (iz st0)]) fwX3_set_15 (by omega) hc_3 (Nat.le_of_ble_eq_true rfl) rfl rfl rfl dX3_set_7 (fun H locs G => ?_)
  obtain ⟨g_4, hg_5⟩ : ∃ g9, g9 = va_up g_1 po (.inr (3, [.int (iz nw), .int (iz ns), .int (iz ho), .int (iz st0)])) := ⟨_, rfl⟩
  rw [← hg_5] at G
  have hc_6 : g_4 po = .inr (3, [.int (iz nw), .int (iz ns), .int (iz ho), .int (iz st0)]) := by rw [hg_5]; exact gu_self _ _ _
  refine g_aload_n C dX3_set_10 rfl hl 0 rfl ?_
  refine g_iload_n C dX3_set_11 rfl hl 3 rfl ?_
  refine g_put C G (pos := po) (fs' := [.int (iz nw), .int (iz ns), .int (iz nh), .int (iz st0)]) fwX3_set_18 (by omega) hc_6 (Nat.le_of_ble_eq_true rfl) rfl rfl rfl dX3_set_12 (fun H locs G => ?_)
  obtain ⟨g_7, hg_8⟩ : ∃ g9, g9 = va_up g_4 po (.inr (3, [.int (iz nw), .int (iz ns), .int (iz nh), .int (iz st0)])) := ⟨_, rfl⟩
  rw [← hg_8] at G
  have hc_9 : g_7 po = .inr (3, [.int (iz nw), .int (iz ns), .int (iz nh), .int (iz st0)]) := by rw [hg_8]; exact gu_self _ _ _
  refine g_aload_n C dX3_set_15 rfl hl 0 rfl ?_
  refine g_iload C dX3_set_16 hl 4 rfl ?_
  refine g_put C G (pos := po) (fs' := [.int (iz nw), .int (iz ns), .int (iz nh), .int (iz nt)]) fwX3_set_21 (by omega) hc_9 (Nat.le_of_ble_eq_true rfl) rfl rfl rfl dX3_set_18 (fun H locs G => ?_)
  obtain ⟨g_10, hg_11⟩ : ∃ g9, g9 = va_up g_7 po (.inr (3, [.int (iz nw), .int (iz ns), .int (iz nh), .int (iz nt)])) := ⟨_, rfl⟩
  rw [← hg_11] at G
  have hc_12 : g_10 po = .inr (3, [.int (iz nw), .int (iz ns), .int (iz nh), .int (iz nt)]) := by rw [hg_11]; exact gu_self _ _ _
  refine g_vret C G hr hlk (Nat.le_of_ble_eq_true rfl) (Nat.le_of_ble_eq_true rfl) dX3_set_21 ?_
  rw [hg_11, hg_8, hg_5, hg_2, gu_up, gu_up, gu_up]
theorem fwX3_init_9 : gFldW wsX3_init RX3 9 3 0 .int false := ⟨RX3, TX3, 4, tyX3, rfl, by decide, by decide +kernel, by decide +kernel, tyX3_ok, nmX3, rfl, by decide +kernel, by decide +kernel⟩
set_option maxHeartbeats 4000000 in
set_option maxRecDepth 100000 in
theorem c_X3_init (l : Launch) (κ : gKap) (B n : Nat) (ad : Nat → Nat) (g : Nat → va_E) (po : Nat) (w : Int) (sd : Int) (ho : Int) (st0 : Int) (hp : po < n) (he : g po = oL w sd ho st0) : Met l yX3_init wsX3_init ({ frames := 1, cells := 0, slots := 0, locals := 12 }) (gPre κ B n ad g [.ref (ad po)]) (gQv κ B n ad (fun g' => g' = va_up g po (oL 5 sd ho st0))) 0 0 (gFree B) := by
  refine g_met RX3 (cc := cX3_init) (maxL := 1) (ret := none) (by decide) rfl rfl (Nat.le_of_ble_eq_true rfl) ?_
  intro p e s m args below meth c C hr hlk hnm G ls hl
  have hl : lv_has ls 1 [(0, .ref (ad po))] := hl
  refine g_aload_n C dX3_init_0 rfl hl 0 rfl ?_
  refine W.objInit C.1.1 C.1.2.1 C.1.2.2.2.1 (C.1.2.2.2.2 _ (by decide +kernel : Cond.methodLink RX3 3 objectInit ∈ wsX3_init)) (C.1.2.2.2.2 _ (by decide +kernel : Cond.instanceMethod objectInit ∈ wsX3_init)) (C.1.2.2.2.2 _ (by decide +kernel : Cond.code objectInit ⟨#[0xb1]⟩ 1 none ∈ wsX3_init)) rfl (by rw [C.1.2.2.1]; exact hl.1) rfl dX3_init_1 (Nat.le_of_ble_eq_true rfl) (Nat.le_of_ble_eq_true rfl) ?_
  refine W.eq (g2 := F0 m 4 ls []) rfl ?_
  refine g_aload_n C dX3_init_4 rfl hl 0 rfl ?_
  refine g_iconst (a := 5) C dX3_init_5 rfl ?_
  refine g_put C G (pos := po) (fs' := [.int (iz 5), .int (iz sd), .int (iz ho), .int (iz st0)]) fwX3_init_9 (by omega) he (Nat.le_of_ble_eq_true rfl) rfl rfl rfl dX3_init_6 (fun H locs G => ?_)
  obtain ⟨g_1, hg_2⟩ : ∃ g9, g9 = va_up g po (.inr (3, [.int (iz 5), .int (iz sd), .int (iz ho), .int (iz st0)])) := ⟨_, rfl⟩
  rw [← hg_2] at G
  have hc_3 : g_1 po = .inr (3, [.int (iz 5), .int (iz sd), .int (iz ho), .int (iz st0)]) := by rw [hg_2]; exact gu_self _ _ _
  refine g_vret C G hr hlk (Nat.le_of_ble_eq_true rfl) (Nat.le_of_ble_eq_true rfl) dX3_init_9 ?_
  rw [hg_2]
theorem fX3_become_9 : gFld wsX3_become RX3 9 3 0 := ⟨RX3, TX3, 4, rfl, by decide, by decide +kernel, by decide +kernel⟩
theorem fX3_become_15 : gFld wsX3_become RX3 15 3 1 := ⟨RX3, TX3, 4, rfl, by decide, by decide +kernel, by decide +kernel⟩
theorem fX3_become_18 : gFld wsX3_become RX3 18 3 2 := ⟨RX3, TX3, 4, rfl, by decide, by decide +kernel, by decide +kernel⟩
theorem fX3_become_21 : gFld wsX3_become RX3 21 3 3 := ⟨RX3, TX3, 4, rfl, by decide, by decide +kernel, by decide +kernel⟩
set_option maxHeartbeats 4000000 in
set_option maxRecDepth 100000 in
theorem c_X3_become (l : Launch) (κ : gKap) (B n : Nat) (ad : Nat → Nat) (g : Nat → va_E) (po : Nat) (w : Int) (sd : Int) (ho : Int) (st0 : Int) (pp : Nat) (nw : Int) (ns : Int) (nh : Int) (nt : Int) (hp : po < n) (he : g po = oL w sd ho st0) (hp2 : pp < n) (he2 : g pp = oL nw ns nh nt) (hne : po ≠ pp) : Met l yX3_become wsX3_become ({ frames := 1, cells := 0, slots := 0, locals := 24 }) (gPre κ B n ad g [.ref (ad po), .ref (ad pp)]) (gQv κ B n ad (fun g' => g' = va_up g po (oL nw ns nh nt))) 0 0 (gFree B) := by
  refine g_met RX3 (cc := cX3_become) (maxL := 2) (ret := none) (by decide) rfl rfl (Nat.le_of_ble_eq_true rfl) ?_
  intro p e s m args below meth c C hr hlk hnm G ls hl
  have hl : lv_has ls 2 [(0, .ref (ad po)), (1, .ref (ad pp))] := hl
  refine g_aload_n C dX3_become_0 rfl hl 0 rfl ?_
  refine g_aload_n C dX3_become_1 rfl hl 1 rfl ?_
  refine g_get C G (pos := pp) fX3_become_9 (by omega) he2 rfl dX3_become_2 ?_
  refine g_aload_n C dX3_become_5 rfl hl 1 rfl ?_
  refine g_get C G (pos := pp) fX3_become_15 (by omega) he2 rfl dX3_become_6 ?_
  refine g_aload_n C dX3_become_9 rfl hl 1 rfl ?_
  refine g_get C G (pos := pp) fX3_become_18 (by omega) he2 rfl dX3_become_10 ?_
  refine g_aload_n C dX3_become_13 rfl hl 1 rfl ?_
  refine g_get C G (pos := pp) fX3_become_21 (by omega) he2 rfl dX3_become_14 ?_
  refine g_cv C G (g_runV (As := [.int (iz nw), .int (iz ns), .int (iz nh), .int (iz nt)]) (rest := []) (pos := po) C G (c_X3_set l κ B n ad g po w sd ho st0 nw ns nh nt (by omega) he) (cwV 4 C.1.2.2.2.2 gX3_become_X3_set rfl rfl rfl (by decide +kernel) ⟨Nat.le_of_ble_eq_true rfl, Nat.le_of_ble_eq_true rfl⟩) (by omega) he (T := TX3) (N := 4) rfl rfl hl rfl (Nat.le_of_ble_eq_true rfl) dX3_become_17 ⟨Nat.le_of_ble_eq_true rfl, Nat.le_of_ble_eq_true rfl⟩) (fun g9 H locs hw G => ?_)
  subst hw
  obtain ⟨g_1, hg_2⟩ : ∃ g9, g9 = va_up g po (.inr (3, [.int (iz nw), .int (iz ns), .int (iz nh), .int (iz nt)])) := ⟨_, rfl⟩
  rw [← hg_2] at G
  have hc_3 : g_1 po = .inr (3, [.int (iz nw), .int (iz ns), .int (iz nh), .int (iz nt)]) := by rw [hg_2]; exact gu_self _ _ _
  have hc_4 : g_1 pp = .inr (3, [.int (iz nw), .int (iz ns), .int (iz nh), .int (iz nt)]) := by rw [hg_2, gu_ne (by omega)]; exact he2
  refine g_vret C G hr hlk (Nat.le_of_ble_eq_true rfl) (Nat.le_of_ble_eq_true rfl) dX3_become_20 ?_
  exact hg_2
theorem fX3_exchange_21 : gFld wsX3_exchange RX3 21 3 3 := ⟨RX3, TX3, 4, rfl, by decide, by decide +kernel, by decide +kernel⟩
theorem fX3_exchange_9 : gFld wsX3_exchange RX3 9 3 0 := ⟨RX3, TX3, 4, rfl, by decide, by decide +kernel, by decide +kernel⟩
theorem fwX3_exchange_9 : gFldW wsX3_exchange RX3 9 3 0 .int false := ⟨RX3, TX3, 4, tyX3, rfl, by decide, by decide +kernel, by decide +kernel, tyX3_ok, nmX3, rfl, by decide +kernel, by decide +kernel⟩
theorem fX3_exchange_15 : gFld wsX3_exchange RX3 15 3 1 := ⟨RX3, TX3, 4, rfl, by decide, by decide +kernel, by decide +kernel⟩
theorem fwX3_exchange_15 : gFldW wsX3_exchange RX3 15 3 1 .int false := ⟨RX3, TX3, 4, tyX3, rfl, by decide, by decide +kernel, by decide +kernel, tyX3_ok, nmX3, rfl, by decide +kernel, by decide +kernel⟩
theorem fX3_exchange_18 : gFld wsX3_exchange RX3 18 3 2 := ⟨RX3, TX3, 4, rfl, by decide, by decide +kernel, by decide +kernel⟩
theorem fwX3_exchange_18 : gFldW wsX3_exchange RX3 18 3 2 .int false := ⟨RX3, TX3, 4, tyX3, rfl, by decide, by decide +kernel, by decide +kernel, tyX3_ok, nmX3, rfl, by decide +kernel, by decide +kernel⟩
theorem fwX3_exchange_21 : gFldW wsX3_exchange RX3 21 3 3 .int false := ⟨RX3, TX3, 4, tyX3, rfl, by decide, by decide +kernel, by decide +kernel, tyX3_ok, nmX3, rfl, by decide +kernel, by decide +kernel⟩
set_option maxHeartbeats 4000000 in
set_option maxRecDepth 100000 in
theorem c_X3_exchange (l : Launch) (κ : gKap) (B n : Nat) (ad : Nat → Nat) (g : Nat → va_E) (po : Nat) (w : Int) (sd : Int) (ho : Int) (st0 : Int) (what : Int) (v : Int) (hp : po < n) (he : g po = oL w sd ho st0) (hwh : 0 ≤ what ∧ what ≤ 3) : Met l yX3_exchange wsX3_exchange ({ frames := 0, cells := 0, slots := 0, locals := 0 }) (gPre κ B n ad g [.ref (ad po), .int (iz what), .int (iz v)]) (gQi κ B n ad (fun z g' => g' = va_up g po (oL (if what = 0 then v else w) (if what = 1 then v else sd) (if what = 2 then v else ho) (if what = 3 then v else st0)) ∧ z = (if what = 0 then w else if what = 1 then sd else if what = 2 then ho else st0))) 0 0 (gFree B) := by
  refine g_met RX3 (cc := cX3_exchange) (maxL := 4) (ret := (some .int)) (by decide) rfl rfl (Nat.le_of_ble_eq_true rfl) ?_
  intro p e s m args below meth c C hr hlk hnm G ls hl
  have hl : lv_has ls 4 [(0, .ref (ad po)), (1, .int (iz what)), (2, .int (iz v))] := hl
  refine g_aload_n C dX3_exchange_0 rfl hl 0 rfl ?_
  refine g_get C G (pos := po) fX3_exchange_21 (by omega) he rfl dX3_exchange_1 ?_
  refine lv_istore_n (lv' := [(3, .int (iz st0)), (0, .ref (ad po)), (1, .int (iz what)), (2, .int (iz v))]) C.1.1 C.1.2.1 dX3_exchange_4 rfl hl (by decide) rfl (fun ls hl => ?_)
  refine g_iload_n C dX3_exchange_5 rfl hl 2 rfl ?_
  by_cases e_1 : what = 0
  · refine g_tswIn (v := 0) (off := 26) (tgt := 32) C dX3_exchange_6 e_1 (by decide) (by decide) (by decide) (by decide) (by decide) ?_
    refine g_aload_n C dX3_exchange_32 rfl hl 1 rfl ?_
    refine g_get C G (pos := po) fX3_exchange_9 (by omega) he rfl dX3_exchange_33 ?_
    refine lv_istore_n (lv' := [(3, .int (iz w)), (0, .ref (ad po)), (1, .int (iz what)), (2, .int (iz v))]) C.1.1 C.1.2.1 dX3_exchange_36 rfl hl (by decide) rfl (fun ls hl => ?_)
    refine g_aload_n C dX3_exchange_37 rfl hl 1 rfl ?_
    refine g_iload_n C dX3_exchange_38 rfl hl 3 rfl ?_
    refine g_put C G (pos := po) (fs' := [.int (iz v), .int (iz sd), .int (iz ho), .int (iz st0)]) fwX3_exchange_9 (by omega) he (Nat.le_of_ble_eq_true rfl) rfl rfl rfl dX3_exchange_39 (fun H locs G => ?_)
    obtain ⟨g_2, hg_3⟩ : ∃ g9, g9 = va_up g po (.inr (3, [.int (iz v), .int (iz sd), .int (iz ho), .int (iz st0)])) := ⟨_, rfl⟩
    rw [← hg_3] at G
    have hc_4 : g_2 po = .inr (3, [.int (iz v), .int (iz sd), .int (iz ho), .int (iz st0)]) := by rw [hg_3]; exact gu_self _ _ _
    refine g_goto (tgt := 76) C dX3_exchange_42 (by decide) ?_
    refine g_iload_n C dX3_exchange_76 rfl hl 0 rfl ?_
    refine g_iret C G hr hlk (Nat.le_of_ble_eq_true rfl) (Nat.le_of_ble_eq_true rfl) dX3_exchange_77 ?_
    subst e_1
    exact ⟨by rw [hg_3]; simp, by simp⟩
  by_cases e_5 : what = 1
  · refine g_tswIn (v := 1) (off := 39) (tgt := 45) C dX3_exchange_6 e_5 (by decide) (by decide) (by decide) (by decide) (by decide) ?_
    refine g_aload_n C dX3_exchange_45 rfl hl 1 rfl ?_
    refine g_get C G (pos := po) fX3_exchange_15 (by omega) he rfl dX3_exchange_46 ?_
    refine lv_istore_n (lv' := [(3, .int (iz sd)), (0, .ref (ad po)), (1, .int (iz what)), (2, .int (iz v))]) C.1.1 C.1.2.1 dX3_exchange_49 rfl hl (by decide) rfl (fun ls hl => ?_)
    refine g_aload_n C dX3_exchange_50 rfl hl 1 rfl ?_
    refine g_iload_n C dX3_exchange_51 rfl hl 3 rfl ?_
    refine g_put C G (pos := po) (fs' := [.int (iz w), .int (iz v), .int (iz ho), .int (iz st0)]) fwX3_exchange_15 (by omega) he (Nat.le_of_ble_eq_true rfl) rfl rfl rfl dX3_exchange_52 (fun H locs G => ?_)
    obtain ⟨g_6, hg_7⟩ : ∃ g9, g9 = va_up g po (.inr (3, [.int (iz w), .int (iz v), .int (iz ho), .int (iz st0)])) := ⟨_, rfl⟩
    rw [← hg_7] at G
    have hc_8 : g_6 po = .inr (3, [.int (iz w), .int (iz v), .int (iz ho), .int (iz st0)]) := by rw [hg_7]; exact gu_self _ _ _
    refine g_goto (tgt := 76) C dX3_exchange_55 (by decide) ?_
    refine g_iload_n C dX3_exchange_76 rfl hl 0 rfl ?_
    refine g_iret C G hr hlk (Nat.le_of_ble_eq_true rfl) (Nat.le_of_ble_eq_true rfl) dX3_exchange_77 ?_
    subst e_5
    exact ⟨by rw [hg_7]; simp, by simp⟩
  by_cases e_9 : what = 2
  · refine g_tswIn (v := 2) (off := 52) (tgt := 58) C dX3_exchange_6 e_9 (by decide) (by decide) (by decide) (by decide) (by decide) ?_
    refine g_aload_n C dX3_exchange_58 rfl hl 1 rfl ?_
    refine g_get C G (pos := po) fX3_exchange_18 (by omega) he rfl dX3_exchange_59 ?_
    refine lv_istore_n (lv' := [(3, .int (iz ho)), (0, .ref (ad po)), (1, .int (iz what)), (2, .int (iz v))]) C.1.1 C.1.2.1 dX3_exchange_62 rfl hl (by decide) rfl (fun ls hl => ?_)
    refine g_aload_n C dX3_exchange_63 rfl hl 1 rfl ?_
    refine g_iload_n C dX3_exchange_64 rfl hl 3 rfl ?_
    refine g_put C G (pos := po) (fs' := [.int (iz w), .int (iz sd), .int (iz v), .int (iz st0)]) fwX3_exchange_18 (by omega) he (Nat.le_of_ble_eq_true rfl) rfl rfl rfl dX3_exchange_65 (fun H locs G => ?_)
    obtain ⟨g_10, hg_11⟩ : ∃ g9, g9 = va_up g po (.inr (3, [.int (iz w), .int (iz sd), .int (iz v), .int (iz st0)])) := ⟨_, rfl⟩
    rw [← hg_11] at G
    have hc_12 : g_10 po = .inr (3, [.int (iz w), .int (iz sd), .int (iz v), .int (iz st0)]) := by rw [hg_11]; exact gu_self _ _ _
    refine g_goto (tgt := 76) C dX3_exchange_68 (by decide) ?_
    refine g_iload_n C dX3_exchange_76 rfl hl 0 rfl ?_
    refine g_iret C G hr hlk (Nat.le_of_ble_eq_true rfl) (Nat.le_of_ble_eq_true rfl) dX3_exchange_77 ?_
    subst e_9
    exact ⟨by rw [hg_11]; simp, by simp⟩
  refine g_tswOut (tgt := 71) C (by omega) dX3_exchange_6 (by omega) (by decide) ?_
  refine g_aload_n C dX3_exchange_71 rfl hl 1 rfl ?_
  refine g_iload_n C dX3_exchange_72 rfl hl 3 rfl ?_
  refine g_put C G (pos := po) (fs' := [.int (iz w), .int (iz sd), .int (iz ho), .int (iz v)]) fwX3_exchange_21 (by omega) he (Nat.le_of_ble_eq_true rfl) rfl rfl rfl dX3_exchange_73 (fun H locs G => ?_)
  obtain ⟨g_13, hg_14⟩ : ∃ g9, g9 = va_up g po (.inr (3, [.int (iz w), .int (iz sd), .int (iz ho), .int (iz v)])) := ⟨_, rfl⟩
  rw [← hg_14] at G
  have hc_15 : g_13 po = .inr (3, [.int (iz w), .int (iz sd), .int (iz ho), .int (iz v)]) := by rw [hg_14]; exact gu_self _ _ _
  refine g_iload_n C dX3_exchange_76 rfl hl 0 rfl ?_
  refine g_iret C G hr hlk (Nat.le_of_ble_eq_true rfl) (Nat.le_of_ble_eq_true rfl) dX3_exchange_77 ?_
  obtain rfl : what = 3 := by omega
  exact ⟨by rw [hg_14]; simp, by simp⟩
theorem fX3_angleAt_21 : gFld wsX3_angleAt RX3 21 3 3 := ⟨RX3, TX3, 4, rfl, by decide, by decide +kernel, by decide +kernel⟩
set_option maxHeartbeats 4000000 in
set_option maxRecDepth 100000 in
theorem c_X3_angleAt (l : Launch) (κ : gKap) (B n : Nat) (ad : Nat → Nat) (g : Nat → va_E) (po : Nat) (w : Int) (sd : Int) (ho : Int) (st0 : Int) (ring : Int) (t : Int) (hp : po < n) (he : g po = oL w sd ho st0) (hrg : 12 ≤ ring ∧ ring ≤ 96) (ht : inJ t) (ht0 : 0 ≤ t) (hst : 0 ≤ st0 ∧ st0 ≤ 96) : Met l yX3_angleAt wsX3_angleAt ({ frames := 1, cells := 0, slots := 0, locals := 22 }) (gPre κ B n ad g [.ref (ad po), .int (iz ring), .long (jz t)]) (gQi κ B n ad (fun z g' => g' = g ∧ (0 ≤ z ∧ z < ring ∧ z = (st0 + t) % ring))) 0 0 (gFree B) := by
  refine g_met RX3 (cc := cX3_angleAt) (maxL := 4) (ret := (some .int)) (by decide) rfl rfl (Nat.le_of_ble_eq_true rfl) ?_
  intro p e s m args below meth c C hr hlk hnm G ls hl
  have hl : lv_has ls 4 [(0, .ref (ad po)), (1, .int (iz ring)), (2, .long (jz t))] := hl
  refine g_aload_n C dX3_angleAt_0 rfl hl 0 rfl ?_
  refine g_get C G (pos := po) fX3_angleAt_21 (by omega) he rfl dX3_angleAt_1 ?_
  refine g_lload_n C dX3_angleAt_4 rfl hl 2 rfl ?_
  refine g_iload_n C dX3_angleAt_5 rfl hl 1 rfl ?_
  refine g_ci C G (g_runN (As := [.long (jz t), .int (iz ring)]) (rest := [.int (iz st0)]) C G (c_X7_remainder l κ B n ad g t ring (by omega) (by omega) (by omega) (by omega)) (g_cwN (index := 28) 2 C gX3_angleAt_X7_remainder_n28 rfl rfl rfl (by decide +kernel) (by decide +kernel) (by decide +kernel) (by decide +kernel) ⟨Nat.le_of_ble_eq_true rfl, Nat.le_of_ble_eq_true rfl⟩) rfl hl rfl (Nat.le_of_ble_eq_true rfl) dX3_angleAt_6 ⟨Nat.le_of_ble_eq_true rfl, Nat.le_of_ble_eq_true rfl⟩) (fun z_1 g9 H locs hw G => ?_)
  obtain ⟨hg9, h_2⟩ := hw
  replace hg9 := hg9.symm
  subst hg9
  refine g_iadd C dX3_angleAt_9 ?_
  refine g_i2l C (by omega) dX3_angleAt_10 ?_
  refine g_iload_n C dX3_angleAt_11 rfl hl 1 rfl ?_
  refine g_ci C G (g_runN (As := [.long (jz (st0 + z_1)), .int (iz ring)]) (rest := []) C G (c_X7_remainder l κ B n ad g (st0 + z_1) ring (by omega) (by omega) (by omega) (by omega)) (g_cwN (index := 28) 2 C gX3_angleAt_X7_remainder_n28 rfl rfl rfl (by decide +kernel) (by decide +kernel) (by decide +kernel) (by decide +kernel) ⟨Nat.le_of_ble_eq_true rfl, Nat.le_of_ble_eq_true rfl⟩) rfl hl rfl (Nat.le_of_ble_eq_true rfl) dX3_angleAt_12 ⟨Nat.le_of_ble_eq_true rfl, Nat.le_of_ble_eq_true rfl⟩) (fun z_3 g9 H locs hw G => ?_)
  obtain ⟨hg9, h_4⟩ := hw
  replace hg9 := hg9.symm
  subst hg9
  refine g_iret C G hr hlk (Nat.le_of_ble_eq_true rfl) (Nat.le_of_ble_eq_true rfl) dX3_angleAt_15 ?_
  exact ⟨rfl, h_4.1, h_4.2.1, by rw [h_4.2.2, h_2.2.2, Int.add_emod_emod]⟩
theorem fX3_radiusAt_9 : gFld wsX3_radiusAt RX3 9 3 0 := ⟨RX3, TX3, 4, rfl, by decide, by decide +kernel, by decide +kernel⟩
theorem fX3_radiusAt_15 : gFld wsX3_radiusAt RX3 15 3 1 := ⟨RX3, TX3, 4, rfl, by decide, by decide +kernel, by decide +kernel⟩
theorem fX3_radiusAt_18 : gFld wsX3_radiusAt RX3 18 3 2 := ⟨RX3, TX3, 4, rfl, by decide, by decide +kernel, by decide +kernel⟩
set_option maxHeartbeats 4000000 in
set_option maxRecDepth 100000 in
theorem c_X3_radiusAt (l : Launch) (κ : gKap) (B n : Nat) (ad : Nat → Nat) (g : Nat → va_E) (po : Nat) (w : Int) (sd : Int) (ho : Int) (st0 : Int) (t : Int) (hp : po < n) (he : g po = oL w sd ho st0) (hok : okL w sd ho) (ht : inJ t) (ht0 : 0 ≤ t) : Met l yX3_radiusAt wsX3_radiusAt ({ frames := 1, cells := 0, slots := 0, locals := 23 }) (gPre κ B n ad g [.ref (ad po), .long (jz t)]) (gQi κ B n ad (fun z g' => g' = g ∧ (120 ≤ z ∧ z ≤ 280 ∧ z = rad w sd ho (t % w)))) 0 0 (gFree B) := by
  refine g_met RX3 (cc := cX3_radiusAt) (maxL := 5) (ret := (some .int)) (by decide) rfl rfl (Nat.le_of_ble_eq_true rfl) ?_
  intro p e s m args below meth c C hr hlk hnm G ls hl
  have hl : lv_has ls 5 [(0, .ref (ad po)), (1, .long (jz t))] := hl
  refine g_lload_n C dX3_radiusAt_0 rfl hl 1 rfl ?_
  refine g_aload_n C dX3_radiusAt_1 rfl hl 0 rfl ?_
  refine g_get C G (pos := po) fX3_radiusAt_9 (by omega) he rfl dX3_radiusAt_2 ?_
  refine g_ci C G (g_runN (As := [.long (jz t), .int (iz w)]) (rest := []) C G (c_X7_remainder l κ B n ad g t w (by omega) (by omega) (by omega) (by omega)) (g_cwN (index := 28) 2 C gX3_radiusAt_X7_remainder_n28 rfl rfl rfl (by decide +kernel) (by decide +kernel) (by decide +kernel) (by decide +kernel) ⟨Nat.le_of_ble_eq_true rfl, Nat.le_of_ble_eq_true rfl⟩) rfl hl rfl (Nat.le_of_ble_eq_true rfl) dX3_radiusAt_5 ⟨Nat.le_of_ble_eq_true rfl, Nat.le_of_ble_eq_true rfl⟩) (fun z_1 g9 H locs hw G => ?_)
  obtain ⟨hg9, h_2⟩ := hw
  replace hg9 := hg9.symm
  subst hg9
  refine lv_istore_n (lv' := [(3, .int (iz z_1)), (0, .ref (ad po)), (1, .long (jz t))]) C.1.1 C.1.2.1 dX3_radiusAt_8 rfl hl (by decide) rfl (fun ls hl => ?_)
  refine g_aload_n C dX3_radiusAt_9 rfl hl 1 rfl ?_
  refine g_get C G (pos := po) fX3_radiusAt_15 (by omega) he rfl dX3_radiusAt_10 ?_
  refine g_if_ne (tgt := 27) C (by omega) dX3_radiusAt_13 (by decide) (fun c_3 => ?_) (fun c_3 => ?_)
  · refine g_sipush (a := 200) C dX3_radiusAt_27 (by decide) ?_
    refine g_aload_n C dX3_radiusAt_30 rfl hl 1 rfl ?_
    refine g_get C G (pos := po) fX3_radiusAt_9 (by omega) he rfl dX3_radiusAt_31 ?_
    refine g_iadd C dX3_radiusAt_34 ?_
    refine lv_istore (lv' := [(4, .int (iz (200 + w))), (3, .int (iz z_1)), (0, .ref (ad po)), (1, .long (jz t))]) C.1.1 C.1.2.1 dX3_radiusAt_35 hl (by decide) rfl (fun ls hl => ?_)
    refine g_iload C dX3_radiusAt_37 hl 0 rfl ?_
    refine g_aload_n C dX3_radiusAt_39 rfl hl 2 rfl ?_
    refine g_get C G (pos := po) fX3_radiusAt_18 (by omega) he rfl dX3_radiusAt_40 ?_
    refine g_iconst (a := 2) C dX3_radiusAt_43 rfl ?_
    refine g_iconst (a := 2) C dX3_radiusAt_44 rfl ?_
    refine g_iload_n C dX3_radiusAt_45 rfl hl 1 rfl ?_
    refine g_imul C dX3_radiusAt_46 ?_
    refine g_aload_n C dX3_radiusAt_47 rfl hl 2 rfl ?_
    refine g_get C G (pos := po) fX3_radiusAt_9 (by omega) he rfl dX3_radiusAt_48 ?_
    refine g_isub C dX3_radiusAt_51 ?_
    refine g_mabs C hl (by decide +kernel : Cond.methodLink RX3 32 Lib.Math.abs.name ∈ wsX3_radiusAt) (by decide +kernel) (by decide +kernel) (by decide +kernel) (Nat.le_of_ble_eq_true rfl) (Nat.le_of_ble_eq_true rfl) (by first | exact Nat.zero_le _ | omega) (by first | exact Nat.zero_le _ | omega) (by omega) dX3_radiusAt_52 (fun z_4 h_5 => ?_)
    refine g_imul C dX3_radiusAt_55 ?_
    refine g_aload_n C dX3_radiusAt_56 rfl hl 2 rfl ?_
    refine g_get C G (pos := po) fX3_radiusAt_9 (by omega) he rfl dX3_radiusAt_57 ?_
    refine g_isub C dX3_radiusAt_60 ?_
    have hmb := mul_b (h := ho) (t := (2 * z_4) - w) (by omega) (by omega) (by omega) (by omega)
    refine g_imul C dX3_radiusAt_61 ?_
    refine g_i2l C (by omega) dX3_radiusAt_62 ?_
    refine g_aload_n C dX3_radiusAt_63 rfl hl 2 rfl ?_
    refine g_get C G (pos := po) fX3_radiusAt_9 (by omega) he rfl dX3_radiusAt_64 ?_
    refine g_i2l C (by omega) dX3_radiusAt_67 ?_
    refine g_cl C G (g_runN (As := [.long (jz (ho * ((2 * z_4) - w))), .long (jz w)]) (rest := [.int (iz (200 + w))]) C G (c_X7_quotient l κ B n ad g (ho * ((2 * z_4) - w)) w (by omega) (by omega) (by omega)) (g_cwN (index := 38) 2 C gX3_radiusAt_X7_quotient_n38 rfl rfl rfl (by decide +kernel) (by decide +kernel) (by decide +kernel) (by decide +kernel) ⟨Nat.le_of_ble_eq_true rfl, Nat.le_of_ble_eq_true rfl⟩) rfl hl rfl (Nat.le_of_ble_eq_true rfl) dX3_radiusAt_68 ⟨Nat.le_of_ble_eq_true rfl, Nat.le_of_ble_eq_true rfl⟩) (fun z_6 g9 H locs hw G => ?_)
    obtain ⟨hg9, h_7⟩ := hw
    replace hg9 := hg9.symm
    subst hg9
    refine g_l2i C dX3_radiusAt_71 ?_
    refine g_iadd C dX3_radiusAt_72 ?_
    refine g_iret C G hr hlk (Nat.le_of_ble_eq_true rfl) (Nat.le_of_ble_eq_true rfl) dX3_radiusAt_73 ?_
    have hr9 : (200 + w) + z_6 = rad w sd ho z_1 := by
      unfold rad
      rw [h_7, show z_4 = (if 0 ≤ 2 * z_1 - w then 2 * z_1 - w else -(2 * z_1 - w)) from by split <;> omega]
      by_cases h0 : sd = 0
      · first | (rw [if_pos h0]; done) | omega
      · first | (rw [if_neg h0]; done) | omega
    have hr8 := rad_range hok h_2.1 h_2.2.1
    rw [← hr9] at hr8
    exact ⟨rfl, hr8.1, hr8.2, by rw [hr9, h_2.2.2]⟩
  · refine g_sipush (a := 200) C dX3_radiusAt_16 (by decide) ?_
    refine g_aload_n C dX3_radiusAt_19 rfl hl 1 rfl ?_
    refine g_get C G (pos := po) fX3_radiusAt_9 (by omega) he rfl dX3_radiusAt_20 ?_
    refine g_isub C dX3_radiusAt_23 ?_
    refine g_goto (tgt := 35) C dX3_radiusAt_24 (by decide) ?_
    refine lv_istore (lv' := [(4, .int (iz (200 - w))), (3, .int (iz z_1)), (0, .ref (ad po)), (1, .long (jz t))]) C.1.1 C.1.2.1 dX3_radiusAt_35 hl (by decide) rfl (fun ls hl => ?_)
    refine g_iload C dX3_radiusAt_37 hl 0 rfl ?_
    refine g_aload_n C dX3_radiusAt_39 rfl hl 2 rfl ?_
    refine g_get C G (pos := po) fX3_radiusAt_18 (by omega) he rfl dX3_radiusAt_40 ?_
    refine g_iconst (a := 2) C dX3_radiusAt_43 rfl ?_
    refine g_iconst (a := 2) C dX3_radiusAt_44 rfl ?_
    refine g_iload_n C dX3_radiusAt_45 rfl hl 1 rfl ?_
    refine g_imul C dX3_radiusAt_46 ?_
    refine g_aload_n C dX3_radiusAt_47 rfl hl 2 rfl ?_
    refine g_get C G (pos := po) fX3_radiusAt_9 (by omega) he rfl dX3_radiusAt_48 ?_
    refine g_isub C dX3_radiusAt_51 ?_
    refine g_mabs C hl (by decide +kernel : Cond.methodLink RX3 32 Lib.Math.abs.name ∈ wsX3_radiusAt) (by decide +kernel) (by decide +kernel) (by decide +kernel) (Nat.le_of_ble_eq_true rfl) (Nat.le_of_ble_eq_true rfl) (by first | exact Nat.zero_le _ | omega) (by first | exact Nat.zero_le _ | omega) (by omega) dX3_radiusAt_52 (fun z_8 h_9 => ?_)
    refine g_imul C dX3_radiusAt_55 ?_
    refine g_aload_n C dX3_radiusAt_56 rfl hl 2 rfl ?_
    refine g_get C G (pos := po) fX3_radiusAt_9 (by omega) he rfl dX3_radiusAt_57 ?_
    refine g_isub C dX3_radiusAt_60 ?_
    have hmb := mul_b (h := ho) (t := (2 * z_8) - w) (by omega) (by omega) (by omega) (by omega)
    refine g_imul C dX3_radiusAt_61 ?_
    refine g_i2l C (by omega) dX3_radiusAt_62 ?_
    refine g_aload_n C dX3_radiusAt_63 rfl hl 2 rfl ?_
    refine g_get C G (pos := po) fX3_radiusAt_9 (by omega) he rfl dX3_radiusAt_64 ?_
    refine g_i2l C (by omega) dX3_radiusAt_67 ?_
    refine g_cl C G (g_runN (As := [.long (jz (ho * ((2 * z_8) - w))), .long (jz w)]) (rest := [.int (iz (200 - w))]) C G (c_X7_quotient l κ B n ad g (ho * ((2 * z_8) - w)) w (by omega) (by omega) (by omega)) (g_cwN (index := 38) 2 C gX3_radiusAt_X7_quotient_n38 rfl rfl rfl (by decide +kernel) (by decide +kernel) (by decide +kernel) (by decide +kernel) ⟨Nat.le_of_ble_eq_true rfl, Nat.le_of_ble_eq_true rfl⟩) rfl hl rfl (Nat.le_of_ble_eq_true rfl) dX3_radiusAt_68 ⟨Nat.le_of_ble_eq_true rfl, Nat.le_of_ble_eq_true rfl⟩) (fun z_10 g9 H locs hw G => ?_)
    obtain ⟨hg9, h_11⟩ := hw
    replace hg9 := hg9.symm
    subst hg9
    refine g_l2i C dX3_radiusAt_71 ?_
    refine g_iadd C dX3_radiusAt_72 ?_
    refine g_iret C G hr hlk (Nat.le_of_ble_eq_true rfl) (Nat.le_of_ble_eq_true rfl) dX3_radiusAt_73 ?_
    have hr9 : (200 - w) + z_10 = rad w sd ho z_1 := by
      unfold rad
      rw [h_11, show z_8 = (if 0 ≤ 2 * z_1 - w then 2 * z_1 - w else -(2 * z_1 - w)) from by split <;> omega]
      by_cases h0 : sd = 0
      · first | (rw [if_pos h0]; done) | omega
      · first | (rw [if_neg h0]; done) | omega
    have hr8 := rad_range hok h_2.1 h_2.2.1
    rw [← hr9] at hr8
    exact ⟨rfl, hr8.1, hr8.2, by rw [hr9, h_2.2.2]⟩
theorem fX3_turns_9 : gFld wsX3_turns RX3 9 3 0 := ⟨RX3, TX3, 4, rfl, by decide, by decide +kernel, by decide +kernel⟩
set_option maxHeartbeats 4000000 in
set_option maxRecDepth 100000 in
theorem c_X3_turns (l : Launch) (κ : gKap) (B n : Nat) (ad : Nat → Nat) (g : Nat → va_E) (po : Nat) (w : Int) (sd : Int) (ho : Int) (st0 : Int) (ring : Int) (hp : po < n) (he : g po = oL w sd ho st0) (hok : okL w sd ho) (hrg : 12 ≤ ring ∧ ring ≤ 96) : Met l yX3_turns wsX3_turns ({ frames := 1, cells := 0, slots := 0, locals := 30 }) (gPre κ B n ad g [.ref (ad po), .int (iz ring)]) (gQi κ B n ad (fun z g' => g' = g ∧ (1 ≤ z ∧ z ≤ w ∧ z = tn ring w))) 0 0 (gFree B) := by
  refine g_met RX3 (cc := cX3_turns) (maxL := 2) (ret := (some .int)) (by decide) rfl rfl (Nat.le_of_ble_eq_true rfl) ?_
  intro p e s m args below meth c C hr hlk hnm G ls hl
  have hl : lv_has ls 2 [(0, .ref (ad po)), (1, .int (iz ring))] := hl
  have hgl := gd_le (b := w) (show 0 < ring by omega)
  refine g_aload_n C dX3_turns_0 rfl hl 0 rfl ?_
  refine g_get C G (pos := po) fX3_turns_9 (by omega) he rfl dX3_turns_1 ?_
  refine g_i2l C (by omega) dX3_turns_4 ?_
  refine g_iload_n C dX3_turns_5 rfl hl 1 rfl ?_
  refine g_i2l C (by omega) dX3_turns_6 ?_
  refine g_aload_n C dX3_turns_7 rfl hl 0 rfl ?_
  refine g_get C G (pos := po) fX3_turns_9 (by omega) he rfl dX3_turns_8 ?_
  refine g_i2l C (by omega) dX3_turns_11 ?_
  refine g_cl C G (g_runN (As := [.long (jz ring), .long (jz w)]) (rest := [.long (jz w)]) C G (c_X7_commonDivisor l κ B n ad g ring w (by omega) (by omega) (by omega) (by omega)) (g_cwN (index := 56) 2 C gX3_turns_X7_commonDivisor_n56 rfl rfl rfl (by decide +kernel) (by decide +kernel) (by decide +kernel) (by decide +kernel) ⟨Nat.le_of_ble_eq_true rfl, Nat.le_of_ble_eq_true rfl⟩) rfl hl rfl (Nat.le_of_ble_eq_true rfl) dX3_turns_12 ⟨Nat.le_of_ble_eq_true rfl, Nat.le_of_ble_eq_true rfl⟩) (fun z_1 g9 H locs hw G => ?_)
  obtain ⟨hg9, h_2⟩ := hw
  replace hg9 := hg9.symm
  subst hg9
  refine g_cl C G (g_runN (As := [.long (jz w), .long (jz z_1)]) (rest := []) C G (c_X7_quotient l κ B n ad g w z_1 (by omega) (by omega) (by omega)) (g_cwN (index := 38) 2 C gX3_turns_X7_quotient_n38 rfl rfl rfl (by decide +kernel) (by decide +kernel) (by decide +kernel) (by decide +kernel) ⟨Nat.le_of_ble_eq_true rfl, Nat.le_of_ble_eq_true rfl⟩) rfl hl rfl (Nat.le_of_ble_eq_true rfl) dX3_turns_15 ⟨Nat.le_of_ble_eq_true rfl, Nat.le_of_ble_eq_true rfl⟩) (fun z_3 g9 H locs hw G => ?_)
  obtain ⟨hg9, h_4⟩ := hw
  replace hg9 := hg9.symm
  subst hg9
  refine g_l2i C dX3_turns_18 ?_
  refine g_iret C G hr hlk (Nat.le_of_ble_eq_true rfl) (Nat.le_of_ble_eq_true rfl) dX3_turns_19 ?_
  have hr9 : z_3 = tn ring w := by rw [h_4, h_2.2, tdiv_pos (by omega)]; rfl
  have hr8 := tn_range (ring := ring) (w := w) (by omega) (by omega)
  rw [← hr9] at hr8
  exact ⟨rfl, hr8.1, hr8.2, hr9⟩
theorem fX3_lobes_9 : gFld wsX3_lobes RX3 9 3 0 := ⟨RX3, TX3, 4, rfl, by decide, by decide +kernel, by decide +kernel⟩
set_option maxHeartbeats 4000000 in
set_option maxRecDepth 100000 in
theorem c_X3_lobes (l : Launch) (κ : gKap) (B n : Nat) (ad : Nat → Nat) (g : Nat → va_E) (po : Nat) (w : Int) (sd : Int) (ho : Int) (st0 : Int) (ring : Int) (hp : po < n) (he : g po = oL w sd ho st0) (hok : okL w sd ho) (hrg : 12 ≤ ring ∧ ring ≤ 96) : Met l yX3_lobes wsX3_lobes ({ frames := 1, cells := 0, slots := 0, locals := 30 }) (gPre κ B n ad g [.ref (ad po), .int (iz ring)]) (gQi κ B n ad (fun z g' => g' = g ∧ (1 ≤ z ∧ z ≤ ring ∧ z = lb ring w))) 0 0 (gFree B) := by
  refine g_met RX3 (cc := cX3_lobes) (maxL := 2) (ret := (some .int)) (by decide) rfl rfl (Nat.le_of_ble_eq_true rfl) ?_
  intro p e s m args below meth c C hr hlk hnm G ls hl
  have hl : lv_has ls 2 [(0, .ref (ad po)), (1, .int (iz ring))] := hl
  have hgl := gd_le (b := w) (show 0 < ring by omega)
  refine g_iload_n C dX3_lobes_0 rfl hl 1 rfl ?_
  refine g_i2l C (by omega) dX3_lobes_1 ?_
  refine g_iload_n C dX3_lobes_2 rfl hl 1 rfl ?_
  refine g_i2l C (by omega) dX3_lobes_3 ?_
  refine g_aload_n C dX3_lobes_4 rfl hl 0 rfl ?_
  refine g_get C G (pos := po) fX3_lobes_9 (by omega) he rfl dX3_lobes_5 ?_
  refine g_i2l C (by omega) dX3_lobes_8 ?_
  refine g_cl C G (g_runN (As := [.long (jz ring), .long (jz w)]) (rest := [.long (jz ring)]) C G (c_X7_commonDivisor l κ B n ad g ring w (by omega) (by omega) (by omega) (by omega)) (g_cwN (index := 56) 2 C gX3_lobes_X7_commonDivisor_n56 rfl rfl rfl (by decide +kernel) (by decide +kernel) (by decide +kernel) (by decide +kernel) ⟨Nat.le_of_ble_eq_true rfl, Nat.le_of_ble_eq_true rfl⟩) rfl hl rfl (Nat.le_of_ble_eq_true rfl) dX3_lobes_9 ⟨Nat.le_of_ble_eq_true rfl, Nat.le_of_ble_eq_true rfl⟩) (fun z_1 g9 H locs hw G => ?_)
  obtain ⟨hg9, h_2⟩ := hw
  replace hg9 := hg9.symm
  subst hg9
  refine g_cl C G (g_runN (As := [.long (jz ring), .long (jz z_1)]) (rest := []) C G (c_X7_quotient l κ B n ad g ring z_1 (by omega) (by omega) (by omega)) (g_cwN (index := 38) 2 C gX3_lobes_X7_quotient_n38 rfl rfl rfl (by decide +kernel) (by decide +kernel) (by decide +kernel) (by decide +kernel) ⟨Nat.le_of_ble_eq_true rfl, Nat.le_of_ble_eq_true rfl⟩) rfl hl rfl (Nat.le_of_ble_eq_true rfl) dX3_lobes_12 ⟨Nat.le_of_ble_eq_true rfl, Nat.le_of_ble_eq_true rfl⟩) (fun z_3 g9 H locs hw G => ?_)
  obtain ⟨hg9, h_4⟩ := hw
  replace hg9 := hg9.symm
  subst hg9
  refine g_l2i C dX3_lobes_15 ?_
  refine g_iret C G hr hlk (Nat.le_of_ble_eq_true rfl) (Nat.le_of_ble_eq_true rfl) dX3_lobes_16 ?_
  have hr9 : z_3 = lb ring w := by rw [h_4, h_2.2, tdiv_pos (by omega)]; rfl
  have hr8 := lb_range (ring := ring) (w := w) (by omega)
  rw [← hr9] at hr8
  exact ⟨rfl, hr8.1, hr8.2, hr9⟩
set_option maxHeartbeats 4000000 in
set_option maxRecDepth 100000 in
theorem c_X3_period (l : Launch) (κ : gKap) (B n : Nat) (ad : Nat → Nat) (g : Nat → va_E) (po : Nat) (w : Int) (sd : Int) (ho : Int) (st0 : Int) (ring : Int) (hp : po < n) (he : g po = oL w sd ho st0) (hok : okL w sd ho) (hrg : 12 ≤ ring ∧ ring ≤ 96) : Met l yX3_period wsX3_period ({ frames := 2, cells := 0, slots := 0, locals := 51 }) (gPre κ B n ad g [.ref (ad po), .int (iz ring)]) (gQi κ B n ad (fun z g' => g' = g ∧ (1 ≤ z ∧ z ≤ 5760 ∧ z = pd ring w))) 0 0 (gFree B) := by
  refine g_met RX3 (cc := cX3_period) (maxL := 2) (ret := (some .int)) (by decide) rfl rfl (Nat.le_of_ble_eq_true rfl) ?_
  intro p e s m args below meth c C hr hlk hnm G ls hl
  have hl : lv_has ls 2 [(0, .ref (ad po)), (1, .int (iz ring))] := hl
  refine g_iload_n C dX3_period_0 rfl hl 1 rfl ?_
  refine g_aload_n C dX3_period_1 rfl hl 0 rfl ?_
  refine g_iload_n C dX3_period_2 rfl hl 1 rfl ?_
  refine g_ci C G (g_runV (As := [.int (iz ring)]) (rest := [.int (iz ring)]) (pos := po) C G (c_X3_turns l κ B n ad g po w sd ho st0 ring (by omega) he (by omega) (by omega)) (cwV 1 C.1.2.2.2.2 gX3_period_X3_turns rfl rfl rfl (by decide +kernel) ⟨Nat.le_of_ble_eq_true rfl, Nat.le_of_ble_eq_true rfl⟩) (by omega) he (T := TX3) (N := 4) rfl rfl hl rfl (Nat.le_of_ble_eq_true rfl) dX3_period_3 ⟨Nat.le_of_ble_eq_true rfl, Nat.le_of_ble_eq_true rfl⟩) (fun z_1 g9 H locs hw G => ?_)
  obtain ⟨hg9, h_2⟩ := hw
  replace hg9 := hg9.symm
  subst hg9
  refine g_imul C dX3_period_6 ?_
  refine g_iret C G hr hlk (Nat.le_of_ble_eq_true rfl) (Nat.le_of_ble_eq_true rfl) dX3_period_7 ?_
  have hq9 := mul_r (a := ring) (b := z_1) (x := 96) (y := 60) (by omega) (by omega) (by omega) (by omega)
  have hq8 : 1 * z_1 ≤ ring * z_1 := Int.mul_le_mul_of_nonneg_right (by omega) (by omega)
  exact ⟨rfl, by omega, by omega, by rw [h_2.2.2]; rfl⟩
theorem fX3_leastRadius_9 : gFld wsX3_leastRadius RX3 9 3 0 := ⟨RX3, TX3, 4, rfl, by decide, by decide +kernel, by decide +kernel⟩
set_option maxHeartbeats 4000000 in
set_option maxRecDepth 100000 in
theorem c_X3_leastRadius (l : Launch) (κ : gKap) (B n : Nat) (ad : Nat → Nat) (g : Nat → va_E) (po : Nat) (w : Int) (sd : Int) (ho : Int) (st0 : Int) (hp : po < n) (he : g po = oL w sd ho st0) (hok : okL w sd ho) : Met l yX3_leastRadius wsX3_leastRadius ({ frames := 2, cells := 0, slots := 0, locals := 47 }) (gPre κ B n ad g [.ref (ad po)]) (gQi κ B n ad (fun z g' => g' = g ∧ (120 ≤ z ∧ z ≤ 280 ∧ z = mnf (rad w sd ho) (w - 1).toNat))) 0 0 (gFree B) := by
  refine g_met RX3 (cc := cX3_leastRadius) (maxL := 3) (ret := (some .int)) (by decide) rfl rfl (Nat.le_of_ble_eq_true rfl) ?_
  intro p e s m args below meth c C hr hlk hnm G ls hl
  have hl : lv_has ls 3 [(0, .ref (ad po))] := hl
  refine g_aload_n C dX3_leastRadius_0 rfl hl 0 rfl ?_
  refine g_lconst (a := 0) C dX3_leastRadius_1 (by decide) ?_
  refine g_ci C G (g_runV (As := [.long (jz 0)]) (rest := []) (pos := po) C G (c_X3_radiusAt l κ B n ad g po w sd ho st0 0 (by omega) he (by omega) (by omega) (by omega)) (cwV 1 C.1.2.2.2.2 gX3_leastRadius_X3_radiusAt rfl rfl rfl (by decide +kernel) ⟨Nat.le_of_ble_eq_true rfl, Nat.le_of_ble_eq_true rfl⟩) (by omega) he (T := TX3) (N := 4) rfl rfl hl rfl (Nat.le_of_ble_eq_true rfl) dX3_leastRadius_2 ⟨Nat.le_of_ble_eq_true rfl, Nat.le_of_ble_eq_true rfl⟩) (fun z_1 g9 H locs hw G => ?_)
  obtain ⟨hg9, h_2⟩ := hw
  replace hg9 := hg9.symm
  subst hg9
  refine lv_istore_n (lv' := [(1, .int (iz z_1)), (0, .ref (ad po))]) C.1.1 C.1.2.1 dX3_leastRadius_5 rfl hl (by decide) rfl (fun ls hl => ?_)
  refine g_iconst (a := 1) C dX3_leastRadius_6 rfl ?_
  refine lv_istore_n (lv' := [(2, .int (iz 1)), (1, .int (iz z_1)), (0, .ref (ad po))]) C.1.1 C.1.2.1 dX3_leastRadius_7 rfl hl (by decide) rfl (fun ls hl => ?_)
  have lp_8_n_4 : ∀ (k_3 : Nat) (le : Int) (u : Int), (w - u).toNat < k_3 → (1 ≤ u) → (u ≤ w) → (120 ≤ le) → (le ≤ 280) → (le = mnf (rad w sd ho) (u - 1).toNat) → ∀ (H : Heap) (locs : List Loc), gG κ B n ad s g H locs → ∀ (ls : Array Slot), lv_has ls 3 [(0, .ref (ad po)), (1, .int (iz le)), (2, .int (iz u))] → W p l e ({ frames := 2, cells := 0, slots := 0, locals := 47 }) s m args below meth c H locs 0 0 (MQ below (gQi κ B n ad (fun z g' => g' = g ∧ (120 ≤ z ∧ z ≤ 280 ∧ z = mnf (rad w sd ho) (w - 1).toNat))) args s 0 0 (gFree B)) (F0 m 8 ls []) := by
    intro k_3
    induction k_3 with
    | zero => intro le u hm; exact absurd hm (Nat.not_lt_zero _)
    | succ k_3 ih_lp_8_n_4 =>
      intro le u hm hu0 hu1 hl0 hl1 hle H locs G ls hl
      refine g_iload_n C dX3_leastRadius_8 rfl hl 2 rfl ?_
      refine g_aload_n C dX3_leastRadius_9 rfl hl 0 rfl ?_
      refine g_get C G (pos := po) fX3_leastRadius_9 (by omega) he rfl dX3_leastRadius_10 ?_
      refine g_icmp_ge (tgt := 33) C (by omega) (by omega) dX3_leastRadius_13 (by decide) (fun c_5 => ?_) (fun c_5 => ?_)
      · refine g_iload_n C dX3_leastRadius_33 rfl hl 1 rfl ?_
        refine g_iret C G hr hlk (Nat.le_of_ble_eq_true rfl) (Nat.le_of_ble_eq_true rfl) dX3_leastRadius_34 ?_
        exact ⟨rfl, hl0, hl1, by rw [hle, show u = w by omega]⟩
      · refine g_iload_n C dX3_leastRadius_16 rfl hl 1 rfl ?_
        refine g_aload_n C dX3_leastRadius_17 rfl hl 0 rfl ?_
        refine g_iload_n C dX3_leastRadius_18 rfl hl 2 rfl ?_
        refine g_i2l C (by omega) dX3_leastRadius_19 ?_
        refine g_ci C G (g_runV (As := [.long (jz u)]) (rest := [.int (iz le)]) (pos := po) C G (c_X3_radiusAt l κ B n ad g po w sd ho st0 u (by omega) he (by omega) (by omega) (by omega)) (cwV 1 C.1.2.2.2.2 gX3_leastRadius_X3_radiusAt rfl rfl rfl (by decide +kernel) ⟨Nat.le_of_ble_eq_true rfl, Nat.le_of_ble_eq_true rfl⟩) (by omega) he (T := TX3) (N := 4) rfl rfl hl rfl (Nat.le_of_ble_eq_true rfl) dX3_leastRadius_20 ⟨Nat.le_of_ble_eq_true rfl, Nat.le_of_ble_eq_true rfl⟩) (fun z_6 g9 H locs hw G => ?_)
        obtain ⟨hg9, h_7⟩ := hw
        replace hg9 := hg9.symm
        subst hg9
        refine g_mmin C hl (by decide +kernel : Cond.methodLink RX3 46 Lib.Math.min.name ∈ wsX3_leastRadius) (by decide +kernel) (by decide +kernel) (by decide +kernel) (Nat.le_of_ble_eq_true rfl) (Nat.le_of_ble_eq_true rfl) (by first | exact Nat.zero_le _ | omega) (by first | exact Nat.zero_le _ | omega) (by omega) (by omega) dX3_leastRadius_23 (fun z_8 h_9 => ?_)
        refine lv_istore_n (lv' := [(1, .int (iz z_8)), (0, .ref (ad po)), (2, .int (iz u))]) C.1.1 C.1.2.1 dX3_leastRadius_26 rfl hl (by decide) rfl (fun ls hl => ?_)
        refine lv_iinc (v := iz (u + 1)) (lv' := [(2, .int (iz (u + 1))), (1, .int (iz z_8)), (0, .ref (ad po))]) C.1.1 C.1.2.1 dX3_leastRadius_27 hl (k := 2) rfl (g_inc (by omega)) (by decide) rfl (fun ls hl => ?_)
        refine g_goto (tgt := 8) C dX3_leastRadius_30 (by decide) ?_
        exact ih_lp_8_n_4 z_8 (u + 1) (by omega) (by omega) (by omega) (by omega) (by omega) (by rw [mnf_step (rad w sd ho) hu0, h_9, ← hle, h_7.2.2, Int.emod_eq_of_lt (by omega) (by omega)]) _ _ G _ (lv_sub hl [2, 1, 0] rfl)
  exact lp_8_n_4 _ z_1 1 (Nat.lt_succ_self _) (by omega) (by omega) (by omega) (by omega) (by rw [h_2.2.2, Int.zero_emod]; rfl) _ _ G _ (lv_sub hl [2, 1, 0] rfl)
theorem fX3_greatestRadius_9 : gFld wsX3_greatestRadius RX3 9 3 0 := ⟨RX3, TX3, 4, rfl, by decide, by decide +kernel, by decide +kernel⟩
set_option maxHeartbeats 4000000 in
set_option maxRecDepth 100000 in
theorem c_X3_greatestRadius (l : Launch) (κ : gKap) (B n : Nat) (ad : Nat → Nat) (g : Nat → va_E) (po : Nat) (w : Int) (sd : Int) (ho : Int) (st0 : Int) (hp : po < n) (he : g po = oL w sd ho st0) (hok : okL w sd ho) : Met l yX3_greatestRadius wsX3_greatestRadius ({ frames := 2, cells := 0, slots := 0, locals := 47 }) (gPre κ B n ad g [.ref (ad po)]) (gQi κ B n ad (fun z g' => g' = g ∧ (120 ≤ z ∧ z ≤ 280 ∧ z = mxf (rad w sd ho) (w - 1).toNat))) 0 0 (gFree B) := by
  refine g_met RX3 (cc := cX3_greatestRadius) (maxL := 3) (ret := (some .int)) (by decide) rfl rfl (Nat.le_of_ble_eq_true rfl) ?_
  intro p e s m args below meth c C hr hlk hnm G ls hl
  have hl : lv_has ls 3 [(0, .ref (ad po))] := hl
  refine g_aload_n C dX3_greatestRadius_0 rfl hl 0 rfl ?_
  refine g_lconst (a := 0) C dX3_greatestRadius_1 (by decide) ?_
  refine g_ci C G (g_runV (As := [.long (jz 0)]) (rest := []) (pos := po) C G (c_X3_radiusAt l κ B n ad g po w sd ho st0 0 (by omega) he (by omega) (by omega) (by omega)) (cwV 1 C.1.2.2.2.2 gX3_greatestRadius_X3_radiusAt rfl rfl rfl (by decide +kernel) ⟨Nat.le_of_ble_eq_true rfl, Nat.le_of_ble_eq_true rfl⟩) (by omega) he (T := TX3) (N := 4) rfl rfl hl rfl (Nat.le_of_ble_eq_true rfl) dX3_greatestRadius_2 ⟨Nat.le_of_ble_eq_true rfl, Nat.le_of_ble_eq_true rfl⟩) (fun z_1 g9 H locs hw G => ?_)
  obtain ⟨hg9, h_2⟩ := hw
  replace hg9 := hg9.symm
  subst hg9
  refine lv_istore_n (lv' := [(1, .int (iz z_1)), (0, .ref (ad po))]) C.1.1 C.1.2.1 dX3_greatestRadius_5 rfl hl (by decide) rfl (fun ls hl => ?_)
  refine g_iconst (a := 1) C dX3_greatestRadius_6 rfl ?_
  refine lv_istore_n (lv' := [(2, .int (iz 1)), (1, .int (iz z_1)), (0, .ref (ad po))]) C.1.1 C.1.2.1 dX3_greatestRadius_7 rfl hl (by decide) rfl (fun ls hl => ?_)
  have lp_8_n_4 : ∀ (k_3 : Nat) (le : Int) (u : Int), (w - u).toNat < k_3 → (1 ≤ u) → (u ≤ w) → (120 ≤ le) → (le ≤ 280) → (le = mxf (rad w sd ho) (u - 1).toNat) → ∀ (H : Heap) (locs : List Loc), gG κ B n ad s g H locs → ∀ (ls : Array Slot), lv_has ls 3 [(0, .ref (ad po)), (1, .int (iz le)), (2, .int (iz u))] → W p l e ({ frames := 2, cells := 0, slots := 0, locals := 47 }) s m args below meth c H locs 0 0 (MQ below (gQi κ B n ad (fun z g' => g' = g ∧ (120 ≤ z ∧ z ≤ 280 ∧ z = mxf (rad w sd ho) (w - 1).toNat))) args s 0 0 (gFree B)) (F0 m 8 ls []) := by
    intro k_3
    induction k_3 with
    | zero => intro le u hm; exact absurd hm (Nat.not_lt_zero _)
    | succ k_3 ih_lp_8_n_4 =>
      intro le u hm hu0 hu1 hl0 hl1 hle H locs G ls hl
      refine g_iload_n C dX3_greatestRadius_8 rfl hl 2 rfl ?_
      refine g_aload_n C dX3_greatestRadius_9 rfl hl 0 rfl ?_
      refine g_get C G (pos := po) fX3_greatestRadius_9 (by omega) he rfl dX3_greatestRadius_10 ?_
      refine g_icmp_ge (tgt := 33) C (by omega) (by omega) dX3_greatestRadius_13 (by decide) (fun c_5 => ?_) (fun c_5 => ?_)
      · refine g_iload_n C dX3_greatestRadius_33 rfl hl 1 rfl ?_
        refine g_iret C G hr hlk (Nat.le_of_ble_eq_true rfl) (Nat.le_of_ble_eq_true rfl) dX3_greatestRadius_34 ?_
        exact ⟨rfl, hl0, hl1, by rw [hle, show u = w by omega]⟩
      · refine g_iload_n C dX3_greatestRadius_16 rfl hl 1 rfl ?_
        refine g_aload_n C dX3_greatestRadius_17 rfl hl 0 rfl ?_
        refine g_iload_n C dX3_greatestRadius_18 rfl hl 2 rfl ?_
        refine g_i2l C (by omega) dX3_greatestRadius_19 ?_
        refine g_ci C G (g_runV (As := [.long (jz u)]) (rest := [.int (iz le)]) (pos := po) C G (c_X3_radiusAt l κ B n ad g po w sd ho st0 u (by omega) he (by omega) (by omega) (by omega)) (cwV 1 C.1.2.2.2.2 gX3_greatestRadius_X3_radiusAt rfl rfl rfl (by decide +kernel) ⟨Nat.le_of_ble_eq_true rfl, Nat.le_of_ble_eq_true rfl⟩) (by omega) he (T := TX3) (N := 4) rfl rfl hl rfl (Nat.le_of_ble_eq_true rfl) dX3_greatestRadius_20 ⟨Nat.le_of_ble_eq_true rfl, Nat.le_of_ble_eq_true rfl⟩) (fun z_6 g9 H locs hw G => ?_)
        obtain ⟨hg9, h_7⟩ := hw
        replace hg9 := hg9.symm
        subst hg9
        refine g_mmax C hl (by decide +kernel : Cond.methodLink RX3 50 Lib.Math.max.name ∈ wsX3_greatestRadius) (by decide +kernel) (by decide +kernel) (by decide +kernel) (Nat.le_of_ble_eq_true rfl) (Nat.le_of_ble_eq_true rfl) (by first | exact Nat.zero_le _ | omega) (by first | exact Nat.zero_le _ | omega) (by omega) (by omega) dX3_greatestRadius_23 (fun z_8 h_9 => ?_)
        refine lv_istore_n (lv' := [(1, .int (iz z_8)), (0, .ref (ad po)), (2, .int (iz u))]) C.1.1 C.1.2.1 dX3_greatestRadius_26 rfl hl (by decide) rfl (fun ls hl => ?_)
        refine lv_iinc (v := iz (u + 1)) (lv' := [(2, .int (iz (u + 1))), (1, .int (iz z_8)), (0, .ref (ad po))]) C.1.1 C.1.2.1 dX3_greatestRadius_27 hl (k := 2) rfl (g_inc (by omega)) (by decide) rfl (fun ls hl => ?_)
        refine g_goto (tgt := 8) C dX3_greatestRadius_30 (by decide) ?_
        exact ih_lp_8_n_4 z_8 (u + 1) (by omega) (by omega) (by omega) (by omega) (by omega) (by rw [mxf_step (rad w sd ho) hu0, h_9, ← hle, h_7.2.2, Int.emod_eq_of_lt (by omega) (by omega)]) _ _ G _ (lv_sub hl [2, 1, 0] rfl)
  exact lp_8_n_4 _ z_1 1 (Nat.lt_succ_self _) (by omega) (by omega) (by omega) (by omega) (by rw [h_2.2.2, Int.zero_emod]; rfl) _ _ G _ (lv_sub hl [2, 1, 0] rfl)
theorem fX3_firstStepAt_21 : gFld wsX3_firstStepAt RX3 21 3 3 := ⟨RX3, TX3, 4, rfl, by decide, by decide +kernel, by decide +kernel⟩
set_option maxHeartbeats 4000000 in
set_option maxRecDepth 100000 in
theorem c_X3_firstStepAt (l : Launch) (κ : gKap) (B n : Nat) (ad : Nat → Nat) (g : Nat → va_E) (po : Nat) (w : Int) (sd : Int) (ho : Int) (st0 : Int) (ring : Int) (angle : Int) (radius : Int) (hp : po < n) (he : g po = oL w sd ho st0) (hok : okL w sd ho) (hrg : 12 ≤ ring ∧ ring ≤ 96) (hst : 0 ≤ st0 ∧ st0 < ring) (hang : 0 ≤ angle ∧ angle < ring) (hrad : inI radius) : Met l yX3_firstStepAt wsX3_firstStepAt ({ frames := 2, cells := 0, slots := 0, locals := 51 }) (gPre κ B n ad g [.ref (ad po), .int (iz ring), .int (iz angle), .int (iz radius)]) (gQi κ B n ad (fun z g' => g' = g ∧ (isFirst (fun t => (st0 + t) % ring = angle ∧ rad w sd ho (t % w) = radius) (pd ring w) z))) 0 0 (gFree B) := by
  refine g_met RX3 (cc := cX3_firstStepAt) (maxL := 8) (ret := (some .int)) (by decide) rfl rfl (Nat.le_of_ble_eq_true rfl) ?_
  intro p e s m args below meth c C hr hlk hnm G ls hl
  have hl : lv_has ls 8 [(0, .ref (ad po)), (1, .int (iz ring)), (2, .int (iz angle)), (3, .int (iz radius))] := hl
  refine g_iload_n C dX3_firstStepAt_0 rfl hl 2 rfl ?_
  refine g_i2l C (by omega) dX3_firstStepAt_1 ?_
  refine g_aload_n C dX3_firstStepAt_2 rfl hl 0 rfl ?_
  refine g_get C G (pos := po) fX3_firstStepAt_21 (by omega) he rfl dX3_firstStepAt_3 ?_
  refine g_i2l C (by omega) dX3_firstStepAt_6 ?_
  refine g_lsub C dX3_firstStepAt_7 ?_
  refine g_iload_n C dX3_firstStepAt_8 rfl hl 1 rfl ?_
  refine g_i2l C (by omega) dX3_firstStepAt_9 ?_
  refine g_ladd C dX3_firstStepAt_10 ?_
  refine g_iload_n C dX3_firstStepAt_11 rfl hl 1 rfl ?_
  refine g_ci C G (g_runN (As := [.long (jz ((angle - st0) + ring)), .int (iz ring)]) (rest := []) C G (c_X7_remainder l κ B n ad g ((angle - st0) + ring) ring (by omega) (by omega) (by omega) (by omega)) (g_cwN (index := 28) 2 C gX3_firstStepAt_X7_remainder_n28 rfl rfl rfl (by decide +kernel) (by decide +kernel) (by decide +kernel) (by decide +kernel) ⟨Nat.le_of_ble_eq_true rfl, Nat.le_of_ble_eq_true rfl⟩) rfl hl rfl (Nat.le_of_ble_eq_true rfl) dX3_firstStepAt_12 ⟨Nat.le_of_ble_eq_true rfl, Nat.le_of_ble_eq_true rfl⟩) (fun z_1 g9 H locs hw G => ?_)
  obtain ⟨hg9, h_2⟩ := hw
  replace hg9 := hg9.symm
  subst hg9
  refine lv_istore (lv' := [(4, .int (iz z_1)), (0, .ref (ad po)), (1, .int (iz ring)), (2, .int (iz angle)), (3, .int (iz radius))]) C.1.1 C.1.2.1 dX3_firstStepAt_15 hl (by decide) rfl (fun ls hl => ?_)
  refine g_aload_n C dX3_firstStepAt_17 rfl hl 1 rfl ?_
  refine g_iload_n C dX3_firstStepAt_18 rfl hl 2 rfl ?_
  refine g_ci C G (g_runV (As := [.int (iz ring)]) (rest := []) (pos := po) C G (c_X3_turns l κ B n ad g po w sd ho st0 ring (by omega) he (by omega) (by omega)) (cwV 1 C.1.2.2.2.2 gX3_firstStepAt_X3_turns rfl rfl rfl (by decide +kernel) ⟨Nat.le_of_ble_eq_true rfl, Nat.le_of_ble_eq_true rfl⟩) (by omega) he (T := TX3) (N := 4) rfl rfl hl rfl (Nat.le_of_ble_eq_true rfl) dX3_firstStepAt_19 ⟨Nat.le_of_ble_eq_true rfl, Nat.le_of_ble_eq_true rfl⟩) (fun z_3 g9 H locs hw G => ?_)
  obtain ⟨hg9, h_4⟩ := hw
  replace hg9 := hg9.symm
  subst hg9
  have htn := tn_range (ring := ring) (w := w) (by omega) (by omega)
  refine lv_istore (lv' := [(5, .int (iz z_3)), (4, .int (iz z_1)), (0, .ref (ad po)), (1, .int (iz ring)), (2, .int (iz angle)), (3, .int (iz radius))]) C.1.1 C.1.2.1 dX3_firstStepAt_22 hl (by decide) rfl (fun ls hl => ?_)
  refine g_iconst (a := 0) C dX3_firstStepAt_24 rfl ?_
  refine lv_istore (lv' := [(6, .int (iz 0)), (5, .int (iz z_3)), (4, .int (iz z_1)), (0, .ref (ad po)), (1, .int (iz ring)), (2, .int (iz angle)), (3, .int (iz radius))]) C.1.1 C.1.2.1 dX3_firstStepAt_25 hl (by decide) rfl (fun ls hl => ?_)
  have lp_27_n_6 : ∀ (k_5 : Nat) (k : Int), (tn ring w - k).toNat < k_5 → (0 ≤ k) → (k ≤ tn ring w) → (∀ j, 0 ≤ j → j < k → rad w sd ho ((z_1 + j * ring) % w) ≠ radius) → ∀ (H : Heap) (locs : List Loc), gG κ B n ad s g H locs → ∀ (ls : Array Slot), lv_has ls 8 [(0, .ref (ad po)), (1, .int (iz ring)), (2, .int (iz angle)), (3, .int (iz radius)), (4, .int (iz z_1)), (5, .int (iz z_3)), (6, .int (iz k))] → W p l e ({ frames := 2, cells := 0, slots := 0, locals := 51 }) s m args below meth c H locs 0 0 (MQ below (gQi κ B n ad (fun z g' => g' = g ∧ (isFirst (fun t => (st0 + t) % ring = angle ∧ rad w sd ho (t % w) = radius) (pd ring w) z))) args s 0 0 (gFree B)) (F0 m 27 ls []) := by
    intro k_5
    induction k_5 with
    | zero => intro k hm; exact absurd hm (Nat.not_lt_zero _)
    | succ k_5 ih_lp_27_n_6 =>
      intro k hm hk0 hk1 hkb H locs G ls hl
      refine g_iload C dX3_firstStepAt_27 hl 6 rfl ?_
      refine g_iload C dX3_firstStepAt_29 hl 5 rfl ?_
      refine g_icmp_ge (tgt := 63) C (by omega) (by omega) dX3_firstStepAt_31 (by decide) (fun c_7 => ?_) (fun c_7 => ?_)
      · refine g_bipush (a := (-9)) C dX3_firstStepAt_63 (by decide) ?_
        refine g_iret C G hr hlk (Nat.le_of_ble_eq_true rfl) (Nat.le_of_ble_eq_true rfl) dX3_firstStepAt_65 ?_
        exact ⟨rfl, fs_none (by omega) (by omega) hst hang h_2.2.2 (fun j j0 j1 => hkb j j0 (by omega))⟩
      · refine g_iload C dX3_firstStepAt_34 hl 4 rfl ?_
        refine g_iload C dX3_firstStepAt_36 hl 6 rfl ?_
        refine g_iload_n C dX3_firstStepAt_38 rfl hl 1 rfl ?_
        have hkm := mul_r (a := k) (b := ring) (x := 60) (y := 96) (by omega) (by omega) (by omega) (by omega)
        refine g_imul C dX3_firstStepAt_39 ?_
        refine g_iadd C dX3_firstStepAt_40 ?_
        refine lv_istore (lv' := [(7, .int (iz (z_1 + (k * ring)))), (0, .ref (ad po)), (1, .int (iz ring)), (2, .int (iz angle)), (3, .int (iz radius)), (4, .int (iz z_1)), (5, .int (iz z_3)), (6, .int (iz k))]) C.1.1 C.1.2.1 dX3_firstStepAt_41 hl (by decide) rfl (fun ls hl => ?_)
        refine g_aload_n C dX3_firstStepAt_43 rfl hl 1 rfl ?_
        refine g_iload C dX3_firstStepAt_44 hl 0 rfl ?_
        refine g_i2l C (by omega) dX3_firstStepAt_46 ?_
        refine g_ci C G (g_runV (As := [.long (jz (z_1 + (k * ring)))]) (rest := []) (pos := po) C G (c_X3_radiusAt l κ B n ad g po w sd ho st0 (z_1 + (k * ring)) (by omega) he (by omega) (by omega) (by omega)) (cwV 1 C.1.2.2.2.2 gX3_firstStepAt_X3_radiusAt rfl rfl rfl (by decide +kernel) ⟨Nat.le_of_ble_eq_true rfl, Nat.le_of_ble_eq_true rfl⟩) (by omega) he (T := TX3) (N := 4) rfl rfl hl rfl (Nat.le_of_ble_eq_true rfl) dX3_firstStepAt_47 ⟨Nat.le_of_ble_eq_true rfl, Nat.le_of_ble_eq_true rfl⟩) (fun z_8 g9 H locs hw G => ?_)
        obtain ⟨hg9, h_9⟩ := hw
        replace hg9 := hg9.symm
        subst hg9
        refine g_iload_n C dX3_firstStepAt_50 rfl hl 4 rfl ?_
        refine g_icmp_ne (tgt := 57) C (by omega) (by omega) dX3_firstStepAt_51 (by decide) (fun c_10 => ?_) (fun c_10 => ?_)
        · refine lv_iinc (v := iz (k + 1)) (lv' := [(6, .int (iz (k + 1))), (7, .int (iz (z_1 + (k * ring)))), (0, .ref (ad po)), (1, .int (iz ring)), (2, .int (iz angle)), (3, .int (iz radius)), (4, .int (iz z_1)), (5, .int (iz z_3))]) C.1.1 C.1.2.1 dX3_firstStepAt_57 hl (k := 7) rfl (g_inc (by omega)) (by decide) rfl (fun ls hl => ?_)
          refine g_goto (tgt := 27) C dX3_firstStepAt_60 (by decide) ?_
          exact ih_lp_27_n_6 (k + 1) (by omega) (by omega) (by omega) (fun j j0 j1 => by
              by_cases hj : j < k
              · exact hkb j j0 hj
              · rw [show j = k by omega, ← h_9.2.2]; omega) _ _ G _ (lv_sub hl [2, 3, 4, 5, 6, 7, 0] rfl)
        · refine g_iload C dX3_firstStepAt_54 hl 0 rfl ?_
          refine g_iret C G hr hlk (Nat.le_of_ble_eq_true rfl) (Nat.le_of_ble_eq_true rfl) dX3_firstStepAt_56 ?_
          exact ⟨rfl, fs_found (by omega) (by omega) hst hang h_2.2.2 hk0 (by omega) (by rw [← h_9.2.2]; omega) hkb⟩
  exact lp_27_n_6 _ 0 (Nat.lt_succ_self _) (by omega) (by omega) (fun j j0 j1 => absurd j1 (by omega)) _ _ G _ (lv_sub hl [3, 4, 5, 6, 2, 1, 0] rfl)
theorem fX3_firstMeeting_21 : gFld wsX3_firstMeeting RX3 21 3 3 := ⟨RX3, TX3, 4, rfl, by decide, by decide +kernel, by decide +kernel⟩
theorem fX3_firstMeeting_9 : gFld wsX3_firstMeeting RX3 9 3 0 := ⟨RX3, TX3, 4, rfl, by decide, by decide +kernel, by decide +kernel⟩
set_option maxHeartbeats 4000000 in
set_option maxRecDepth 100000 in
theorem c_X3_firstMeeting (l : Launch) (κ : gKap) (B n : Nat) (ad : Nat → Nat) (g : Nat → va_E) (po : Nat) (w : Int) (sd : Int) (ho : Int) (st0 : Int) (pp : Nat) (w2 : Int) (sd2 : Int) (ho2 : Int) (st2 : Int) (hp : po < n) (he : g po = oL w sd ho st0) (hp2 : pp < n) (he2 : g pp = oL w2 sd2 ho2 st2) (hok : okL w sd ho) (hok2 : okL w2 sd2 ho2) (hs1 : inI st0) (hs2 : inI st2) : Met l yX3_firstMeeting wsX3_firstMeeting ({ frames := 2, cells := 0, slots := 0, locals := 53 }) (gPre κ B n ad g [.ref (ad po), .ref (ad pp)]) (gQi κ B n ad (fun z g' => g' = g ∧ (isFirst (fun t => st0 = st2 ∧ rad w sd ho (t % w) = rad w2 sd2 ho2 (t % w2)) (w / gd w w2 * w2) z))) 0 0 (gFree B) := by
  refine g_met RX3 (cc := cX3_firstMeeting) (maxL := 4) (ret := (some .int)) (by decide) rfl rfl (Nat.le_of_ble_eq_true rfl) ?_
  intro p e s m args below meth c C hr hlk hnm G ls hl
  have hl : lv_has ls 4 [(0, .ref (ad po)), (1, .ref (ad pp))] := hl
  refine g_aload_n C dX3_firstMeeting_0 rfl hl 0 rfl ?_
  refine g_get C G (pos := po) fX3_firstMeeting_21 (by omega) he rfl dX3_firstMeeting_1 ?_
  refine g_aload_n C dX3_firstMeeting_4 rfl hl 1 rfl ?_
  refine g_get C G (pos := pp) fX3_firstMeeting_21 (by omega) he2 rfl dX3_firstMeeting_5 ?_
  refine g_icmp_eq (tgt := 14) C (by omega) (by omega) dX3_firstMeeting_8 (by decide) (fun c_1 => ?_) (fun c_1 => ?_)
  · refine g_aload_n C dX3_firstMeeting_14 rfl hl 0 rfl ?_
    refine g_get C G (pos := po) fX3_firstMeeting_9 (by omega) he rfl dX3_firstMeeting_15 ?_
    refine g_i2l C (by omega) dX3_firstMeeting_18 ?_
    refine g_aload_n C dX3_firstMeeting_19 rfl hl 1 rfl ?_
    refine g_get C G (pos := pp) fX3_firstMeeting_9 (by omega) he2 rfl dX3_firstMeeting_20 ?_
    refine g_i2l C (by omega) dX3_firstMeeting_23 ?_
    refine g_cl C G (g_runN (As := [.long (jz w), .long (jz w2)]) (rest := []) C G (c_X7_commonMultiple l κ B n ad g w w2 (by omega) (by omega) (by omega) (by omega)) (g_cwN (index := 59) 2 C gX3_firstMeeting_X7_commonMultiple_n59 rfl rfl rfl (by decide +kernel) (by decide +kernel) (by decide +kernel) (by decide +kernel) ⟨Nat.le_of_ble_eq_true rfl, Nat.le_of_ble_eq_true rfl⟩) rfl hl rfl (Nat.le_of_ble_eq_true rfl) dX3_firstMeeting_24 ⟨Nat.le_of_ble_eq_true rfl, Nat.le_of_ble_eq_true rfl⟩) (fun z_2 g9 H locs hw G => ?_)
    obtain ⟨hg9, h_3⟩ := hw
    replace hg9 := hg9.symm
    subst hg9
    have hlc := lcm_range (a := w) (b := w2) (by omega) (by omega) (by omega) (by omega)
    rw [← h_3] at hlc
    refine g_l2i C dX3_firstMeeting_27 ?_
    refine lv_istore_n (lv' := [(2, .int (iz z_2)), (0, .ref (ad po)), (1, .ref (ad pp))]) C.1.1 C.1.2.1 dX3_firstMeeting_28 rfl hl (by decide) rfl (fun ls hl => ?_)
    refine g_iconst (a := 0) C dX3_firstMeeting_29 rfl ?_
    refine lv_istore_n (lv' := [(3, .int (iz 0)), (2, .int (iz z_2)), (0, .ref (ad po)), (1, .ref (ad pp))]) C.1.1 C.1.2.1 dX3_firstMeeting_30 rfl hl (by decide) rfl (fun ls hl => ?_)
    have lp_31_n_5 : ∀ (k_4 : Nat) (k : Int), (w / gd w w2 * w2 - k).toNat < k_4 → (0 ≤ k) → (k ≤ w / gd w w2 * w2) → (∀ j, 0 ≤ j → j < k → rad w sd ho (j % w) ≠ rad w2 sd2 ho2 (j % w2)) → ∀ (H : Heap) (locs : List Loc), gG κ B n ad s g H locs → ∀ (ls : Array Slot), lv_has ls 4 [(0, .ref (ad po)), (1, .ref (ad pp)), (2, .int (iz z_2)), (3, .int (iz k))] → W p l e ({ frames := 2, cells := 0, slots := 0, locals := 53 }) s m args below meth c H locs 0 0 (MQ below (gQi κ B n ad (fun z g' => g' = g ∧ (isFirst (fun t => st0 = st2 ∧ rad w sd ho (t % w) = rad w2 sd2 ho2 (t % w2)) (w / gd w w2 * w2) z))) args s 0 0 (gFree B)) (F0 m 31 ls []) := by
      intro k_4
      induction k_4 with
      | zero => intro k hm; exact absurd hm (Nat.not_lt_zero _)
      | succ k_4 ih_lp_31_n_5 =>
        intro k hm hk0 hk1 hkb H locs G ls hl
        refine g_iload_n C dX3_firstMeeting_31 rfl hl 3 rfl ?_
        refine g_iload_n C dX3_firstMeeting_32 rfl hl 2 rfl ?_
        refine g_icmp_ge (tgt := 59) C (by omega) (by omega) dX3_firstMeeting_33 (by decide) (fun c_6 => ?_) (fun c_6 => ?_)
        · refine g_bipush (a := (-9)) C dX3_firstMeeting_59 (by decide) ?_
          refine g_iret C G hr hlk (Nat.le_of_ble_eq_true rfl) (Nat.le_of_ble_eq_true rfl) dX3_firstMeeting_61 ?_
          exact ⟨rfl, Or.inr ⟨rfl, fun j j0 j1 q => hkb j j0 (by omega) q.2⟩⟩
        · refine g_aload_n C dX3_firstMeeting_36 rfl hl 0 rfl ?_
          refine g_iload_n C dX3_firstMeeting_37 rfl hl 3 rfl ?_
          refine g_i2l C (by omega) dX3_firstMeeting_38 ?_
          refine g_ci C G (g_runV (As := [.long (jz k)]) (rest := []) (pos := po) C G (c_X3_radiusAt l κ B n ad g po w sd ho st0 k (by omega) he (by omega) (by omega) (by omega)) (cwV 1 C.1.2.2.2.2 gX3_firstMeeting_X3_radiusAt rfl rfl rfl (by decide +kernel) ⟨Nat.le_of_ble_eq_true rfl, Nat.le_of_ble_eq_true rfl⟩) (by omega) he (T := TX3) (N := 4) rfl rfl hl rfl (Nat.le_of_ble_eq_true rfl) dX3_firstMeeting_39 ⟨Nat.le_of_ble_eq_true rfl, Nat.le_of_ble_eq_true rfl⟩) (fun z_7 g9 H locs hw G => ?_)
          obtain ⟨hg9, h_8⟩ := hw
          replace hg9 := hg9.symm
          subst hg9
          refine g_aload_n C dX3_firstMeeting_42 rfl hl 1 rfl ?_
          refine g_iload_n C dX3_firstMeeting_43 rfl hl 3 rfl ?_
          refine g_i2l C (by omega) dX3_firstMeeting_44 ?_
          refine g_ci C G (g_runV (As := [.long (jz k)]) (rest := [.int (iz z_7)]) (pos := pp) C G (c_X3_radiusAt l κ B n ad g pp w2 sd2 ho2 st2 k (by omega) he2 hok2 (by omega) (by omega)) (cwV 1 C.1.2.2.2.2 gX3_firstMeeting_X3_radiusAt rfl rfl rfl (by decide +kernel) ⟨Nat.le_of_ble_eq_true rfl, Nat.le_of_ble_eq_true rfl⟩) (by omega) he2 (T := TX3) (N := 4) rfl rfl hl rfl (Nat.le_of_ble_eq_true rfl) dX3_firstMeeting_45 ⟨Nat.le_of_ble_eq_true rfl, Nat.le_of_ble_eq_true rfl⟩) (fun z_9 g9 H locs hw G => ?_)
          obtain ⟨hg9, h_10⟩ := hw
          replace hg9 := hg9.symm
          subst hg9
          refine g_icmp_ne (tgt := 53) C (by omega) (by omega) dX3_firstMeeting_48 (by decide) (fun c_11 => ?_) (fun c_11 => ?_)
          · refine lv_iinc (v := iz (k + 1)) (lv' := [(3, .int (iz (k + 1))), (0, .ref (ad po)), (1, .ref (ad pp)), (2, .int (iz z_2))]) C.1.1 C.1.2.1 dX3_firstMeeting_53 hl (k := 3) rfl (g_inc (by omega)) (by decide) rfl (fun ls hl => ?_)
            refine g_goto (tgt := 31) C dX3_firstMeeting_56 (by decide) ?_
            exact ih_lp_31_n_5 (k + 1) (by omega) (by omega) (by omega) (fun j j0 j1 => by
                by_cases hj : j < k
                · exact hkb j j0 hj
                · rw [show j = k by omega, ← h_8.2.2, ← h_10.2.2]; omega) _ _ G _ (lv_sub hl [1, 2, 3, 0] rfl)
          · refine g_iload_n C dX3_firstMeeting_51 rfl hl 3 rfl ?_
            refine g_iret C G hr hlk (Nat.le_of_ble_eq_true rfl) (Nat.le_of_ble_eq_true rfl) dX3_firstMeeting_52 ?_
            exact ⟨rfl, Or.inl ⟨hk0, by omega, ⟨by omega, by rw [← h_8.2.2, ← h_10.2.2]; omega⟩, fun j j0 j1 q => hkb j j0 j1 q.2⟩⟩
    exact lp_31_n_5 _ 0 (Nat.lt_succ_self _) (by omega) (by omega) (fun j j0 j1 => absurd j1 (by omega)) _ _ G _ (lv_sub hl [2, 3, 1, 0] rfl)
  · refine g_bipush (a := (-9)) C dX3_firstMeeting_11 (by decide) ?_
    refine g_iret C G hr hlk (Nat.le_of_ble_eq_true rfl) (Nat.le_of_ble_eq_true rfl) dX3_firstMeeting_13 ?_
    exact ⟨rfl, Or.inr ⟨rfl, fun t _ _ q => absurd q.1 (by omega)⟩⟩
