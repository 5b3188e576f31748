/-! ROSETTEPLATEMODEL (X8): remember -/
def shF (pa : Int → Int) : Int → Int := fun i => if 0 ≤ i ∧ i < 559 then pa (i + 43) else pa i
def rmF (pa : Int → Int) (rm ly : Int) (f : Int → Int) : Int → Int := if rm < 14 then stF pa (43 * rm) ly f else stF (shF pa) 559 ly f
theorem sh_stepM {V pa : Int → Int} {k : Int} (hk : 43 ≤ k) (h : ∀ i, V i = if 0 ≤ i ∧ i < k - 43 then pa (i + 43) else pa i) : ∀ i, vu V (k - 43) (V k) i = if 0 ≤ i ∧ i < k + 1 - 43 then pa (i + 43) else pa i := by
  intro i
  by_cases hi : i = k - 43
  · rw [hi, vu_self, h k, if_neg (by omega), if_pos (by omega), show k - 43 + 43 = k by omega]
  · rw [vu_ne hi, h i]
    by_cases h2 : 0 ≤ i ∧ i < k - 43
    · rw [if_pos h2, if_pos (by omega)]
    · rw [if_neg h2, if_neg (by omega)]
theorem sh_endM {V pa : Int → Int} {k : Int} (hk : k = 602) (h : ∀ i, V i = if 0 ≤ i ∧ i < k - 43 then pa (i + 43) else pa i) : V = shF pa := by
  subst hk
  exact funext h
theorem fX8_remember_111 : gFld wsX8_remember RX8 111 8 14 := ⟨RX8, TX8, 17, rfl, by decide, by decide +kernel, by decide +kernel⟩
theorem fX8_remember_22 : gFld wsX8_remember RX8 22 8 13 := ⟨RX8, TX8, 17, rfl, by decide, by decide +kernel, by decide +kernel⟩
theorem fwX8_remember_111 : gFldW wsX8_remember RX8 111 8 14 .int false := ⟨RX8, TX8, 17, tyX8, rfl, by decide, by decide +kernel, by decide +kernel, tyX8_ok, nmX8, rfl, by decide +kernel, by decide +kernel⟩
set_option maxHeartbeats 4000000 in
set_option maxRecDepth 100000 in
theorem c_X8_remember (l : Launch) (κ : gKap) (B n : Nat) (ad : Nat → Nat) (g : Nat → va_E) (ly : Int) (th : Int) (mk : Int) (tx : Int) (rl : Int) (a0 : Int) (wr : Int) (s0 : Int) (s1 : Int) (rm : Int) (f : Int → Int) (pa : Int → Int) (hn8 : 200 ≤ n) (hM : g 192 = oM ad ly th mk tx rl a0 wr s0 s1 rm) (hN : g 193 = aI κ 42 f) (hPa : g 197 = aI κ 602 pa) (hrm : 0 ≤ rm ∧ rm ≤ 14) : Met l yX8_remember wsX8_remember ({ frames := 1, cells := 0, slots := 0, locals := 23 }) (gPre κ B n ad g [.ref (ad 192)]) (gQv κ B n ad (fun g' => g' 192 = oM ad ly th mk tx rl a0 wr s0 s1 (remC rm) ∧ g' 197 = aI κ 602 (rmF pa rm ly f) ∧ ∀ q, q ≠ 192 → q ≠ 197 → g' q = g q)) 0 0 (gFree B) := by
  refine g_met RX8 (cc := cX8_remember) (maxL := 2) (ret := none) (by decide) rfl rfl (Nat.le_of_ble_eq_true rfl) ?_
  intro p e s m args below meth c C hr hlk hnm G ls hl
  have hl : lv_has ls 2 [(0, .ref (ad 192))] := hl
  refine g_aload_n C dX8_remember_0 rfl hl 0 rfl ?_
  refine g_get C G (pos := 192) fX8_remember_111 (by omega) hM rfl dX8_remember_1 ?_
  refine g_bipush (a := 14) C dX8_remember_4 (by decide) ?_
  refine g_icmp_ne (tgt := 50) C (by omega) (by decide) dX8_remember_6 (by decide) (fun c_1 => ?_) (fun c_1 => ?_)
  · refine g_aload_n C dX8_remember_50 rfl hl 0 rfl ?_
    refine g_aload_n C dX8_remember_51 rfl hl 0 rfl ?_
    refine g_get C G (pos := 192) fX8_remember_22 (by omega) hM rfl dX8_remember_52 ?_
    refine g_bipush (a := 43) C dX8_remember_55 (by decide) ?_
    refine g_aload_n C dX8_remember_57 rfl hl 0 rfl ?_
    refine g_get C G (pos := 192) fX8_remember_111 (by omega) hM rfl dX8_remember_58 ?_
    refine g_imul C dX8_remember_61 ?_
    refine g_cv C G (g_runV (As := [.ref (ad 197), .int (iz (43 * rm))]) (rest := []) (pos := 192) C G (c_X8_store l κ B n ad g ly th mk tx rl a0 wr s0 s1 rm f 197 602 pa (43 * rm) hn8 hM hN (by omega) hPa (by omega)) (cwV 2 C.1.2.2.2.2 gX8_remember_X8_store rfl rfl rfl (by decide +kernel) ⟨Nat.le_of_ble_eq_true rfl, Nat.le_of_ble_eq_true rfl⟩) (by omega) hM (T := TX8) (N := 17) rfl rfl hl rfl (Nat.le_of_ble_eq_true rfl) dX8_remember_62 ⟨Nat.le_of_ble_eq_true rfl, Nat.le_of_ble_eq_true rfl⟩) (fun g9 H locs hw G => ?_)
    subst hw
    obtain ⟨g_2, hg_3⟩ : ∃ g9, g9 = va_up g 197 (aI κ 602 (stF pa (43 * rm) ly f)) := ⟨_, rfl⟩
    rw [← hg_3] at G
    have hc_4 : g_2 192 = .inr (8, [.ref (ad 193), .int (iz ly), .int (iz th), .ref (ad 194), .int (iz mk), .ref (ad 195), .int (iz tx), .ref (ad 196), .int (iz rl), .int (iz a0), .int (iz wr), .int (iz s0), .int (iz s1), .ref (ad 197), .int (iz rm), .ref (ad 198), .ref (ad 199)]) := by rw [hg_3, gu_ne (by decide)]; exact hM
    have hc_5 : g_2 193 = aI κ 42 f := by rw [hg_3, gu_ne (by decide)]; exact hN
    have hc_6 : g_2 197 = aI κ 602 (stF pa (43 * rm) ly f) := by rw [hg_3]; exact gu_self _ _ _
    refine g_aload_n C dX8_remember_65 rfl hl 0 rfl ?_
    refine lv_dup C.1.1 C.1.2.1 dX8_remember_66 rfl ?_
    refine g_get C G (pos := 192) fX8_remember_111 (by omega) hc_4 rfl dX8_remember_67 ?_
    refine g_iconst (a := 1) C dX8_remember_70 rfl ?_
    refine g_iadd C dX8_remember_71 ?_
    refine g_put C G (pos := 192) (fs' := [.ref (ad 193), .int (iz ly), .int (iz th), .ref (ad 194), .int (iz mk), .ref (ad 195), .int (iz tx), .ref (ad 196), .int (iz rl), .int (iz a0), .int (iz wr), .int (iz s0), .int (iz s1), .ref (ad 197), .int (iz (rm + 1)), .ref (ad 198), .ref (ad 199)]) fwX8_remember_111 (by omega) hc_4 (Nat.le_of_ble_eq_true rfl) rfl rfl rfl dX8_remember_72 (fun H locs G => ?_)
    obtain ⟨g_7, hg_8⟩ : ∃ g9, g9 = va_up g_2 192 (.inr (8, [.ref (ad 193), .int (iz ly), .int (iz th), .ref (ad 194), .int (iz mk), .ref (ad 195), .int (iz tx), .ref (ad 196), .int (iz rl), .int (iz a0), .int (iz wr), .int (iz s0), .int (iz s1), .ref (ad 197), .int (iz (rm + 1)), .ref (ad 198), .ref (ad 199)])) := ⟨_, rfl⟩
    rw [← hg_8] at G
    have hc_9 : g_7 192 = .inr (8, [.ref (ad 193), .int (iz ly), .int (iz th), .ref (ad 194), .int (iz mk), .ref (ad 195), .int (iz tx), .ref (ad 196), .int (iz rl), .int (iz a0), .int (iz wr), .int (iz s0), .int (iz s1), .ref (ad 197), .int (iz (rm + 1)), .ref (ad 198), .ref (ad 199)]) := by rw [hg_8]; exact gu_self _ _ _
    have hc_10 : g_7 193 = aI κ 42 f := by rw [hg_8, gu_ne (by decide)]; exact hc_5
    have hc_11 : g_7 197 = aI κ 602 (stF pa (43 * rm) ly f) := by rw [hg_8, gu_ne (by decide)]; exact hc_6
    refine g_vret C G hr hlk (Nat.le_of_ble_eq_true rfl) (Nat.le_of_ble_eq_true rfl) dX8_remember_75 ?_
    have hr9 : rm < 14 := by omega
    refine ⟨?_, ?_, fun q q1 q2 => by rw [hg_8, gu_ne (by omega), hg_3, gu_ne (by omega)]⟩
    · unfold remC; rw [if_pos hr9]; exact hc_9
    · unfold rmF; rw [if_pos hr9]; exact hc_11
  · refine g_bipush (a := 43) C dX8_remember_9 (by decide) ?_
    refine lv_istore_n (lv' := [(1, .int (iz 43)), (0, .ref (ad 192))]) C.1.1 C.1.2.1 dX8_remember_11 rfl hl (by decide) rfl (fun ls hl => ?_)
    have lp_12_n_13 : ∀ (k_12 : Nat) (k : Int) (V : Int → Int) (gv : Nat → va_E), (602 - k).toNat < k_12 → (43 ≤ k ∧ k ≤ 602) → (gv = va_up g 197 (aI κ 602 V)) → (∀ i, V i = if 0 ≤ i ∧ i < k - 43 then pa (i + 43) else pa i) → ∀ (H : Heap) (locs : List Loc), gG κ B n ad s gv H locs → ∀ (ls : Array Slot), lv_has ls 2 [(0, .ref (ad 192)), (1, .int (iz k))] → W p l e ({ frames := 1, cells := 0, slots := 0, locals := 23 }) s m args below meth c H locs 0 0 (MQ below (gQv κ B n ad (fun g' => g' 192 = oM ad ly th mk tx rl a0 wr s0 s1 (remC rm) ∧ g' 197 = aI κ 602 (rmF pa rm ly f) ∧ ∀ q, q ≠ 192 → q ≠ 197 → g' q = g q)) args s 0 0 (gFree B)) (F0 m 12 ls []) := by
      intro k_12
      induction k_12 with
      | zero => intro k V gv hm; exact absurd hm (Nat.not_lt_zero _)
      | succ k_12 ih_lp_12_n_13 =>
        intro k V gv hm hk hgv hV H locs G ls hl
        have hm9 : gv 192 = g 192 := by rw [hgv]; exact gu_ne (by decide)
        have hn9 : gv 193 = g 193 := by rw [hgv]; exact gu_ne (by decide)
        have hp9 : gv 197 = aI κ 602 V := by rw [hgv]; exact gu_self _ _ _
        refine g_iload_n C dX8_remember_12 rfl hl 1 rfl ?_
        refine g_sipush (a := 602) C dX8_remember_13 (by decide) ?_
        refine g_icmp_ge (tgt := 40) C (by omega) (by decide) dX8_remember_16 (by decide) (fun c_14 => ?_) (fun c_14 => ?_)
        · refine g_aload_n C dX8_remember_40 rfl hl 0 rfl ?_
          refine lv_dup C.1.1 C.1.2.1 dX8_remember_41 rfl ?_
          refine g_get C G (pos := 192) fX8_remember_111 (by omega) (hm9.trans hM) rfl dX8_remember_42 ?_
          refine g_iconst (a := 1) C dX8_remember_45 rfl ?_
          refine g_isub C dX8_remember_46 ?_
          refine g_put C G (pos := 192) (fs' := [.ref (ad 193), .int (iz ly), .int (iz th), .ref (ad 194), .int (iz mk), .ref (ad 195), .int (iz tx), .ref (ad 196), .int (iz rl), .int (iz a0), .int (iz wr), .int (iz s0), .int (iz s1), .ref (ad 197), .int (iz (rm - 1)), .ref (ad 198), .ref (ad 199)]) fwX8_remember_111 (by omega) (hm9.trans hM) (Nat.le_of_ble_eq_true rfl) rfl rfl rfl dX8_remember_47 (fun H locs G => ?_)
          obtain ⟨g_15, hg_16⟩ : ∃ g9, g9 = va_up gv 192 (.inr (8, [.ref (ad 193), .int (iz ly), .int (iz th), .ref (ad 194), .int (iz mk), .ref (ad 195), .int (iz tx), .ref (ad 196), .int (iz rl), .int (iz a0), .int (iz wr), .int (iz s0), .int (iz s1), .ref (ad 197), .int (iz (rm - 1)), .ref (ad 198), .ref (ad 199)])) := ⟨_, rfl⟩
          rw [← hg_16] at G
          have hc_17 : g_15 192 = .inr (8, [.ref (ad 193), .int (iz ly), .int (iz th), .ref (ad 194), .int (iz mk), .ref (ad 195), .int (iz tx), .ref (ad 196), .int (iz rl), .int (iz a0), .int (iz wr), .int (iz s0), .int (iz s1), .ref (ad 197), .int (iz (rm - 1)), .ref (ad 198), .ref (ad 199)]) := by rw [hg_16]; exact gu_self _ _ _
          have hc_18 : g_15 193 = aI κ 42 f := by rw [hg_16, gu_ne (by decide)]; exact (hn9.trans hN)
          have hc_19 : g_15 197 = aI κ 602 V := by rw [hg_16, gu_ne (by decide)]; exact hp9
          refine g_aload_n C dX8_remember_50 rfl hl 0 rfl ?_
          refine g_aload_n C dX8_remember_51 rfl hl 0 rfl ?_
          refine g_get C G (pos := 192) fX8_remember_22 (by omega) hc_17 rfl dX8_remember_52 ?_
          refine g_bipush (a := 43) C dX8_remember_55 (by decide) ?_
          refine g_aload_n C dX8_remember_57 rfl hl 0 rfl ?_
          refine g_get C G (pos := 192) fX8_remember_111 (by omega) hc_17 rfl dX8_remember_58 ?_
          refine g_imul C dX8_remember_61 ?_
          rw [show (43 * (rm - 1) : Int) = 559 from (by omega)]
          refine g_cv C G (g_runV (As := [.ref (ad 197), .int (iz 559)]) (rest := []) (pos := 192) C G (c_X8_store l κ B n ad g_15 ly th mk tx rl a0 wr s0 s1 (rm - 1) f 197 602 V 559 hn8 hc_17 hc_18 (by omega) hc_19 (by omega)) (cwV 2 C.1.2.2.2.2 gX8_remember_X8_store rfl rfl rfl (by decide +kernel) ⟨Nat.le_of_ble_eq_true rfl, Nat.le_of_ble_eq_true rfl⟩) (by omega) hc_17 (T := TX8) (N := 17) rfl rfl hl rfl (Nat.le_of_ble_eq_true rfl) dX8_remember_62 ⟨Nat.le_of_ble_eq_true rfl, Nat.le_of_ble_eq_true rfl⟩) (fun g9 H locs hw G => ?_)
          subst hw
          obtain ⟨g_20, hg_21⟩ : ∃ g9, g9 = va_up g_15 197 (aI κ 602 (stF V 559 ly f)) := ⟨_, rfl⟩
          rw [← hg_21] at G
          have hc_22 : g_20 192 = .inr (8, [.ref (ad 193), .int (iz ly), .int (iz th), .ref (ad 194), .int (iz mk), .ref (ad 195), .int (iz tx), .ref (ad 196), .int (iz rl), .int (iz a0), .int (iz wr), .int (iz s0), .int (iz s1), .ref (ad 197), .int (iz (rm - 1)), .ref (ad 198), .ref (ad 199)]) := by rw [hg_21, gu_ne (by decide)]; exact hc_17
          have hc_23 : g_20 193 = aI κ 42 f := by rw [hg_21, gu_ne (by decide)]; exact hc_18
          have hc_24 : g_20 197 = aI κ 602 (stF V 559 ly f) := by rw [hg_21]; exact gu_self _ _ _
          refine g_aload_n C dX8_remember_65 rfl hl 0 rfl ?_
          refine lv_dup C.1.1 C.1.2.1 dX8_remember_66 rfl ?_
          refine g_get C G (pos := 192) fX8_remember_111 (by omega) hc_22 rfl dX8_remember_67 ?_
          refine g_iconst (a := 1) C dX8_remember_70 rfl ?_
          refine g_iadd C dX8_remember_71 ?_
          refine g_put C G (pos := 192) (fs' := [.ref (ad 193), .int (iz ly), .int (iz th), .ref (ad 194), .int (iz mk), .ref (ad 195), .int (iz tx), .ref (ad 196), .int (iz rl), .int (iz a0), .int (iz wr), .int (iz s0), .int (iz s1), .ref (ad 197), .int (iz ((rm - 1) + 1)), .ref (ad 198), .ref (ad 199)]) fwX8_remember_111 (by omega) hc_22 (Nat.le_of_ble_eq_true rfl) rfl rfl rfl dX8_remember_72 (fun H locs G => ?_)
          obtain ⟨g_25, hg_26⟩ : ∃ g9, g9 = va_up g_20 192 (.inr (8, [.ref (ad 193), .int (iz ly), .int (iz th), .ref (ad 194), .int (iz mk), .ref (ad 195), .int (iz tx), .ref (ad 196), .int (iz rl), .int (iz a0), .int (iz wr), .int (iz s0), .int (iz s1), .ref (ad 197), .int (iz ((rm - 1) + 1)), .ref (ad 198), .ref (ad 199)])) := ⟨_, rfl⟩
          rw [← hg_26] at G
          have hc_27 : g_25 192 = .inr (8, [.ref (ad 193), .int (iz ly), .int (iz th), .ref (ad 194), .int (iz mk), .ref (ad 195), .int (iz tx), .ref (ad 196), .int (iz rl), .int (iz a0), .int (iz wr), .int (iz s0), .int (iz s1), .ref (ad 197), .int (iz ((rm - 1) + 1)), .ref (ad 198), .ref (ad 199)]) := by rw [hg_26]; exact gu_self _ _ _
          have hc_28 : g_25 193 = aI κ 42 f := by rw [hg_26, gu_ne (by decide)]; exact hc_23
          have hc_29 : g_25 197 = aI κ 602 (stF V 559 ly f) := by rw [hg_26, gu_ne (by decide)]; exact hc_24
          refine g_vret C G hr hlk (Nat.le_of_ble_eq_true rfl) (Nat.le_of_ble_eq_true rfl) dX8_remember_75 ?_
          have hVe : V = shF pa := sh_endM (by omega) hV
          rw [hVe] at hc_29
          have hr9 : rm = 14 := by omega
          subst hr9
          exact ⟨hc_27, hc_29, fun q q1 q2 => by rw [hg_26, gu_ne (by omega), hg_21, gu_ne (by omega), hg_16, gu_ne (by omega), hgv, gu_ne (by omega)]⟩
        · refine g_aload_n C dX8_remember_19 rfl hl 0 rfl ?_
          refine g_get C G (pos := 192) fX8_remember_22 (by omega) (hm9.trans hM) rfl dX8_remember_20 ?_
          refine g_iload_n C dX8_remember_23 rfl hl 1 rfl ?_
          refine g_bipush (a := 43) C dX8_remember_24 (by decide) ?_
          refine g_isub C dX8_remember_26 ?_
          refine g_aload_n C dX8_remember_27 rfl hl 0 rfl ?_
          refine g_get C G (pos := 192) fX8_remember_22 (by omega) (hm9.trans hM) rfl dX8_remember_28 ?_
          refine g_iload_n C dX8_remember_31 rfl hl 1 rfl ?_
          refine g_iaload C G (pos := 197) (by omega) hp9 (by omega) (by omega) (by omega) dX8_remember_32 ?_
          refine g_iastore C G (pos := 197) (by omega) hp9 (by omega) (by omega) (by omega) dX8_remember_33 (fun H locs G => ?_)
          obtain ⟨g_30, hg_31⟩ : ∃ g9, g9 = va_up gv 197 (aI κ 602 (vu V (k - 43) (V k))) := ⟨_, rfl⟩
          rw [← hg_31] at G
          have hc_32 : g_30 192 = .inr (8, [.ref (ad 193), .int (iz ly), .int (iz th), .ref (ad 194), .int (iz mk), .ref (ad 195), .int (iz tx), .ref (ad 196), .int (iz rl), .int (iz a0), .int (iz wr), .int (iz s0), .int (iz s1), .ref (ad 197), .int (iz rm), .ref (ad 198), .ref (ad 199)]) := by rw [hg_31, gu_ne (by decide)]; exact (hm9.trans hM)
          have hc_33 : g_30 193 = aI κ 42 f := by rw [hg_31, gu_ne (by decide)]; exact (hn9.trans hN)
          have hc_34 : g_30 197 = aI κ 602 (vu V (k - 43) (V k)) := by rw [hg_31]; exact gu_self _ _ _
          refine lv_iinc (v := iz (k + 1)) (lv' := [(1, .int (iz (k + 1))), (0, .ref (ad 192))]) C.1.1 C.1.2.1 dX8_remember_34 hl (k := 1) rfl (g_inc (by omega)) (by decide) rfl (fun ls hl => ?_)
          refine g_goto (tgt := 12) C dX8_remember_37 (by decide) ?_
          exact ih_lp_12_n_13 (k + 1) (vu V (k - 43) (V k)) g_30 (by omega) (by omega) (by rw [hg_31, hgv, gu_up]) (sh_stepM hk.1 hV) _ _ G _ (lv_sub hl [1, 0] rfl)
    exact lp_12_n_13 _ 43 pa g (Nat.lt_succ_self _) (by omega) (by funext q; by_cases hq : q = 197 <;> simp [va_up, hq, hPa]) (fun i => by rw [if_neg (by omega)]) _ _ G _ (lv_sub hl [1, 0] rfl)
