/-! ROSETTEPLATEMODEL (X8): a layer less -/
def dpF (f : Int → Int) (li : Int) : Int → Int := fun i => if 4 * li + 1 ≤ i ∧ i < 21 then f (i + 4) else f i
theorem dp_step {V f : Int → Int} {li k : Int} (hk : 4 * li + 5 ≤ k) (h : ∀ i, V i = if 4 * li + 1 ≤ i ∧ i < k - 4 then f (i + 4) else f i) : ∀ i, vu V (k - 4) (V k) i = if 4 * li + 1 ≤ i ∧ i < k + 1 - 4 then f (i + 4) else f i := by
  intro i
  by_cases hi : i = k - 4
  · rw [hi, vu_self, h k, if_neg (by omega), if_pos (by omega), show k - 4 + 4 = k by omega]
  · rw [vu_ne hi, h i]
    by_cases h2 : 4 * li + 1 ≤ i ∧ i < k - 4
    · rw [if_pos h2, if_pos (by omega)]
    · rw [if_neg h2, if_neg (by omega)]
theorem dp_end {V f : Int → Int} {li k : Int} (hk : k = 25) (h : ∀ i, V i = if 4 * li + 1 ≤ i ∧ i < k - 4 then f (i + 4) else f i) : V = dpF f li := by
  subst hk
  exact funext h
theorem fX8_drop_35 : gFld wsX8_drop RX8 35 8 1 := ⟨RX8, TX8, 17, rfl, by decide, by decide +kernel, by decide +kernel⟩
theorem fwX8_drop_35 : gFldW wsX8_drop RX8 35 8 1 .int false := ⟨RX8, TX8, 17, tyX8, rfl, by decide, by decide +kernel, by decide +kernel, tyX8_ok, nmX8, rfl, by decide +kernel, by decide +kernel⟩
theorem fX8_drop_7 : gFld wsX8_drop RX8 7 8 0 := ⟨RX8, TX8, 17, rfl, by decide, by decide +kernel, by decide +kernel⟩
set_option maxHeartbeats 4000000 in
set_option maxRecDepth 100000 in
theorem c_X8_drop (l : Launch) (κ : gKap) (B n : Nat) (ad : Nat → Nat) (g : Nat → va_E) (ly : Int) (th : Int) (mk : Int) (tx : Int) (rl : Int) (a0 : Int) (wr : Int) (s0 : Int) (s1 : Int) (rm : Int) (f : Int → Int) (li : Int) (hn8 : 200 ≤ n) (hM : g 192 = oM ad ly th mk tx rl a0 wr s0 s1 rm) (hN : g 193 = aI κ 42 f) (hli : 0 ≤ li ∧ li < ly) (hly : ly ≤ 6) : Met l yX8_drop wsX8_drop ({ frames := 0, cells := 0, slots := 0, locals := 0 }) (gPre κ B n ad g [.ref (ad 192), .int (iz li)]) (gQi κ B n ad (fun z g' => z = ly - 1 ∧ g' 192 = oM ad (ly - 1) th mk tx rl a0 wr s0 s1 rm ∧ g' 193 = aI κ 42 (dpF f li) ∧ ∀ q, q ≠ 192 → q ≠ 193 → g' q = g q)) 0 0 (gFree B) := by
  refine g_met RX8 (cc := cX8_drop) (maxL := 3) (ret := (some .int)) (by decide) rfl rfl (Nat.le_of_ble_eq_true rfl) ?_
  intro p e s m args below meth c C hr hlk hnm G ls hl
  have hl : lv_has ls 3 [(0, .ref (ad 192)), (1, .int (iz li))] := hl
  refine g_iconst (a := 4) C dX8_drop_0 rfl ?_
  refine g_iload_n C dX8_drop_1 rfl hl 1 rfl ?_
  refine g_imul C dX8_drop_2 ?_
  refine g_iconst (a := 5) C dX8_drop_3 rfl ?_
  refine g_iadd C dX8_drop_4 ?_
  refine lv_istore_n (lv' := [(2, .int (iz ((4 * li) + 5))), (0, .ref (ad 192)), (1, .int (iz li))]) C.1.1 C.1.2.1 dX8_drop_5 rfl hl (by decide) rfl (fun ls hl => ?_)
  have lp_6_n_2 : ∀ (k_1 : Nat) (k : Int) (V : Int → Int) (gv : Nat → va_E), (25 - k).toNat < k_1 → (4 * li + 5 ≤ k ∧ k ≤ 25) → (gv = va_up g 193 (aI κ 42 V)) → (∀ i, V i = if 4 * li + 1 ≤ i ∧ i < k - 4 then f (i + 4) else f i) → ∀ (H : Heap) (locs : List Loc), gG κ B n ad s gv H locs → ∀ (ls : Array Slot), lv_has ls 3 [(0, .ref (ad 192)), (1, .int (iz li)), (2, .int (iz k))] → W p l e ({ frames := 0, cells := 0, slots := 0, locals := 0 }) s m args below meth c H locs 0 0 (MQ below (gQi κ B n ad (fun z g' => z = ly - 1 ∧ g' 192 = oM ad (ly - 1) th mk tx rl a0 wr s0 s1 rm ∧ g' 193 = aI κ 42 (dpF f li) ∧ ∀ q, q ≠ 192 → q ≠ 193 → g' q = g q)) args s 0 0 (gFree B)) (F0 m 6 ls []) := by
    intro k_1
    induction k_1 with
    | zero => intro k V gv hm; exact absurd hm (Nat.not_lt_zero _)
    | succ k_1 ih_lp_6_n_2 =>
      intro k V gv hm hk hgv hV H locs G ls hl
      have hm9 : gv 192 = g 192 := by rw [hgv]; exact gu_ne (by decide)
      have hn9 : gv 193 = aI κ 42 V := by rw [hgv]; exact gu_self _ _ _
      refine g_iload_n C dX8_drop_6 rfl hl 2 rfl ?_
      refine g_bipush (a := 25) C dX8_drop_7 (by decide) ?_
      refine g_icmp_ge (tgt := 32) C (by omega) (by decide) dX8_drop_9 (by decide) (fun c_3 => ?_) (fun c_3 => ?_)
      · refine g_aload_n C dX8_drop_32 rfl hl 0 rfl ?_
        refine lv_dup C.1.1 C.1.2.1 dX8_drop_33 rfl ?_
        refine g_get C G (pos := 192) fX8_drop_35 (by omega) (hm9.trans hM) rfl dX8_drop_34 ?_
        refine g_iconst (a := 1) C dX8_drop_37 rfl ?_
        refine g_isub C dX8_drop_38 ?_
        refine g_put C G (pos := 192) (fs' := [.ref (ad 193), .int (iz (ly - 1)), .int (iz th), .ref (ad 194), .int (iz mk), .ref (ad 195), .int (iz tx), .ref (ad 196), .int (iz rl), .int (iz a0), .int (iz wr), .int (iz s0), .int (iz s1), .ref (ad 197), .int (iz rm), .ref (ad 198), .ref (ad 199)]) fwX8_drop_35 (by omega) (hm9.trans hM) (Nat.le_of_ble_eq_true rfl) rfl rfl rfl dX8_drop_39 (fun H locs G => ?_)
        obtain ⟨g_4, hg_5⟩ : ∃ g9, g9 = va_up gv 192 (.inr (8, [.ref (ad 193), .int (iz (ly - 1)), .int (iz th), .ref (ad 194), .int (iz mk), .ref (ad 195), .int (iz tx), .ref (ad 196), .int (iz rl), .int (iz a0), .int (iz wr), .int (iz s0), .int (iz s1), .ref (ad 197), .int (iz rm), .ref (ad 198), .ref (ad 199)])) := ⟨_, rfl⟩
        rw [← hg_5] at G
        have hc_6 : g_4 192 = .inr (8, [.ref (ad 193), .int (iz (ly - 1)), .int (iz th), .ref (ad 194), .int (iz mk), .ref (ad 195), .int (iz tx), .ref (ad 196), .int (iz rl), .int (iz a0), .int (iz wr), .int (iz s0), .int (iz s1), .ref (ad 197), .int (iz rm), .ref (ad 198), .ref (ad 199)]) := by rw [hg_5]; exact gu_self _ _ _
        have hc_7 : g_4 193 = aI κ 42 V := by rw [hg_5, gu_ne (by decide)]; exact hn9
        refine g_aload_n C dX8_drop_42 rfl hl 0 rfl ?_
        refine g_get C G (pos := 192) fX8_drop_35 (by omega) hc_6 rfl dX8_drop_43 ?_
        refine g_iret C G hr hlk (Nat.le_of_ble_eq_true rfl) (Nat.le_of_ble_eq_true rfl) dX8_drop_46 ?_
        exact ⟨rfl, hc_6, by rw [hc_7, show V = dpF f li from dp_end (by omega) hV], fun q q1 q2 => by rw [hg_5, gu_ne (by omega), hgv, gu_ne (by omega)]⟩
      · refine g_aload_n C dX8_drop_12 rfl hl 0 rfl ?_
        refine g_get C G (pos := 192) fX8_drop_7 (by omega) (hm9.trans hM) rfl dX8_drop_13 ?_
        refine g_iload_n C dX8_drop_16 rfl hl 2 rfl ?_
        refine g_iconst (a := 4) C dX8_drop_17 rfl ?_
        refine g_isub C dX8_drop_18 ?_
        refine g_aload_n C dX8_drop_19 rfl hl 0 rfl ?_
        refine g_get C G (pos := 192) fX8_drop_7 (by omega) (hm9.trans hM) rfl dX8_drop_20 ?_
        refine g_iload_n C dX8_drop_23 rfl hl 2 rfl ?_
        refine g_iaload C G (pos := 193) (by omega) hn9 (by omega) (by omega) (by omega) dX8_drop_24 ?_
        refine g_iastore C G (pos := 193) (by omega) hn9 (by omega) (by omega) (by omega) dX8_drop_25 (fun H locs G => ?_)
        obtain ⟨g_8, hg_9⟩ : ∃ g9, g9 = va_up gv 193 (aI κ 42 (vu V (k - 4) (V k))) := ⟨_, rfl⟩
        rw [← hg_9] at G
        have hc_10 : g_8 192 = .inr (8, [.ref (ad 193), .int (iz ly), .int (iz th), .ref (ad 194), .int (iz mk), .ref (ad 195), .int (iz tx), .ref (ad 196), .int (iz rl), .int (iz a0), .int (iz wr), .int (iz s0), .int (iz s1), .ref (ad 197), .int (iz rm), .ref (ad 198), .ref (ad 199)]) := by rw [hg_9, gu_ne (by decide)]; exact (hm9.trans hM)
        have hc_11 : g_8 193 = aI κ 42 (vu V (k - 4) (V k)) := by rw [hg_9]; exact gu_self _ _ _
        refine lv_iinc (v := iz (k + 1)) (lv' := [(2, .int (iz (k + 1))), (0, .ref (ad 192)), (1, .int (iz li))]) C.1.1 C.1.2.1 dX8_drop_26 hl (k := 2) rfl (g_inc (by omega)) (by decide) rfl (fun ls hl => ?_)
        refine g_goto (tgt := 6) C dX8_drop_29 (by decide) ?_
        exact ih_lp_6_n_2 (k + 1) (vu V (k - 4) (V k)) g_8 (by omega) (by omega) (by rw [hg_9, hgv, gu_up]) (dp_step hk.1 hV) _ _ G _ (lv_sub hl [1, 2, 0] rfl)
  exact lp_6_n_2 _ (4 * li + 5) f g (Nat.lt_succ_self _) (by omega) (by funext q; by_cases hq : q = 193 <;> simp [va_up, hq, hN]) (fun i => by rw [if_neg (by omega)]) _ _ G _ (lv_sub hl [1, 2, 0] rfl)
