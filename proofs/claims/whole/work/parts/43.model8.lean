/-! ROSETTEPLATEMODEL (X8): states kept and brought back -/
def stF (rw9 : Int → Int) (fr ly : Int) (f : Int → Int) : Int → Int := fun i => if i = fr then ly else if fr + 1 ≤ i ∧ i < fr + 43 then f (i - fr - 1) else rw9 i
def brF (rw9 : Int → Int) (fr : Int) (f : Int → Int) : Int → Int := fun i => if 0 ≤ i ∧ i < 42 then rw9 (fr + 1 + i) else f i
theorem st_step {V rw9 f : Int → Int} {fr ly k : Int} (hk : 0 ≤ k) (h : ∀ i, V i = if i = fr then ly else if fr + 1 ≤ i ∧ i < fr + 1 + k then f (i - fr - 1) else rw9 i) : ∀ i, vu V (fr + 1 + k) (f k) i = if i = fr then ly else if fr + 1 ≤ i ∧ i < fr + 1 + (k + 1) then f (i - fr - 1) else rw9 i := by
  intro i
  by_cases hi : i = fr + 1 + k
  · rw [hi, vu_self, if_neg (by omega), if_pos (by omega), show fr + 1 + k - fr - 1 = k by omega]
  · rw [vu_ne hi, h i]
    by_cases h1 : i = fr
    · rw [if_pos h1, if_pos h1]
    · rw [if_neg h1, if_neg h1]
      by_cases h2 : fr + 1 ≤ i ∧ i < fr + 1 + k
      · rw [if_pos h2, if_pos (by omega)]
      · rw [if_neg h2, if_neg (by omega)]
theorem st_end {V rw9 f : Int → Int} {fr ly k : Int} (hk : k = 42) (h : ∀ i, V i = if i = fr then ly else if fr + 1 ≤ i ∧ i < fr + 1 + k then f (i - fr - 1) else rw9 i) : V = stF rw9 fr ly f := by
  subst hk
  funext i
  rw [h i]
  unfold stF
  rw [show fr + 1 + 42 = fr + 43 by omega]
theorem br_step {V rw9 f : Int → Int} {fr k : Int} (hk : 0 ≤ k) (h : ∀ i, V i = if 0 ≤ i ∧ i < k then rw9 (fr + 1 + i) else f i) : ∀ i, vu V k (rw9 (fr + 1 + k)) i = if 0 ≤ i ∧ i < k + 1 then rw9 (fr + 1 + i) else f i := by
  intro i
  by_cases hi : i = k
  · rw [hi, vu_self, if_pos (by omega)]
  · rw [vu_ne hi, h i]
    by_cases h2 : 0 ≤ i ∧ i < k
    · rw [if_pos h2, if_pos (by omega)]
    · rw [if_neg h2, if_neg (by omega)]
theorem br_end {V rw9 f : Int → Int} {fr k : Int} (hk : k = 42) (h : ∀ i, V i = if 0 ≤ i ∧ i < k then rw9 (fr + 1 + i) else f i) : V = brF rw9 fr f := by
  subst hk
  exact funext h
theorem fX8_store_35 : gFld wsX8_store RX8 35 8 1 := ⟨RX8, TX8, 17, rfl, by decide, by decide +kernel, by decide +kernel⟩
theorem fX8_store_7 : gFld wsX8_store RX8 7 8 0 := ⟨RX8, TX8, 17, rfl, by decide, by decide +kernel, by decide +kernel⟩
set_option maxHeartbeats 4000000 in
set_option maxRecDepth 100000 in
theorem c_X8_store (l : Launch) (κ : gKap) (B n : Nat) (ad : Nat → Nat) (g : Nat → va_E) (ly : Int) (th : Int) (mk : Int) (tx : Int) (rl : Int) (a0 : Int) (wr : Int) (s0 : Int) (s1 : Int) (rm : Int) (f : Int → Int) (rp : Nat) (ln : Nat) (rw9 : Int → Int) (fr : Int) (hn8 : 200 ≤ n) (hM : g 192 = oM ad ly th mk tx rl a0 wr s0 s1 rm) (hN : g 193 = aI κ 42 f) (hrp : 193 < rp ∧ rp < 200) (hrw : g rp = aI κ ln rw9) (hfr : 0 ≤ fr ∧ fr + 43 ≤ (ln : Int) ∧ ln ≤ 100000) : Met l yX8_store wsX8_store ({ frames := 0, cells := 0, slots := 0, locals := 0 }) (gPre κ B n ad g [.ref (ad 192), .ref (ad rp), .int (iz fr)]) (gQv κ B n ad (fun g' => g' = va_up g rp (aI κ ln (stF rw9 fr ly f)))) 0 0 (gFree B) := by
  refine g_met RX8 (cc := cX8_store) (maxL := 4) (ret := none) (by decide) rfl rfl (Nat.le_of_ble_eq_true rfl) ?_
  intro p e s m args below meth c C hr hlk hnm G ls hl
  have hl : lv_has ls 4 [(0, .ref (ad 192)), (1, .ref (ad rp)), (2, .int (iz fr))] := hl
  refine g_aload_n C dX8_store_0 rfl hl 1 rfl ?_
  refine g_iload_n C dX8_store_1 rfl hl 2 rfl ?_
  refine g_aload_n C dX8_store_2 rfl hl 0 rfl ?_
  refine g_get C G (pos := 192) fX8_store_35 (by omega) hM rfl dX8_store_3 ?_
  refine g_iastore C G (pos := rp) (by omega) hrw (by omega) (by omega) (by omega) dX8_store_6 (fun H locs G => ?_)
  obtain ⟨g_1, hg_2⟩ : ∃ g9, g9 = va_up g rp (aI κ ln (vu rw9 fr ly)) := ⟨_, rfl⟩
  rw [← hg_2] at G
  have hc_3 : g_1 192 = .inr (8, [.ref (ad 193), .int (iz ly), .int (iz th), .ref (ad 194), .int (iz mk), .ref (ad 195), .int (iz tx), .ref (ad 196), .int (iz rl), .int (iz a0), .int (iz wr), .int (iz s0), .int (iz s1), .ref (ad 197), .int (iz rm), .ref (ad 198), .ref (ad 199)]) := by rw [hg_2, gu_ne (by omega)]; exact hM
  have hc_4 : g_1 193 = aI κ 42 f := by rw [hg_2, gu_ne (by omega)]; exact hN
  have hc_5 : g_1 rp = aI κ ln (vu rw9 fr ly) := by rw [hg_2]; exact gu_self _ _ _
  refine g_iconst (a := 0) C dX8_store_7 rfl ?_
  refine lv_istore_n (lv' := [(3, .int (iz 0)), (0, .ref (ad 192)), (1, .ref (ad rp)), (2, .int (iz fr))]) C.1.1 C.1.2.1 dX8_store_8 rfl hl (by decide) rfl (fun ls hl => ?_)
  have lp_9_n_7 : ∀ (k_6 : Nat) (k : Int) (V : Int → Int) (gv : Nat → va_E), (42 - k).toNat < k_6 → (0 ≤ k ∧ k ≤ 42) → (gv = va_up g rp (aI κ ln V)) → (∀ i, V i = if i = fr then ly else if fr + 1 ≤ i ∧ i < fr + 1 + k then f (i - fr - 1) else rw9 i) → ∀ (H : Heap) (locs : List Loc), gG κ B n ad s gv H locs → ∀ (ls : Array Slot), lv_has ls 4 [(0, .ref (ad 192)), (1, .ref (ad rp)), (2, .int (iz fr)), (3, .int (iz k))] → W p l e ({ frames := 0, cells := 0, slots := 0, locals := 0 }) s m args below meth c H locs 0 0 (MQ below (gQv κ B n ad (fun g' => g' = va_up g rp (aI κ ln (stF rw9 fr ly f)))) args s 0 0 (gFree B)) (F0 m 9 ls []) := by
    intro k_6
    induction k_6 with
    | zero => intro k V gv hm; exact absurd hm (Nat.not_lt_zero _)
    | succ k_6 ih_lp_9_n_7 =>
      intro k V gv hm hk hgv hV H locs G ls hl
      have hr9 : gv rp = aI κ ln V := by rw [hgv]; exact gu_self _ _ _
      have hm9 : gv 192 = g 192 := by rw [hgv]; exact gu_ne (by omega)
      have hn9 : gv 193 = g 193 := by rw [hgv]; exact gu_ne (by omega)
      refine g_iload_n C dX8_store_9 rfl hl 3 rfl ?_
      refine g_bipush (a := 42) C dX8_store_10 (by decide) ?_
      refine g_icmp_ge (tgt := 34) C (by omega) (by decide) dX8_store_12 (by decide) (fun c_8 => ?_) (fun c_8 => ?_)
      · refine g_vret C G hr hlk (Nat.le_of_ble_eq_true rfl) (Nat.le_of_ble_eq_true rfl) dX8_store_34 ?_
        rw [hgv, show V = stF rw9 fr ly f from st_end (by omega) hV]
      · refine g_aload_n C dX8_store_15 rfl hl 1 rfl ?_
        refine g_iload_n C dX8_store_16 rfl hl 2 rfl ?_
        refine g_iconst (a := 1) C dX8_store_17 rfl ?_
        refine g_iadd C dX8_store_18 ?_
        refine g_iload_n C dX8_store_19 rfl hl 3 rfl ?_
        refine g_iadd C dX8_store_20 ?_
        refine g_aload_n C dX8_store_21 rfl hl 0 rfl ?_
        refine g_get C G (pos := 192) fX8_store_7 (by omega) (hm9.trans hM) rfl dX8_store_22 ?_
        refine g_iload_n C dX8_store_25 rfl hl 3 rfl ?_
        refine g_iaload C G (pos := 193) (by omega) (hn9.trans hN) (by omega) (by omega) (by omega) dX8_store_26 ?_
        refine g_iastore C G (pos := rp) (by omega) hr9 (by omega) (by omega) (by omega) dX8_store_27 (fun H locs G => ?_)
        obtain ⟨g_9, hg_10⟩ : ∃ g9, g9 = va_up gv rp (aI κ ln (vu V ((fr + 1) + k) (f k))) := ⟨_, rfl⟩
        rw [← hg_10] at G
        have hc_11 : g_9 192 = .inr (8, [.ref (ad 193), .int (iz ly), .int (iz th), .ref (ad 194), .int (iz mk), .ref (ad 195), .int (iz tx), .ref (ad 196), .int (iz rl), .int (iz a0), .int (iz wr), .int (iz s0), .int (iz s1), .ref (ad 197), .int (iz rm), .ref (ad 198), .ref (ad 199)]) := by rw [hg_10, gu_ne (by omega)]; exact (hm9.trans hM)
        have hc_12 : g_9 193 = aI κ 42 f := by rw [hg_10, gu_ne (by omega)]; exact (hn9.trans hN)
        have hc_13 : g_9 rp = aI κ ln (vu V ((fr + 1) + k) (f k)) := by rw [hg_10]; exact gu_self _ _ _
        refine lv_iinc (v := iz (k + 1)) (lv' := [(3, .int (iz (k + 1))), (0, .ref (ad 192)), (1, .ref (ad rp)), (2, .int (iz fr))]) C.1.1 C.1.2.1 dX8_store_28 hl (k := 3) rfl (g_inc (by omega)) (by decide) rfl (fun ls hl => ?_)
        refine g_goto (tgt := 9) C dX8_store_31 (by decide) ?_
        exact ih_lp_9_n_7 (k + 1) (vu V ((fr + 1) + k) (f k)) g_9 (by omega) (by omega) (by rw [hg_10, hgv, gu_up]) (st_step hk.1 hV) _ _ G _ (lv_sub hl [1, 2, 3, 0] rfl)
  exact lp_9_n_7 _ 0 (vu rw9 fr ly) g_1 (Nat.lt_succ_self _) (by omega) hg_2 (fun i => by unfold vu; split <;> first | rfl | rw [if_neg (by omega)]) _ _ G _ (lv_sub hl [1, 2, 3, 0] rfl)
theorem fwX8_bring_35 : gFldW wsX8_bring RX8 35 8 1 .int false := ⟨RX8, TX8, 17, tyX8, rfl, by decide, by decide +kernel, by decide +kernel, tyX8_ok, nmX8, rfl, by decide +kernel, by decide +kernel⟩
theorem fX8_bring_7 : gFld wsX8_bring RX8 7 8 0 := ⟨RX8, TX8, 17, rfl, by decide, by decide +kernel, by decide +kernel⟩
set_option maxHeartbeats 4000000 in
set_option maxRecDepth 100000 in
theorem c_X8_bring (l : Launch) (κ : gKap) (B n : Nat) (ad : Nat → Nat) (g : Nat → va_E) (ly : Int) (th : Int) (mk : Int) (tx : Int) (rl : Int) (a0 : Int) (wr : Int) (s0 : Int) (s1 : Int) (rm : Int) (f : Int → Int) (rp : Nat) (ln : Nat) (rw9 : Int → Int) (fr : Int) (hn8 : 200 ≤ n) (hM : g 192 = oM ad ly th mk tx rl a0 wr s0 s1 rm) (hN : g 193 = aI κ 42 f) (hrp : 193 < rp ∧ rp < 200) (hrw : g rp = aI κ ln rw9) (hfr : 0 ≤ fr ∧ fr + 43 ≤ (ln : Int) ∧ ln ≤ 100000) : Met l yX8_bring wsX8_bring ({ frames := 0, cells := 0, slots := 0, locals := 0 }) (gPre κ B n ad g [.ref (ad 192), .ref (ad rp), .int (iz fr)]) (gQv κ B n ad (fun g' => g' = va_up (va_up g 192 (oM ad (rw9 fr) th mk tx rl a0 wr s0 s1 rm)) 193 (aI κ 42 (brF rw9 fr f)))) 0 0 (gFree B) := by
  refine g_met RX8 (cc := cX8_bring) (maxL := 4) (ret := none) (by decide) rfl rfl (Nat.le_of_ble_eq_true rfl) ?_
  intro p e s m args below meth c C hr hlk hnm G ls hl
  have hl : lv_has ls 4 [(0, .ref (ad 192)), (1, .ref (ad rp)), (2, .int (iz fr))] := hl
  refine g_aload_n C dX8_bring_0 rfl hl 0 rfl ?_
  refine g_aload_n C dX8_bring_1 rfl hl 1 rfl ?_
  refine g_iload_n C dX8_bring_2 rfl hl 2 rfl ?_
  refine g_iaload C G (pos := rp) (by omega) hrw (by omega) (by omega) (by omega) dX8_bring_3 ?_
  refine g_put C G (pos := 192) (fs' := [.ref (ad 193), .int (iz (rw9 fr)), .int (iz th), .ref (ad 194), .int (iz mk), .ref (ad 195), .int (iz tx), .ref (ad 196), .int (iz rl), .int (iz a0), .int (iz wr), .int (iz s0), .int (iz s1), .ref (ad 197), .int (iz rm), .ref (ad 198), .ref (ad 199)]) fwX8_bring_35 (by omega) hM (Nat.le_of_ble_eq_true rfl) rfl rfl rfl dX8_bring_4 (fun H locs G => ?_)
  obtain ⟨g_1, hg_2⟩ : ∃ g9, g9 = va_up g 192 (.inr (8, [.ref (ad 193), .int (iz (rw9 fr)), .int (iz th), .ref (ad 194), .int (iz mk), .ref (ad 195), .int (iz tx), .ref (ad 196), .int (iz rl), .int (iz a0), .int (iz wr), .int (iz s0), .int (iz s1), .ref (ad 197), .int (iz rm), .ref (ad 198), .ref (ad 199)])) := ⟨_, rfl⟩
  rw [← hg_2] at G
  have hc_3 : g_1 192 = .inr (8, [.ref (ad 193), .int (iz (rw9 fr)), .int (iz th), .ref (ad 194), .int (iz mk), .ref (ad 195), .int (iz tx), .ref (ad 196), .int (iz rl), .int (iz a0), .int (iz wr), .int (iz s0), .int (iz s1), .ref (ad 197), .int (iz rm), .ref (ad 198), .ref (ad 199)]) := by rw [hg_2]; exact gu_self _ _ _
  have hc_4 : g_1 193 = aI κ 42 f := by rw [hg_2, gu_ne (by decide)]; exact hN
  have hc_5 : g_1 rp = aI κ ln rw9 := by rw [hg_2, gu_ne (by omega)]; exact hrw
  refine g_iconst (a := 0) C dX8_bring_7 rfl ?_
  refine lv_istore_n (lv' := [(3, .int (iz 0)), (0, .ref (ad 192)), (1, .ref (ad rp)), (2, .int (iz fr))]) C.1.1 C.1.2.1 dX8_bring_8 rfl hl (by decide) rfl (fun ls hl => ?_)
  have lp_9_n_7 : ∀ (k_6 : Nat) (k : Int) (V : Int → Int) (gv : Nat → va_E), (42 - k).toNat < k_6 → (0 ≤ k ∧ k ≤ 42) → (gv = va_up (va_up g 192 (oM ad (rw9 fr) th mk tx rl a0 wr s0 s1 rm)) 193 (aI κ 42 V)) → (∀ i, V i = if 0 ≤ i ∧ i < k then rw9 (fr + 1 + i) else f i) → ∀ (H : Heap) (locs : List Loc), gG κ B n ad s gv H locs → ∀ (ls : Array Slot), lv_has ls 4 [(0, .ref (ad 192)), (1, .ref (ad rp)), (2, .int (iz fr)), (3, .int (iz k))] → W p l e ({ frames := 0, cells := 0, slots := 0, locals := 0 }) s m args below meth c H locs 0 0 (MQ below (gQv κ B n ad (fun g' => g' = va_up (va_up g 192 (oM ad (rw9 fr) th mk tx rl a0 wr s0 s1 rm)) 193 (aI κ 42 (brF rw9 fr f)))) args s 0 0 (gFree B)) (F0 m 9 ls []) := by
    intro k_6
    induction k_6 with
    | zero => intro k V gv hm; exact absurd hm (Nat.not_lt_zero _)
    | succ k_6 ih_lp_9_n_7 =>
      intro k V gv hm hk hgv hV H locs G ls hl
      have hr9 : gv rp = aI κ ln rw9 := by rw [hgv, gu_ne (by omega), gu_ne (by omega)]; exact hrw
      have hm9 : gv 192 = oM ad (rw9 fr) th mk tx rl a0 wr s0 s1 rm := by rw [hgv, gu_ne (by decide)]; exact gu_self _ _ _
      have hn9 : gv 193 = aI κ 42 V := by rw [hgv]; exact gu_self _ _ _
      refine g_iload_n C dX8_bring_9 rfl hl 3 rfl ?_
      refine g_bipush (a := 42) C dX8_bring_10 (by decide) ?_
      refine g_icmp_ge (tgt := 34) C (by omega) (by decide) dX8_bring_12 (by decide) (fun c_8 => ?_) (fun c_8 => ?_)
      · refine g_vret C G hr hlk (Nat.le_of_ble_eq_true rfl) (Nat.le_of_ble_eq_true rfl) dX8_bring_34 ?_
        rw [hgv, show V = brF rw9 fr f from br_end (by omega) hV]
      · refine g_aload_n C dX8_bring_15 rfl hl 0 rfl ?_
        refine g_get C G (pos := 192) fX8_bring_7 (by omega) hm9 rfl dX8_bring_16 ?_
        refine g_iload_n C dX8_bring_19 rfl hl 3 rfl ?_
        refine g_aload_n C dX8_bring_20 rfl hl 1 rfl ?_
        refine g_iload_n C dX8_bring_21 rfl hl 2 rfl ?_
        refine g_iconst (a := 1) C dX8_bring_22 rfl ?_
        refine g_iadd C dX8_bring_23 ?_
        refine g_iload_n C dX8_bring_24 rfl hl 3 rfl ?_
        refine g_iadd C dX8_bring_25 ?_
        refine g_iaload C G (pos := rp) (by omega) hr9 (by omega) (by omega) (by omega) dX8_bring_26 ?_
        refine g_iastore C G (pos := 193) (by omega) hn9 (by omega) (by omega) (by omega) dX8_bring_27 (fun H locs G => ?_)
        obtain ⟨g_9, hg_10⟩ : ∃ g9, g9 = va_up gv 193 (aI κ 42 (vu V k (rw9 ((fr + 1) + k)))) := ⟨_, rfl⟩
        rw [← hg_10] at G
        have hc_11 : g_9 192 = .inr (8, [.ref (ad 193), .int (iz (rw9 fr)), .int (iz th), .ref (ad 194), .int (iz mk), .ref (ad 195), .int (iz tx), .ref (ad 196), .int (iz rl), .int (iz a0), .int (iz wr), .int (iz s0), .int (iz s1), .ref (ad 197), .int (iz rm), .ref (ad 198), .ref (ad 199)]) := by rw [hg_10, gu_ne (by decide)]; exact hm9
        have hc_12 : g_9 193 = aI κ 42 (vu V k (rw9 ((fr + 1) + k))) := by rw [hg_10]; exact gu_self _ _ _
        have hc_13 : g_9 rp = aI κ ln rw9 := by rw [hg_10, gu_ne (by omega)]; exact hr9
        refine lv_iinc (v := iz (k + 1)) (lv' := [(3, .int (iz (k + 1))), (0, .ref (ad 192)), (1, .ref (ad rp)), (2, .int (iz fr))]) C.1.1 C.1.2.1 dX8_bring_28 hl (k := 3) rfl (g_inc (by omega)) (by decide) rfl (fun ls hl => ?_)
        refine g_goto (tgt := 9) C dX8_bring_31 (by decide) ?_
        exact ih_lp_9_n_7 (k + 1) (vu V k (rw9 ((fr + 1) + k))) g_9 (by omega) (by omega) (by rw [hg_10, hgv, gu_up]) (br_step hk.1 hV) _ _ G _ (lv_sub hl [1, 2, 3, 0] rfl)
  exact lp_9_n_7 _ 0 f g_1 (Nat.lt_succ_self _) (by omega) (by rw [← hg_2]; funext q; by_cases hq : q = 193 <;> simp [va_up, hq, hc_4]) (fun i => by rw [if_neg (by omega)]) _ _ G _ (lv_sub hl [1, 2, 3, 0] rfl)
