/-! ROSETTEPLATEMODEL (X8): all layers' marks -/
theorem mkS.iff {V : Int → Int} {mk : Int} {S T : Int → Int → Prop} (h : mkS V mk S) (e : ∀ x y, S x y ↔ T x y) : mkS V mk T := ⟨h.1, fun x y x0 x1 y0 y1 => (h.2 x y x0 x1 y0 y1).trans (e x y)⟩
theorem at_in {S9 : Int → Int → Prop} {k ra : Int} (hk : 0 ≤ k) (h : S9 k ra) : fb_ct (fun a => dB (S9 (a : Int) ra)) (k + 1).toNat = fb_ct (fun a => dB (S9 (a : Int) ra)) k.toNat + 1 := by
  have h1 : (k + 1).toNat = k.toNat + 1 := by omega
  rw [h1, fb_ct_succ, Int.toNat_of_nonneg hk, if_pos (dB_iff.mpr h)]
theorem at_out {S9 : Int → Int → Prop} {k ra : Int} (hk : 0 ≤ k) (h : ¬ S9 k ra) : fb_ct (fun a => dB (S9 (a : Int) ra)) (k + 1).toNat = fb_ct (fun a => dB (S9 (a : Int) ra)) k.toNat := by
  have h1 : (k + 1).toNat = k.toNat + 1 := by omega
  rw [h1, fb_ct_succ, Int.toNat_of_nonneg hk, if_neg (fun q => h (dB_iff.mp q))]
  rfl
theorem at_end {S9 : Int → Int → Prop} {r0 ra : Int} (h0 : 0 ≤ r0 ∧ r0 ≤ 128) (h : ∀ x y, S9 x y → 0 ≤ x ∧ x < r0) : fb_ct (fun a => dB (S9 (a : Int) ra)) r0.toNat = cntR S9 ra := by
  unfold cntR
  rw [show 128 = r0.toNat + (128 - r0.toNat) by omega, fb_ct_split]
  have e : fb_ct (fun k => dB (S9 ((r0.toNat + k : Nat) : Int) ra)) (128 - r0.toNat) = 0 := fb_ct_zero.mpr fun k hk => by
    cases h9 : dB (S9 ((r0.toNat + k : Nat) : Int) ra) with
    | false => rfl
    | true => have := h _ _ (dB_iff.mp h9); omega
  rw [e]
  rfl
theorem fX8_markAll_67 : gFld wsX8_markAll RX8 67 8 4 := ⟨RX8, TX8, 17, rfl, by decide, by decide +kernel, by decide +kernel⟩
theorem fwX8_markAll_67 : gFldW wsX8_markAll RX8 67 8 4 .int false := ⟨RX8, TX8, 17, tyX8, rfl, by decide, by decide +kernel, by decide +kernel, tyX8_ok, nmX8, rfl, by decide +kernel, by decide +kernel⟩
theorem fX8_markAll_35 : gFld wsX8_markAll RX8 35 8 1 := ⟨RX8, TX8, 17, rfl, by decide, by decide +kernel, by decide +kernel⟩
set_option maxHeartbeats 4000000 in
set_option maxRecDepth 100000 in
theorem c_X8_markAll (l : Launch) (κ : gKap) (B n : Nat) (ad : Nat → Nat) (g : Nat → va_E) (ly : Int) (th : Int) (mk : Int) (tx : Int) (rl : Int) (a0 : Int) (wr : Int) (s0 : Int) (s1 : Int) (rm : Int) (f : Int → Int) (M9 : Int → Int) (hn8 : 200 ≤ n) (hM : g 192 = oM ad ly th mk tx rl a0 wr s0 s1 rm) (hN : g 193 = aI κ 42 f) (hK : g 194 = aI κ 28896 M9) (hok : okPl ly f) (hmk : 0 ≤ mk ∧ mk ≤ 900000000) (hMr : ∀ i, 0 ≤ i → i < 28896 → 0 ≤ M9 i ∧ M9 i ≤ mk) : Met l yX8_markAll wsX8_markAll ({ frames := 4, cells := 0, slots := 0, locals := 97 }) (gPre κ B n ad g [.ref (ad 192)]) (gQi κ B n ad (fun z g' => ∃ V, g' = va_up (va_up g 192 (oM ad ly th (mk + 1) tx rl a0 wr s0 s1 rm)) 194 (aI κ 28896 V) ∧ mkS V (mk + 1) (fun x y => ∃ l9, 0 ≤ l9 ∧ l9 < ly ∧ PTl f l9 x y) ∧ z = (cntS (fun x y => ∃ l9, 0 ≤ l9 ∧ l9 < ly ∧ PTl f l9 x y) : Int) ∧ 0 ≤ z ∧ z ≤ 34560)) 0 0 (gFree B) := by
  refine g_met RX8 (cc := cX8_markAll) (maxL := 3) (ret := (some .int)) (by decide) rfl rfl (Nat.le_of_ble_eq_true rfl) ?_
  intro p e s m args below meth c C hr hlk hnm G ls hl
  have hl : lv_has ls 3 [(0, .ref (ad 192))] := hl
  obtain ⟨hn6, hv0, hv25, hlay, hsee⟩ := id hok
  refine g_aload_n C dX8_markAll_0 rfl hl 0 rfl ?_
  refine lv_dup C.1.1 C.1.2.1 dX8_markAll_1 rfl ?_
  refine g_get C G (pos := 192) fX8_markAll_67 (by omega) hM rfl dX8_markAll_2 ?_
  refine g_iconst (a := 1) C dX8_markAll_5 rfl ?_
  refine g_iadd C dX8_markAll_6 ?_
  refine g_put C G (pos := 192) (fs' := [.ref (ad 193), .int (iz ly), .int (iz th), .ref (ad 194), .int (iz (mk + 1)), .ref (ad 195), .int (iz tx), .ref (ad 196), .int (iz rl), .int (iz a0), .int (iz wr), .int (iz s0), .int (iz s1), .ref (ad 197), .int (iz rm), .ref (ad 198), .ref (ad 199)]) fwX8_markAll_67 (by omega) hM (Nat.le_of_ble_eq_true rfl) rfl rfl rfl dX8_markAll_7 (fun H locs G => ?_)
  obtain ⟨g_1, hg_2⟩ : ∃ g9, g9 = va_up g 192 (.inr (8, [.ref (ad 193), .int (iz ly), .int (iz th), .ref (ad 194), .int (iz (mk + 1)), .ref (ad 195), .int (iz tx), .ref (ad 196), .int (iz rl), .int (iz a0), .int (iz wr), .int (iz s0), .int (iz s1), .ref (ad 197), .int (iz rm), .ref (ad 198), .ref (ad 199)])) := ⟨_, rfl⟩
  rw [← hg_2] at G
  have hc_3 : g_1 192 = .inr (8, [.ref (ad 193), .int (iz ly), .int (iz th), .ref (ad 194), .int (iz (mk + 1)), .ref (ad 195), .int (iz tx), .ref (ad 196), .int (iz rl), .int (iz a0), .int (iz wr), .int (iz s0), .int (iz s1), .ref (ad 197), .int (iz rm), .ref (ad 198), .ref (ad 199)]) := by rw [hg_2]; exact gu_self _ _ _
  have hc_4 : g_1 193 = aI κ 42 f := by rw [hg_2, gu_ne (by decide)]; exact hN
  have hc_5 : g_1 194 = aI κ 28896 M9 := by rw [hg_2, gu_ne (by decide)]; exact hK
  refine g_iconst (a := 0) C dX8_markAll_10 rfl ?_
  refine lv_istore_n (lv' := [(1, .int (iz 0)), (0, .ref (ad 192))]) C.1.1 C.1.2.1 dX8_markAll_11 rfl hl (by decide) rfl (fun ls hl => ?_)
  refine g_iconst (a := 0) C dX8_markAll_12 rfl ?_
  refine lv_istore_n (lv' := [(2, .int (iz 0)), (1, .int (iz 0)), (0, .ref (ad 192))]) C.1.1 C.1.2.1 dX8_markAll_13 rfl hl (by decide) rfl (fun ls hl => ?_)
  have lp_14_n_7 : ∀ (k_6 : Nat) (nu : Int) (k : Int) (V : Int → Int) (gv : Nat → va_E), (ly - k).toNat < k_6 → (0 ≤ k ∧ k ≤ ly) → (0 ≤ nu ∧ nu ≤ 5760 * k) → (gv = va_up (va_up g 192 (oM ad ly th (mk + 1) tx rl a0 wr s0 s1 rm)) 194 (aI κ 28896 V)) → (mkS V (mk + 1) (fun x y => ∃ l9, 0 ≤ l9 ∧ l9 < k ∧ PTl f l9 x y)) → (nu = (cntS (fun x y => ∃ l9, 0 ≤ l9 ∧ l9 < k ∧ PTl f l9 x y) : Int)) → ∀ (H : Heap) (locs : List Loc), gG κ B n ad s gv H locs → ∀ (ls : Array Slot), lv_has ls 3 [(0, .ref (ad 192)), (1, .int (iz nu)), (2, .int (iz k))] → W p l e ({ frames := 4, cells := 0, slots := 0, locals := 97 }) s m args below meth c H locs 0 0 (MQ below (gQi κ B n ad (fun z g' => ∃ V, g' = va_up (va_up g 192 (oM ad ly th (mk + 1) tx rl a0 wr s0 s1 rm)) 194 (aI κ 28896 V) ∧ mkS V (mk + 1) (fun x y => ∃ l9, 0 ≤ l9 ∧ l9 < ly ∧ PTl f l9 x y) ∧ z = (cntS (fun x y => ∃ l9, 0 ≤ l9 ∧ l9 < ly ∧ PTl f l9 x y) : Int) ∧ 0 ≤ z ∧ z ≤ 34560)) args s 0 0 (gFree B)) (F0 m 14 ls []) := by
    intro k_6
    induction k_6 with
    | zero => intro nu k V gv hm; exact absurd hm (Nat.not_lt_zero _)
    | succ k_6 ih_lp_14_n_7 =>
      intro nu k V gv hm hk hnb hgv hS hnu H locs G ls hl
      have hk9 : gv 194 = aI κ 28896 V := by rw [hgv]; exact gu_self _ _ _
      have hm9 : gv 192 = oM ad ly th (mk + 1) tx rl a0 wr s0 s1 rm := by rw [hgv, gu_ne (by decide)]; exact gu_self _ _ _
      have hn9 : gv 193 = g 193 := by rw [hgv, gu_ne (by decide), gu_ne (by decide)]
      refine g_iload_n C dX8_markAll_14 rfl hl 2 rfl ?_
      refine g_aload_n C dX8_markAll_15 rfl hl 0 rfl ?_
      refine g_get C G (pos := 192) fX8_markAll_35 (by omega) hm9 rfl dX8_markAll_16 ?_
      refine g_icmp_ge (tgt := 36) C (by omega) (by omega) dX8_markAll_19 (by decide) (fun c_8 => ?_) (fun c_8 => ?_)
      · refine g_iload_n C dX8_markAll_36 rfl hl 1 rfl ?_
        refine g_iret C G hr hlk (Nat.le_of_ble_eq_true rfl) (Nat.le_of_ble_eq_true rfl) dX8_markAll_37 ?_
        have hk9 : k = ly := by omega
        rw [hk9] at hS hnu
        exact ⟨V, hgv, hS, hnu, by omega, by omega⟩
      · refine g_iload_n C dX8_markAll_22 rfl hl 1 rfl ?_
        refine g_aload_n C dX8_markAll_23 rfl hl 0 rfl ?_
        refine g_iload_n C dX8_markAll_24 rfl hl 2 rfl ?_
        refine g_ci C G (g_runV (As := [.int (iz k)]) (rest := [.int (iz nu)]) (pos := 192) C G (c_X8_mark l κ B n ad gv ly th (mk + 1) tx rl a0 wr s0 s1 rm f V k hn8 hm9 (hn9.trans hN) hk9 hok (by omega) (by omega) (fun i i0 i1 => by have := hS.1 i i0 i1; omega)) (cwV 1 C.1.2.2.2.2 gX8_markAll_X8_mark rfl rfl rfl (by decide +kernel) ⟨Nat.le_of_ble_eq_true rfl, Nat.le_of_ble_eq_true rfl⟩) (by omega) hm9 (T := TX8) (N := 17) rfl rfl hl rfl (Nat.le_of_ble_eq_true rfl) dX8_markAll_25 ⟨Nat.le_of_ble_eq_true rfl, Nat.le_of_ble_eq_true rfl⟩) (fun z_11 g9 H locs hw9 G => ?_)
        obtain ⟨V_9, hw9, hV_10, hV_10o, h_12⟩ := hw9
        subst hw9
        obtain ⟨g_13, hg_14⟩ : ∃ g9, g9 = va_up gv 194 (aI κ 28896 V_9) := ⟨_, rfl⟩
        rw [← hg_14] at G
        have hc_15 : g_13 192 = .inr (8, [.ref (ad 193), .int (iz ly), .int (iz th), .ref (ad 194), .int (iz (mk + 1)), .ref (ad 195), .int (iz tx), .ref (ad 196), .int (iz rl), .int (iz a0), .int (iz wr), .int (iz s0), .int (iz s1), .ref (ad 197), .int (iz rm), .ref (ad 198), .ref (ad 199)]) := by rw [hg_14, gu_ne (by decide)]; exact hm9
        have hc_16 : g_13 193 = aI κ 42 f := by rw [hg_14, gu_ne (by decide)]; exact (hn9.trans hN)
        have hc_17 : g_13 194 = aI κ 28896 V_9 := by rw [hg_14]; exact gu_self _ _ _
        refine g_iadd C dX8_markAll_28 ?_
        refine lv_istore_n (lv' := [(1, .int (iz (nu + z_11))), (0, .ref (ad 192)), (2, .int (iz k))]) C.1.1 C.1.2.1 dX8_markAll_29 rfl hl (by decide) rfl (fun ls hl => ?_)
        refine lv_iinc (v := iz (k + 1)) (lv' := [(2, .int (iz (k + 1))), (1, .int (iz (nu + z_11))), (0, .ref (ad 192))]) C.1.1 C.1.2.1 dX8_markAll_30 hl (k := 2) rfl (g_inc (by omega)) (by decide) rfl (fun ls hl => ?_)
        refine g_goto (tgt := 14) C dX8_markAll_33 (by decide) ?_
        exact ih_lp_14_n_7 (nu + z_11) (k + 1) V_9 g_13 (by omega) (by omega) (by omega) (by rw [hg_14, hgv, gu_up]) ((hS.mark hV_10 hV_10o).iff (fun x y => ca_step hk.1)) (by have e9 : cntS (fun x y => ∃ l9, 0 ≤ l9 ∧ l9 < k + 1 ∧ PTl f l9 x y) = cntS (fun x y => ∃ l9, 0 ≤ l9 ∧ l9 < k ∧ PTl f l9 x y) + cntS (fun x y => PTl f k x y ∧ ¬ ∃ l9, 0 ≤ l9 ∧ l9 < k ∧ PTl f l9 x y) := (cntS_congr (fun x y _ _ _ _ => (ca_step hk.1).symm)).trans cntS_or; rw [hnu, h_12.1, hS.cnt hv0, e9]; rfl) _ _ G _ (lv_sub hl [2, 1, 0] rfl)
  exact lp_14_n_7 _ 0 0 M9 g_1 (Nat.lt_succ_self _) (by omega) (by omega) (by rw [← hg_2]; funext q; by_cases hq : q = 194 <;> simp [va_up, hq, hc_5]) ((mkS.up hMr).iff (fun x y => ⟨False.elim, fun ⟨l9, q0, q1, _⟩ => absurd q1 (by omega)⟩)) (by rw [cntS_none (fun x y _ _ _ _ q => by obtain ⟨l9, q0, q1, _⟩ := q; omega)]; rfl) _ _ G _ (lv_sub hl [2, 1, 0] rfl)
theorem fX8_markedAt_7 : gFld wsX8_markedAt RX8 7 8 0 := ⟨RX8, TX8, 17, rfl, by decide, by decide +kernel, by decide +kernel⟩
theorem fX8_markedAt_13 : gFld wsX8_markedAt RX8 13 8 3 := ⟨RX8, TX8, 17, rfl, by decide, by decide +kernel, by decide +kernel⟩
theorem fX8_markedAt_67 : gFld wsX8_markedAt RX8 67 8 4 := ⟨RX8, TX8, 17, rfl, by decide, by decide +kernel, by decide +kernel⟩
set_option maxHeartbeats 4000000 in
set_option maxRecDepth 100000 in
theorem c_X8_markedAt (l : Launch) (κ : gKap) (B n : Nat) (ad : Nat → Nat) (g : Nat → va_E) (ly : Int) (th : Int) (mk : Int) (tx : Int) (rl : Int) (a0 : Int) (wr : Int) (s0 : Int) (s1 : Int) (rm : Int) (f : Int → Int) (M9 : Int → Int) (ra : Int) (S9 : Int → Int → Prop) (hn8 : 200 ≤ n) (hM : g 192 = oM ad ly th mk tx rl a0 wr s0 s1 rm) (hN : g 193 = aI κ 42 f) (hK : g 194 = aI κ 28896 M9) (hok : okPl ly f) (hra : 0 ≤ ra ∧ ra ≤ 300) (hS : mkS M9 mk S9) (hmk : 0 ≤ mk ∧ mk ≤ 1000000000) (hSr : ∀ x y, S9 x y → 0 ≤ x ∧ x < f 0) : Met l yX8_markedAt wsX8_markedAt ({ frames := 0, cells := 0, slots := 0, locals := 0 }) (gPre κ B n ad g [.ref (ad 192), .int (iz ra)]) (gQi κ B n ad (fun z g' => g' = g ∧ (z = (cntR S9 ra : Int) ∧ 0 ≤ z ∧ z ≤ 96))) 0 0 (gFree B) := by
  refine g_met RX8 (cc := cX8_markedAt) (maxL := 4) (ret := (some .int)) (by decide) rfl rfl (Nat.le_of_ble_eq_true rfl) ?_
  intro p e s m args below meth c C hr hlk hnm G ls hl
  have hl : lv_has ls 4 [(0, .ref (ad 192)), (1, .int (iz ra))] := hl
  obtain ⟨hn6, hv0, hv25, hlay, hsee⟩ := id hok
  refine g_iconst (a := 0) C dX8_markedAt_0 rfl ?_
  refine lv_istore_n (lv' := [(2, .int (iz 0)), (0, .ref (ad 192)), (1, .int (iz ra))]) C.1.1 C.1.2.1 dX8_markedAt_1 rfl hl (by decide) rfl (fun ls hl => ?_)
  refine g_iconst (a := 0) C dX8_markedAt_2 rfl ?_
  refine lv_istore_n (lv' := [(3, .int (iz 0)), (2, .int (iz 0)), (0, .ref (ad 192)), (1, .int (iz ra))]) C.1.1 C.1.2.1 dX8_markedAt_3 rfl hl (by decide) rfl (fun ls hl => ?_)
  have lp_4_n_2 : ∀ (k_1 : Nat) (nu : Int) (k : Int), (f 0 - k).toNat < k_1 → (0 ≤ k ∧ k ≤ f 0) → (0 ≤ nu ∧ nu ≤ k) → (nu = (fb_ct (fun a => dB (S9 (a : Int) ra)) k.toNat : Int)) → ∀ (H : Heap) (locs : List Loc), gG κ B n ad s g H locs → ∀ (ls : Array Slot), lv_has ls 4 [(0, .ref (ad 192)), (1, .int (iz ra)), (2, .int (iz nu)), (3, .int (iz k))] → W p l e ({ frames := 0, cells := 0, slots := 0, locals := 0 }) s m args below meth c H locs 0 0 (MQ below (gQi κ B n ad (fun z g' => g' = g ∧ (z = (cntR S9 ra : Int) ∧ 0 ≤ z ∧ z ≤ 96))) args s 0 0 (gFree B)) (F0 m 4 ls []) := by
    intro k_1
    induction k_1 with
    | zero => intro nu k hm; exact absurd hm (Nat.not_lt_zero _)
    | succ k_1 ih_lp_4_n_2 =>
      intro nu k hm hk hnb hnu H locs G ls hl
      refine g_iload_n C dX8_markedAt_4 rfl hl 3 rfl ?_
      refine g_aload_n C dX8_markedAt_5 rfl hl 0 rfl ?_
      refine g_get C G (pos := 192) fX8_markedAt_7 (by omega) hM rfl dX8_markedAt_6 ?_
      refine g_iconst (a := 0) C dX8_markedAt_9 rfl ?_
      refine g_iaload C G (pos := 193) (by omega) hN (by omega) (by omega) (by omega) dX8_markedAt_10 ?_
      refine g_icmp_ge (tgt := 47) C (by omega) (by omega) dX8_markedAt_11 (by decide) (fun c_3 => ?_) (fun c_3 => ?_)
      · refine g_iload_n C dX8_markedAt_47 rfl hl 2 rfl ?_
        refine g_iret C G hr hlk (Nat.le_of_ble_eq_true rfl) (Nat.le_of_ble_eq_true rfl) dX8_markedAt_48 ?_
        have hk9 : k = f 0 := by omega
        rw [hk9] at hnu
        exact ⟨rfl, hnu.trans (congrArg (fun q : Nat => (q : Int)) (at_end (by omega) hSr)), by omega, by omega⟩
      · refine g_iload_n C dX8_markedAt_14 rfl hl 2 rfl ?_
        refine g_aload_n C dX8_markedAt_15 rfl hl 0 rfl ?_
        refine g_get C G (pos := 192) fX8_markedAt_13 (by omega) hM rfl dX8_markedAt_16 ?_
        refine g_iload_n C dX8_markedAt_19 rfl hl 3 rfl ?_
        refine g_sipush (a := 301) C dX8_markedAt_20 (by decide) ?_
        refine g_imul C dX8_markedAt_23 ?_
        refine g_iload_n C dX8_markedAt_24 rfl hl 1 rfl ?_
        refine g_iadd C dX8_markedAt_25 ?_
        refine g_iaload C G (pos := 194) (by omega) hK (by omega) (by omega) (by omega) dX8_markedAt_26 ?_
        have hvr := hS.1 (k * 301 + ra) (by omega) (by omega)
        refine g_aload_n C dX8_markedAt_27 rfl hl 0 rfl ?_
        refine g_get C G (pos := 192) fX8_markedAt_67 (by omega) hM rfl dX8_markedAt_28 ?_
        refine g_icmp_ne (tgt := 38) C (by omega) (by omega) dX8_markedAt_31 (by decide) (fun c_4 => ?_) (fun c_4 => ?_)
        · refine g_iconst (a := 0) C dX8_markedAt_38 rfl ?_
          refine g_iadd C dX8_markedAt_39 ?_
          rw [show (nu + 0 : Int) = nu from (by omega)]
          refine lv_istore_n (lv' := [(2, .int (iz nu)), (0, .ref (ad 192)), (1, .int (iz ra)), (3, .int (iz k))]) C.1.1 C.1.2.1 dX8_markedAt_40 rfl hl (by decide) rfl (fun ls hl => ?_)
          refine lv_iinc (v := iz (k + 1)) (lv' := [(3, .int (iz (k + 1))), (2, .int (iz nu)), (0, .ref (ad 192)), (1, .int (iz ra))]) C.1.1 C.1.2.1 dX8_markedAt_41 hl (k := 3) rfl (g_inc (by omega)) (by decide) rfl (fun ls hl => ?_)
          refine g_goto (tgt := 4) C dX8_markedAt_44 (by decide) ?_
          exact ih_lp_4_n_2 nu (k + 1) (by omega) (by omega) (by omega) (by rw [hnu, at_out hk.1 (fun q => absurd ((hS.2 k ra hk.1 (by omega) hra.1 hra.2).mpr q) (by omega))]) _ _ G _ (lv_sub hl [2, 3, 1, 0] rfl)
        · refine g_iconst (a := 1) C dX8_markedAt_34 rfl ?_
          refine g_goto (tgt := 39) C dX8_markedAt_35 (by decide) ?_
          refine g_iadd C dX8_markedAt_39 ?_
          refine lv_istore_n (lv' := [(2, .int (iz (nu + 1))), (0, .ref (ad 192)), (1, .int (iz ra)), (3, .int (iz k))]) C.1.1 C.1.2.1 dX8_markedAt_40 rfl hl (by decide) rfl (fun ls hl => ?_)
          refine lv_iinc (v := iz (k + 1)) (lv' := [(3, .int (iz (k + 1))), (2, .int (iz (nu + 1))), (0, .ref (ad 192)), (1, .int (iz ra))]) C.1.1 C.1.2.1 dX8_markedAt_41 hl (k := 3) rfl (g_inc (by omega)) (by decide) rfl (fun ls hl => ?_)
          refine g_goto (tgt := 4) C dX8_markedAt_44 (by decide) ?_
          exact ih_lp_4_n_2 (nu + 1) (k + 1) (by omega) (by omega) (by omega) (by rw [hnu, at_in hk.1 ((hS.2 k ra hk.1 (by omega) hra.1 hra.2).mp (by omega))]; rfl) _ _ G _ (lv_sub hl [2, 3, 1, 0] rfl)
  exact lp_4_n_2 _ 0 0 (Nat.lt_succ_self _) (by omega) (by omega) rfl _ _ G _ (lv_sub hl [2, 3, 1, 0] rfl)
