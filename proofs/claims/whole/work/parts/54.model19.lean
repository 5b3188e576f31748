/-! ROSETTEPLATEMODEL (X8): wheels, strokes -/
def smP (ring s k x y : Int) : Prop := ∃ j, 0 ≤ j ∧ j < k ∧ x = sma ring s j ∧ y = smd s j
theorem sma_rg {ring s k : Int} (h : 12 ≤ ring) : 0 ≤ sma ring s k ∧ sma ring s k < ring := ⟨Int.emod_nonneg _ (by omega), Int.emod_lt_of_pos _ (by omega)⟩
theorem mkS.cut {V : Int → Int} {mk a r : Int} {S : Int → Int → Prop} (h : mkS V mk S) (ha : 0 ≤ a ∧ a < 96) (hr : 0 ≤ r ∧ r ≤ 300) (hm : 0 ≤ mk) : mkS (vu V (a * 301 + r) mk) mk (fun x y => S x y ∨ (x = a ∧ y = r)) := by
  refine ⟨fun i i0 i1 => ?_, fun x y x0 x1 y0 y1 => ?_⟩
  · by_cases hi : i = a * 301 + r
    · rw [hi, vu_self]; omega
    · rw [vu_ne hi]; exact h.1 i i0 i1
  · by_cases hi : x * 301 + y = a * 301 + r
    · rw [hi, vu_self]
      exact ⟨fun _ => Or.inr ⟨by omega, by omega⟩, fun _ => rfl⟩
    · rw [vu_ne hi, h.2 x y x0 x1 y0 y1]
      exact ⟨Or.inl, fun q => q.elim id (fun q => absurd (by rw [q.1, q.2]) hi)⟩
theorem sm_new {ring s k a r : Int} (hk : 0 ≤ k) (h0 : 0 ≤ a ∧ a < 128) (h1 : 0 ≤ r ∧ r ≤ 300) (ha : a = sma ring s k) (hr : r = smd s k) (hn : ¬ ∃ j, 0 ≤ j ∧ j < k ∧ a = sma ring s j ∧ r = smd s j) : cntS (fun x y => ∃ j, 0 ≤ j ∧ j < k + 1 ∧ x = sma ring s j ∧ y = smd s j) = cntS (fun x y => ∃ j, 0 ≤ j ∧ j < k ∧ x = sma ring s j ∧ y = smd s j) + 1 := by
  rw [← cntS_add (a0 := a) (r0 := r) h0 h1 hn]
  exact cntS_congr (fun x y _ _ _ _ => (sim_step hk ha hr).symm)
theorem sm_old {ring s k a r : Int} (hk : 0 ≤ k) (ha : a = sma ring s k) (hr : r = smd s k) (hn : ∃ j, 0 ≤ j ∧ j < k ∧ a = sma ring s j ∧ r = smd s j) : cntS (fun x y => ∃ j, 0 ≤ j ∧ j < k ∧ x = sma ring s j ∧ y = smd s j) = cntS (fun x y => ∃ j, 0 ≤ j ∧ j < k + 1 ∧ x = sma ring s j ∧ y = smd s j) :=
  cntS_congr (fun x y _ _ _ _ => ⟨fun q => (sim_step hk ha hr).mp (Or.inl q), fun q => ((sim_step hk ha hr).mpr q).elim id (fun q => by rw [q.1, q.2]; exact hn)⟩)
theorem fX8_brings_7 : gFld wsX8_brings RX8 7 8 0 := ⟨RX8, TX8, 17, rfl, by decide, by decide +kernel, by decide +kernel⟩
set_option maxHeartbeats 4000000 in
set_option maxRecDepth 100000 in
theorem c_X8_brings (l : Launch) (κ : gKap) (B n : Nat) (ad : Nat → Nat) (g : Nat → va_E) (ly : Int) (th : Int) (mk : Int) (tx : Int) (rl : Int) (a0 : Int) (wr : Int) (s0 : Int) (s1 : Int) (rm : Int) (f : Int → Int) (wq : Int) (sd : Int) (ho : Int) (st0 : Int) (an : Int) (ra : Int) (hn8 : 200 ≤ n) (hM : g 192 = oM ad ly th mk tx rl a0 wr s0 s1 rm) (hN : g 193 = aI κ 42 f) (hok : okPl ly f) (hwq : okL wq sd ho) (hst : 0 ≤ st0 ∧ st0 < f 0) (han : inI an) (hra : inI ra) : Met l yX8_brings wsX8_brings ({ frames := 1, cells := 0, slots := 0, locals := 26 }) (gPre κ B n ad g [.ref (ad 192), .int (iz wq), .int (iz sd), .int (iz ho), .int (iz st0), .int (iz an), .int (iz ra)]) (gQi κ B n ad (fun z g' => g' = g ∧ (((PT (f 0) wq sd ho st0 an ra) ∧ z = 1) ∨ (¬ (PT (f 0) wq sd ho st0 an ra) ∧ z = 0)))) 0 0 (gFree B) := by
  refine g_met RX8 (cc := cX8_brings) (maxL := 9) (ret := (some .boolean)) (by decide) rfl rfl (Nat.le_of_ble_eq_true rfl) ?_
  intro p e s m args below meth c C hr hlk hnm G ls hl
  have hl : lv_has ls 9 [(0, .ref (ad 192)), (1, .int (iz wq)), (2, .int (iz sd)), (3, .int (iz ho)), (4, .int (iz st0)), (5, .int (iz an)), (6, .int (iz ra))] := hl
  obtain ⟨hn6, hv0, hv25, hlay, hsee⟩ := id hok
  have hpd := pd_range (ring := f 0) (w := wq) hv0 (by omega) (by omega)
  refine g_aload_n C dX8_brings_0 rfl hl 0 rfl ?_
  refine g_get C G (pos := 192) fX8_brings_7 (by omega) hM rfl dX8_brings_1 ?_
  refine g_iconst (a := 0) C dX8_brings_4 rfl ?_
  refine g_iaload C G (pos := 193) (by omega) hN (by omega) (by omega) (by omega) dX8_brings_5 ?_
  refine g_aload_n C dX8_brings_6 rfl hl 0 rfl ?_
  refine g_get C G (pos := 192) fX8_brings_7 (by omega) hM rfl dX8_brings_7 ?_
  refine g_iconst (a := 0) C dX8_brings_10 rfl ?_
  refine g_iaload C G (pos := 193) (by omega) hN (by omega) (by omega) (by omega) dX8_brings_11 ?_
  refine g_iload_n C dX8_brings_12 rfl hl 1 rfl ?_
  refine g_ci C G (g_runS (As := [.int (iz (f 0)), .int (iz wq)]) (rest := [.int (iz (f 0))]) C G (c_X8_divisor l κ B n ad g (f 0) wq (by omega) (by omega)) (va_cwS 2 C.1.2.2.2.2 gX8_brings_X8_divisor rfl rfl rfl (by decide +kernel) ⟨Nat.le_of_ble_eq_true rfl, Nat.le_of_ble_eq_true rfl⟩) rfl hl rfl (Nat.le_of_ble_eq_true rfl) dX8_brings_13 ⟨Nat.le_of_ble_eq_true rfl, Nat.le_of_ble_eq_true rfl⟩) (fun z_1 g9 H locs hw G => ?_)
  obtain ⟨hg9, h_2⟩ := hw
  replace hg9 := hg9.symm
  subst hg9
  refine g_idiv C (by omega) (by omega) (by omega) dX8_brings_16 ?_
  have hlb := lb_range (ring := f 0) (w := wq) (by omega)
  rw [show (Int.tdiv (f 0) z_1 : Int) = lb (f 0) wq from (by rw [h_2.1, tdiv_pos (by omega)]; rfl)]
  refine g_iload_n C dX8_brings_17 rfl hl 1 rfl ?_
  refine g_imul C dX8_brings_18 ?_
  rw [show ((lb (f 0) wq) * wq : Int) = pd (f 0) wq from (pd_lb (by omega) (by omega)).symm]
  refine lv_istore (lv' := [(7, .int (iz (pd (f 0) wq))), (0, .ref (ad 192)), (1, .int (iz wq)), (2, .int (iz sd)), (3, .int (iz ho)), (4, .int (iz st0)), (5, .int (iz an)), (6, .int (iz ra))]) C.1.1 C.1.2.1 dX8_brings_19 hl (by decide) rfl (fun ls hl => ?_)
  refine g_iconst (a := 0) C dX8_brings_21 rfl ?_
  refine lv_istore (lv' := [(8, .int (iz 0)), (7, .int (iz (pd (f 0) wq))), (0, .ref (ad 192)), (1, .int (iz wq)), (2, .int (iz sd)), (3, .int (iz ho)), (4, .int (iz st0)), (5, .int (iz an)), (6, .int (iz ra))]) C.1.1 C.1.2.1 dX8_brings_22 hl (by decide) rfl (fun ls hl => ?_)
  have lp_24_n_4 : ∀ (k_3 : Nat) (t : Int), (pd (f 0) wq - t).toNat < k_3 → (0 ≤ t ∧ t ≤ pd (f 0) wq) → (∀ j, 0 ≤ j → j < t → ¬ ((st0 + j) % f 0 = an ∧ rad wq sd ho (j % wq) = ra)) → ∀ (H : Heap) (locs : List Loc), gG κ B n ad s g H locs → ∀ (ls : Array Slot), lv_has ls 9 [(0, .ref (ad 192)), (1, .int (iz wq)), (2, .int (iz sd)), (3, .int (iz ho)), (4, .int (iz st0)), (5, .int (iz an)), (6, .int (iz ra)), (7, .int (iz (pd (f 0) wq))), (8, .int (iz t))] → W p l e ({ frames := 1, cells := 0, slots := 0, locals := 26 }) s m args below meth c H locs 0 0 (MQ below (gQi κ B n ad (fun z g' => g' = g ∧ (((PT (f 0) wq sd ho st0 an ra) ∧ z = 1) ∨ (¬ (PT (f 0) wq sd ho st0 an ra) ∧ z = 0)))) args s 0 0 (gFree B)) (F0 m 24 ls []) := by
    intro k_3
    induction k_3 with
    | zero => intro t hm; exact absurd hm (Nat.not_lt_zero _)
    | succ k_3 ih_lp_24_n_4 =>
      intro t hm ht hno H locs G ls hl
      refine g_iload C dX8_brings_24 hl 8 rfl ?_
      refine g_iload C dX8_brings_26 hl 7 rfl ?_
      refine g_icmp_ge (tgt := 71) C (by omega) (by omega) dX8_brings_28 (by decide) (fun c_5 => ?_) (fun c_5 => ?_)
      · refine g_iconst (a := 0) C dX8_brings_71 rfl ?_
        refine g_zret C G hr hlk (by decide) (Nat.le_of_ble_eq_true rfl) (Nat.le_of_ble_eq_true rfl) dX8_brings_72 ?_
        exact ⟨rfl, Or.inr ⟨fun ⟨j, j0, j1, j2⟩ => hno j j0 (by omega) j2, rfl⟩⟩
      · refine g_iload C dX8_brings_31 hl 4 rfl ?_
        refine g_iload C dX8_brings_33 hl 8 rfl ?_
        refine g_iadd C dX8_brings_35 ?_
        refine g_aload_n C dX8_brings_36 rfl hl 0 rfl ?_
        refine g_get C G (pos := 192) fX8_brings_7 (by omega) hM rfl dX8_brings_37 ?_
        refine g_iconst (a := 0) C dX8_brings_40 rfl ?_
        refine g_iaload C G (pos := 193) (by omega) hN (by omega) (by omega) (by omega) dX8_brings_41 ?_
        refine g_irem C (by omega) (by omega) (by omega) dX8_brings_42 ?_
        rw [show (Int.tmod (st0 + t) (f 0) : Int) = (st0 + t) % f 0 from (tmod_pos (by omega))]
        have hs0 := Int.emod_nonneg (st0 + t) (show f 0 ≠ 0 by omega)
        have hs1 := Int.emod_lt_of_pos (st0 + t) (show 0 < f 0 by omega)
        refine g_iload C dX8_brings_43 hl 5 rfl ?_
        refine g_icmp_ne (tgt := 65) C (by omega) (by omega) dX8_brings_45 (by decide) (fun c_6 => ?_) (fun c_6 => ?_)
        · refine lv_iinc (v := iz (t + 1)) (lv' := [(8, .int (iz (t + 1))), (0, .ref (ad 192)), (1, .int (iz wq)), (2, .int (iz sd)), (3, .int (iz ho)), (4, .int (iz st0)), (5, .int (iz an)), (6, .int (iz ra)), (7, .int (iz (pd (f 0) wq)))]) C.1.1 C.1.2.1 dX8_brings_65 hl (k := 8) rfl (g_inc (by omega)) (by decide) rfl (fun ls hl => ?_)
          refine g_goto (tgt := 24) C dX8_brings_68 (by decide) ?_
          exact ih_lp_24_n_4 (t + 1) (by omega) (by omega) (fun j j0 j1 => by
              by_cases hj : j = t
              · rw [hj]; exact fun q => absurd q.1 (by omega)
              · exact hno j j0 (by omega)) _ _ G _ (lv_sub hl [1, 2, 3, 4, 5, 6, 7, 8, 0] rfl)
        · refine g_iload_n C dX8_brings_48 rfl hl 1 rfl ?_
          refine g_iload_n C dX8_brings_49 rfl hl 2 rfl ?_
          refine g_iload_n C dX8_brings_50 rfl hl 3 rfl ?_
          refine g_iload C dX8_brings_51 hl 8 rfl ?_
          refine g_iload_n C dX8_brings_53 rfl hl 1 rfl ?_
          refine g_irem C (by omega) (by omega) (by omega) dX8_brings_54 ?_
          rw [show (Int.tmod t wq : Int) = t % wq from (tmod_pos (by omega))]
          have hu0 := Int.emod_nonneg t (show wq ≠ 0 by omega)
          have hu1 := Int.emod_lt_of_pos t (show 0 < wq by omega)
          refine g_ci C G (g_runS (As := [.int (iz wq), .int (iz sd), .int (iz ho), .int (iz (t % wq))]) (rest := []) C G (c_X8_radius l κ B n ad g wq sd ho (t % wq) hwq ⟨hu0, hu1⟩) (va_cwS 4 C.1.2.2.2.2 gX8_brings_X8_radius rfl rfl rfl (by decide +kernel) ⟨Nat.le_of_ble_eq_true rfl, Nat.le_of_ble_eq_true rfl⟩) rfl hl rfl (Nat.le_of_ble_eq_true rfl) dX8_brings_55 ⟨Nat.le_of_ble_eq_true rfl, Nat.le_of_ble_eq_true rfl⟩) (fun z_7 g9 H locs hw G => ?_)
          obtain ⟨hg9, h_8⟩ := hw
          replace hg9 := hg9.symm
          subst hg9
          refine g_iload C dX8_brings_58 hl 6 rfl ?_
          refine g_icmp_ne (tgt := 65) C (by omega) (by omega) dX8_brings_60 (by decide) (fun c_9 => ?_) (fun c_9 => ?_)
          · refine lv_iinc (v := iz (t + 1)) (lv' := [(8, .int (iz (t + 1))), (0, .ref (ad 192)), (1, .int (iz wq)), (2, .int (iz sd)), (3, .int (iz ho)), (4, .int (iz st0)), (5, .int (iz an)), (6, .int (iz ra)), (7, .int (iz (pd (f 0) wq)))]) C.1.1 C.1.2.1 dX8_brings_65 hl (k := 8) rfl (g_inc (by omega)) (by decide) rfl (fun ls hl => ?_)
            refine g_goto (tgt := 24) C dX8_brings_68 (by decide) ?_
            exact ih_lp_24_n_4 (t + 1) (by omega) (by omega) (fun j j0 j1 => by
                by_cases hj : j = t
                · rw [hj, ← h_8.1]; omega
                · exact hno j j0 (by omega)) _ _ G _ (lv_sub hl [1, 2, 3, 4, 5, 6, 7, 8, 0] rfl)
          · refine g_iconst (a := 1) C dX8_brings_63 rfl ?_
            refine g_zret C G hr hlk (by decide) (Nat.le_of_ble_eq_true rfl) (Nat.le_of_ble_eq_true rfl) dX8_brings_64 ?_
            exact ⟨rfl, Or.inl ⟨⟨t, ht.1, by omega, by omega, by rw [← h_8.1]; omega⟩, rfl⟩⟩
  exact lp_24_n_4 _ 0 (Nat.lt_succ_self _) (by omega) (fun j j0 j1 => absurd j1 (by omega)) _ _ G _ (lv_sub hl [2, 3, 4, 5, 6, 7, 8, 1, 0] rfl)
theorem fX8_wouldFit_7 : gFld wsX8_wouldFit RX8 7 8 0 := ⟨RX8, TX8, 17, rfl, by decide, by decide +kernel, by decide +kernel⟩
set_option maxHeartbeats 4000000 in
set_option maxRecDepth 100000 in
theorem c_X8_wouldFit (l : Launch) (κ : gKap) (B n : Nat) (ad : Nat → Nat) (g : Nat → va_E) (ly : Int) (th : Int) (mk : Int) (tx : Int) (rl : Int) (a0 : Int) (wr : Int) (s0 : Int) (s1 : Int) (rm : Int) (f : Int → Int) (wq : Int) (sd : Int) (ho : Int) (st0 : Int) (hn8 : 200 ≤ n) (hM : g 192 = oM ad ly th mk tx rl a0 wr s0 s1 rm) (hN : g 193 = aI κ 42 f) (hok : okPl ly f) (hwq : okL wq sd ho) (hst : 0 ≤ st0 ∧ st0 < f 0) : Met l yX8_wouldFit wsX8_wouldFit ({ frames := 2, cells := 0, slots := 0, locals := 54 }) (gPre κ B n ad g [.ref (ad 192), .int (iz wq), .int (iz sd), .int (iz ho), .int (iz st0)]) (gQi κ B n ad (fun z g' => g' = g ∧ (((FITw f wq sd ho st0) ∧ z = 1) ∨ (¬ (FITw f wq sd ho st0) ∧ z = 0)))) 0 0 (gFree B) := by
  refine g_met RX8 (cc := cX8_wouldFit) (maxL := 6) (ret := (some .boolean)) (by decide) rfl rfl (Nat.le_of_ble_eq_true rfl) ?_
  intro p e s m args below meth c C hr hlk hnm G ls hl
  have hl : lv_has ls 6 [(0, .ref (ad 192)), (1, .int (iz wq)), (2, .int (iz sd)), (3, .int (iz ho)), (4, .int (iz st0))] := hl
  obtain ⟨hn6, hv0, hv25, hlay, hsee⟩ := id hok
  refine g_iconst (a := 0) C dX8_wouldFit_0 rfl ?_
  refine lv_istore (lv' := [(5, .int (iz 0)), (0, .ref (ad 192)), (1, .int (iz wq)), (2, .int (iz sd)), (3, .int (iz ho)), (4, .int (iz st0))]) C.1.1 C.1.2.1 dX8_wouldFit_1 hl (by decide) rfl (fun ls hl => ?_)
  have lp_3_n_2 : ∀ (k_1 : Nat) (i : Int), (f 25 - i).toNat < k_1 → (0 ≤ i ∧ i ≤ f 25) → (∀ j, 0 ≤ j → j < i → PT (f 0) wq sd ho st0 (f (26 + 2 * j)) (f (27 + 2 * j))) → ∀ (H : Heap) (locs : List Loc), gG κ B n ad s g H locs → ∀ (ls : Array Slot), lv_has ls 6 [(0, .ref (ad 192)), (1, .int (iz wq)), (2, .int (iz sd)), (3, .int (iz ho)), (4, .int (iz st0)), (5, .int (iz i))] → W p l e ({ frames := 2, cells := 0, slots := 0, locals := 54 }) s m args below meth c H locs 0 0 (MQ below (gQi κ B n ad (fun z g' => g' = g ∧ (((FITw f wq sd ho st0) ∧ z = 1) ∨ (¬ (FITw f wq sd ho st0) ∧ z = 0)))) args s 0 0 (gFree B)) (F0 m 3 ls []) := by
    intro k_1
    induction k_1 with
    | zero => intro i hm; exact absurd hm (Nat.not_lt_zero _)
    | succ k_1 ih_lp_3_n_2 =>
      intro i hm hi hf H locs G ls hl
      refine g_iload C dX8_wouldFit_3 hl 5 rfl ?_
      refine g_aload_n C dX8_wouldFit_5 rfl hl 0 rfl ?_
      refine g_get C G (pos := 192) fX8_wouldFit_7 (by omega) hM rfl dX8_wouldFit_6 ?_
      refine g_bipush (a := 25) C dX8_wouldFit_9 (by decide) ?_
      refine g_iaload C G (pos := 193) (by omega) hN (by omega) (by omega) (by omega) dX8_wouldFit_11 ?_
      refine g_icmp_ge (tgt := 59) C (by omega) (by omega) dX8_wouldFit_12 (by decide) (fun c_3 => ?_) (fun c_3 => ?_)
      · refine g_iconst (a := 1) C dX8_wouldFit_59 rfl ?_
        refine g_zret C G hr hlk (by decide) (Nat.le_of_ble_eq_true rfl) (Nat.le_of_ble_eq_true rfl) dX8_wouldFit_60 ?_
        exact ⟨rfl, Or.inl ⟨fun j j0 j1 => hf j j0 (by omega), rfl⟩⟩
      · refine g_aload_n C dX8_wouldFit_15 rfl hl 0 rfl ?_
        refine g_iload_n C dX8_wouldFit_16 rfl hl 1 rfl ?_
        refine g_iload_n C dX8_wouldFit_17 rfl hl 2 rfl ?_
        refine g_iload_n C dX8_wouldFit_18 rfl hl 3 rfl ?_
        refine g_iload C dX8_wouldFit_19 hl 4 rfl ?_
        refine g_aload_n C dX8_wouldFit_21 rfl hl 0 rfl ?_
        refine g_get C G (pos := 192) fX8_wouldFit_7 (by omega) hM rfl dX8_wouldFit_22 ?_
        refine g_bipush (a := 26) C dX8_wouldFit_25 (by decide) ?_
        refine g_iconst (a := 2) C dX8_wouldFit_27 rfl ?_
        refine g_iload C dX8_wouldFit_28 hl 5 rfl ?_
        refine g_imul C dX8_wouldFit_30 ?_
        refine g_iadd C dX8_wouldFit_31 ?_
        refine g_iaload C G (pos := 193) (by omega) hN (by omega) (by omega) (by omega) dX8_wouldFit_32 ?_
        refine g_aload_n C dX8_wouldFit_33 rfl hl 0 rfl ?_
        refine g_get C G (pos := 192) fX8_wouldFit_7 (by omega) hM rfl dX8_wouldFit_34 ?_
        refine g_bipush (a := 27) C dX8_wouldFit_37 (by decide) ?_
        refine g_iconst (a := 2) C dX8_wouldFit_39 rfl ?_
        refine g_iload C dX8_wouldFit_40 hl 5 rfl ?_
        refine g_imul C dX8_wouldFit_42 ?_
        refine g_iadd C dX8_wouldFit_43 ?_
        refine g_iaload C G (pos := 193) (by omega) hN (by omega) (by omega) (by omega) dX8_wouldFit_44 ?_
        have hsi := hsee i hi.1 (by omega)
        refine g_ci C G (g_runV (As := [.int (iz wq), .int (iz sd), .int (iz ho), .int (iz st0), .int (iz (f (26 + (2 * i)))), .int (iz (f (27 + (2 * i))))]) (rest := []) (pos := 192) C G (c_X8_brings l κ B n ad g ly th mk tx rl a0 wr s0 s1 rm f wq sd ho st0 (f (26 + (2 * i))) (f (27 + (2 * i))) hn8 hM hN hok hwq hst (by omega) (by omega)) (cwV 6 C.1.2.2.2.2 gX8_wouldFit_X8_brings rfl rfl rfl (by decide +kernel) ⟨Nat.le_of_ble_eq_true rfl, Nat.le_of_ble_eq_true rfl⟩) (by omega) hM (T := TX8) (N := 17) rfl rfl hl rfl (Nat.le_of_ble_eq_true rfl) dX8_wouldFit_45 ⟨Nat.le_of_ble_eq_true rfl, Nat.le_of_ble_eq_true rfl⟩) (fun z_5 g9 H locs hw G => ?_)
        obtain ⟨hg9, hw⟩ := hw
        replace hg9 := hg9.symm
        subst hg9
        rcases hw with ⟨b_4, rfl⟩ | ⟨b_4, rfl⟩
        · refine g_if_ne (tgt := 53) C (by decide) dX8_wouldFit_48 (by decide) (fun _ => ?_) (fun c9 => absurd c9 (by decide))
          refine lv_iinc (v := iz (i + 1)) (lv' := [(5, .int (iz (i + 1))), (0, .ref (ad 192)), (1, .int (iz wq)), (2, .int (iz sd)), (3, .int (iz ho)), (4, .int (iz st0))]) C.1.1 C.1.2.1 dX8_wouldFit_53 hl (k := 5) rfl (g_inc (by omega)) (by decide) rfl (fun ls hl => ?_)
          refine g_goto (tgt := 3) C dX8_wouldFit_56 (by decide) ?_
          exact ih_lp_3_n_2 (i + 1) (by omega) (by omega) (fun j j0 j1 => by
              by_cases hj : j = i
              · rw [hj]; exact b_4
              · exact hf j j0 (by omega)) _ _ G _ (lv_sub hl [1, 2, 3, 4, 5, 0] rfl)
        · refine g_if_ne (tgt := 53) C (by decide) dX8_wouldFit_48 (by decide) (fun c9 => absurd c9 (by decide)) (fun _ => ?_)
          refine g_iconst (a := 0) C dX8_wouldFit_51 rfl ?_
          refine g_zret C G hr hlk (by decide) (Nat.le_of_ble_eq_true rfl) (Nat.le_of_ble_eq_true rfl) dX8_wouldFit_52 ?_
          exact ⟨rfl, Or.inr ⟨fun q => b_4 (q i hi.1 (by omega)), rfl⟩⟩
  exact lp_3_n_2 _ 0 (Nat.lt_succ_self _) (by omega) (fun j j0 j1 => absurd j1 (by omega)) _ _ G _ (lv_sub hl [1, 2, 3, 4, 5, 0] rfl)
theorem fwX8_wheels_31 : gFldW wsX8_wheels RX8 31 8 2 .int false := ⟨RX8, TX8, 17, tyX8, rfl, by decide, by decide +kernel, by decide +kernel, tyX8_ok, nmX8, rfl, by decide +kernel, by decide +kernel⟩
set_option maxHeartbeats 4000000 in
set_option maxRecDepth 100000 in
theorem c_X8_wheels (l : Launch) (κ : gKap) (B n : Nat) (ad : Nat → Nat) (g : Nat → va_E) (ly : Int) (th : Int) (mk : Int) (tx : Int) (rl : Int) (a0 : Int) (wr : Int) (s0 : Int) (s1 : Int) (rm : Int) (f : Int → Int) (M9 : Int → Int) (X9 : Int → Int) (q9 : Int → Int) (pa : Int → Int) (be : Int → Int) (sv : Int → Int) (sd : Int) (ho : Int) (st0 : Int) (wh : Int) (hn8 : 200 ≤ n) (hM : g 192 = oM ad ly th mk tx rl a0 wr s0 s1 rm) (hN : g 193 = aI κ 42 f) (hK : g 194 = aI κ 28896 M9) (hT : g 195 = aI κ 100 X9) (hRd : g 196 = aI κ 42 q9) (hPa : g 197 = aI κ 602 pa) (hBe : g 198 = aI κ 43 be) (hSv : g 199 = aI κ 86 sv) (hok : okPl ly f) (hmk : 0 ≤ mk ∧ mk ≤ 800000000) (hMr : ∀ i, 0 ≤ i → i < 28896 → 0 ≤ M9 i ∧ M9 i ≤ mk) (hinq : inV q9) (hsd : inI sd) (hho : inI ho) (hst0 : inI st0) (hwh9 : inI wh) : Met l yX8_wheels wsX8_wheels ({ frames := 4, cells := 0, slots := 0, locals := 92 }) (gPre κ B n ad g [.ref (ad 192), .int (iz sd), .int (iz ho), .int (iz st0), .int (iz wh)]) (gQi κ B n ad (fun z g' => ∃ t9, ((t9 = 1 ∧ ¬ ((sd = 0 ∨ sd = 1) ∧ (0 ≤ ho ∧ ho ≤ 20) ∧ (0 ≤ st0 ∧ st0 < f 0) ∧ 0 ≤ wh ∧ wh ≤ 2)) ∨ (t9 = 0 ∧ ((sd = 0 ∨ sd = 1) ∧ (0 ≤ ho ∧ ho ≤ 20) ∧ (0 ≤ st0 ∧ st0 < f 0) ∧ 0 ≤ wh ∧ wh ≤ 2) ∧ ((wh = 0 ∧ z = (whS f sd ho st0 56).1) ∨ (wh = 1 ∧ z = (whS f sd ho st0 56).2.1) ∨ (wh = 2 ∧ z = (whS f sd ho st0 56).2.2)))) ∧ jkM κ ad g' ly t9 tx s0 s1 rm (mk + 1000) f X9 pa sv ∧ frM g g')) 0 0 (gFree B) := by
  refine g_met RX8 (cc := cX8_wheels) (maxL := 9) (ret := (some .int)) (by decide) rfl rfl (Nat.le_of_ble_eq_true rfl) ?_
  intro p e s m args below meth c C hr hlk hnm G ls hl
  have hl : lv_has ls 9 [(0, .ref (ad 192)), (1, .int (iz sd)), (2, .int (iz ho)), (3, .int (iz st0)), (4, .int (iz wh))] := hl
  obtain ⟨hn6, hv0, hv25, hlay, hsee⟩ := id hok
  refine g_aload_n C dX8_wheels_0 rfl hl 0 rfl ?_
  refine g_iconst (a := 0) C dX8_wheels_1 rfl ?_
  refine g_put C G (pos := 192) (fs' := [.ref (ad 193), .int (iz ly), .int (iz 0), .ref (ad 194), .int (iz mk), .ref (ad 195), .int (iz tx), .ref (ad 196), .int (iz rl), .int (iz a0), .int (iz wr), .int (iz s0), .int (iz s1), .ref (ad 197), .int (iz rm), .ref (ad 198), .ref (ad 199)]) fwX8_wheels_31 (by omega) hM (Nat.le_of_ble_eq_true rfl) rfl rfl rfl dX8_wheels_2 (fun H locs G => ?_)
  obtain ⟨g_1, hg_2⟩ : ∃ g9, g9 = va_up g 192 (.inr (8, [.ref (ad 193), .int (iz ly), .int (iz 0), .ref (ad 194), .int (iz mk), .ref (ad 195), .int (iz tx), .ref (ad 196), .int (iz rl), .int (iz a0), .int (iz wr), .int (iz s0), .int (iz s1), .ref (ad 197), .int (iz rm), .ref (ad 198), .ref (ad 199)])) := ⟨_, rfl⟩
  rw [← hg_2] at G
  have hc_3 : g_1 192 = .inr (8, [.ref (ad 193), .int (iz ly), .int (iz 0), .ref (ad 194), .int (iz mk), .ref (ad 195), .int (iz tx), .ref (ad 196), .int (iz rl), .int (iz a0), .int (iz wr), .int (iz s0), .int (iz s1), .ref (ad 197), .int (iz rm), .ref (ad 198), .ref (ad 199)]) := by rw [hg_2]; exact gu_self _ _ _
  have hc_4 : g_1 193 = aI κ 42 f := by rw [hg_2, gu_ne (by decide)]; exact hN
  have hc_5 : g_1 194 = aI κ 28896 M9 := by rw [hg_2, gu_ne (by decide)]; exact hK
  have hc_6 : g_1 195 = aI κ 100 X9 := by rw [hg_2, gu_ne (by decide)]; exact hT
  have hc_7 : g_1 196 = aI κ 42 q9 := by rw [hg_2, gu_ne (by decide)]; exact hRd
  have hc_8 : g_1 197 = aI κ 602 pa := by rw [hg_2, gu_ne (by decide)]; exact hPa
  have hc_9 : g_1 198 = aI κ 43 be := by rw [hg_2, gu_ne (by decide)]; exact hBe
  have hc_10 : g_1 199 = aI κ 86 sv := by rw [hg_2, gu_ne (by decide)]; exact hSv
  refine g_aload_n C dX8_wheels_5 rfl hl 0 rfl ?_
  refine g_iconst (a := 5) C dX8_wheels_6 rfl ?_
  refine g_iload_n C dX8_wheels_7 rfl hl 1 rfl ?_
  refine g_iload_n C dX8_wheels_8 rfl hl 2 rfl ?_
  refine g_iload_n C dX8_wheels_9 rfl hl 3 rfl ?_
  refine g_ci C G (g_runV (As := [.int (iz 5), .int (iz sd), .int (iz ho), .int (iz st0)]) (rest := []) (pos := 192) C G (c_X8_canBe l κ B n ad g_1 ly 0 mk tx rl a0 wr s0 s1 rm f 5 sd ho st0 hn8 hc_3 hc_4 hok (by omega) hsd hho hst0) (cwV 4 C.1.2.2.2.2 gX8_wheels_X8_canBe rfl rfl rfl (by decide +kernel) ⟨Nat.le_of_ble_eq_true rfl, Nat.le_of_ble_eq_true rfl⟩) (by omega) hc_3 (T := TX8) (N := 17) rfl rfl hl rfl (Nat.le_of_ble_eq_true rfl) dX8_wheels_10 ⟨Nat.le_of_ble_eq_true rfl, Nat.le_of_ble_eq_true rfl⟩) (fun z_12 g9 H locs hw G => ?_)
  obtain ⟨hg9, hw⟩ := hw
  replace hg9 := hg9.symm
  subst hg9
  rcases hw with ⟨b_11, rfl⟩ | ⟨b_11, rfl⟩
  · refine g_if_eq (tgt := 29) C (by decide) dX8_wheels_13 (by decide) (fun c9 => absurd c9 (by decide)) (fun _ => ?_)
    refine g_iload C dX8_wheels_16 hl 4 rfl ?_
    refine g_i2l C (by omega) dX8_wheels_18 ?_
    refine g_lconst (a := 0) C dX8_wheels_19 (by decide) ?_
    refine g_ldc2 (a := 2) C (by decide +kernel) dX8_wheels_20 ?_
    refine g_ci C G (g_runS (As := [.long (jz wh), .long (jz 0), .long (jz 2)]) (rest := []) C G (c_X8_in l κ B n ad g_1 wh 0 2 (by omega) (by omega) (by omega)) (va_cwS 3 C.1.2.2.2.2 gX8_wheels_X8_in rfl rfl rfl (by decide +kernel) ⟨Nat.le_of_ble_eq_true rfl, Nat.le_of_ble_eq_true rfl⟩) rfl hl rfl (Nat.le_of_ble_eq_true rfl) dX8_wheels_23 ⟨Nat.le_of_ble_eq_true rfl, Nat.le_of_ble_eq_true rfl⟩) (fun z_14 g9 H locs hw G => ?_)
    obtain ⟨hg9, hw⟩ := hw
    replace hg9 := hg9.symm
    subst hg9
    rcases hw with ⟨b_13, rfl⟩ | ⟨b_13, rfl⟩
    · refine g_if_ne (tgt := 35) C (by decide) dX8_wheels_26 (by decide) (fun _ => ?_) (fun c9 => absurd c9 (by decide))
      refine g_iconst (a := 0) C dX8_wheels_35 rfl ?_
      refine lv_istore (lv' := [(5, .int (iz 0)), (0, .ref (ad 192)), (1, .int (iz sd)), (2, .int (iz ho)), (3, .int (iz st0)), (4, .int (iz wh))]) C.1.1 C.1.2.1 dX8_wheels_36 hl (by decide) rfl (fun ls hl => ?_)
      refine g_bipush (a := (-9)) C dX8_wheels_38 (by decide) ?_
      refine lv_istore (lv' := [(6, .int (iz (-9))), (5, .int (iz 0)), (0, .ref (ad 192)), (1, .int (iz sd)), (2, .int (iz ho)), (3, .int (iz st0)), (4, .int (iz wh))]) C.1.1 C.1.2.1 dX8_wheels_40 hl (by decide) rfl (fun ls hl => ?_)
      refine g_bipush (a := (-9)) C dX8_wheels_42 (by decide) ?_
      refine lv_istore (lv' := [(7, .int (iz (-9))), (6, .int (iz (-9))), (5, .int (iz 0)), (0, .ref (ad 192)), (1, .int (iz sd)), (2, .int (iz ho)), (3, .int (iz st0)), (4, .int (iz wh))]) C.1.1 C.1.2.1 dX8_wheels_44 hl (by decide) rfl (fun ls hl => ?_)
      refine g_iconst (a := 5) C dX8_wheels_46 rfl ?_
      refine lv_istore (lv' := [(8, .int (iz 5)), (7, .int (iz (-9))), (6, .int (iz (-9))), (5, .int (iz 0)), (0, .ref (ad 192)), (1, .int (iz sd)), (2, .int (iz ho)), (3, .int (iz st0)), (4, .int (iz wh))]) C.1.1 C.1.2.1 dX8_wheels_47 hl (by decide) rfl (fun ls hl => ?_)
      have lp_49_n_16 : ∀ (k_15 : Nat) (nu : Int) (ls9 : Int) (gs9 : Int) (w9 : Int), (61 - w9).toNat < k_15 → (5 ≤ w9 ∧ w9 ≤ 61) → ((0 ≤ nu ∧ nu ≤ w9 - 5) ∧ (-9 ≤ ls9 ∧ ls9 ≤ 60) ∧ -9 ≤ gs9 ∧ gs9 ≤ 60) → (whS f sd ho st0 (w9 - 5).toNat = (nu, ls9, gs9)) → ∀ (H : Heap) (locs : List Loc), gG κ B n ad s g_1 H locs → ∀ (ls : Array Slot), lv_has ls 9 [(0, .ref (ad 192)), (1, .int (iz sd)), (2, .int (iz ho)), (3, .int (iz st0)), (4, .int (iz wh)), (5, .int (iz nu)), (6, .int (iz ls9)), (7, .int (iz gs9)), (8, .int (iz w9))] → W p l e ({ frames := 4, cells := 0, slots := 0, locals := 92 }) s m args below meth c H locs 0 0 (MQ below (gQi κ B n ad (fun z g' => ∃ t9, ((t9 = 1 ∧ ¬ ((sd = 0 ∨ sd = 1) ∧ (0 ≤ ho ∧ ho ≤ 20) ∧ (0 ≤ st0 ∧ st0 < f 0) ∧ 0 ≤ wh ∧ wh ≤ 2)) ∨ (t9 = 0 ∧ ((sd = 0 ∨ sd = 1) ∧ (0 ≤ ho ∧ ho ≤ 20) ∧ (0 ≤ st0 ∧ st0 < f 0) ∧ 0 ≤ wh ∧ wh ≤ 2) ∧ ((wh = 0 ∧ z = (whS f sd ho st0 56).1) ∨ (wh = 1 ∧ z = (whS f sd ho st0 56).2.1) ∨ (wh = 2 ∧ z = (whS f sd ho st0 56).2.2)))) ∧ jkM κ ad g' ly t9 tx s0 s1 rm (mk + 1000) f X9 pa sv ∧ frM g g')) args s 0 0 (gFree B)) (F0 m 49 ls []) := by
        intro k_15
        induction k_15 with
        | zero => intro nu ls9 gs9 w9 hm; exact absurd hm (Nat.not_lt_zero _)
        | succ k_15 ih_lp_49_n_16 =>
          intro nu ls9 gs9 w9 hm hw0 hb hwh H locs G ls hl
          refine g_iload C dX8_wheels_49 hl 8 rfl ?_
          refine g_bipush (a := 60) C dX8_wheels_51 (by decide) ?_
          refine g_icmp_gt (tgt := 97) C (by omega) (by decide) dX8_wheels_53 (by decide) (fun c_17 => ?_) (fun c_17 => ?_)
          · refine g_iload C dX8_wheels_97 hl 4 rfl ?_
            refine g_if_ne (tgt := 107) C (by omega) dX8_wheels_99 (by decide) (fun c_18 => ?_) (fun c_18 => ?_)
            · refine g_iload C dX8_wheels_107 hl 4 rfl ?_
              refine g_iconst (a := 1) C dX8_wheels_109 rfl ?_
              refine g_icmp_ne (tgt := 118) C (by omega) (by decide) dX8_wheels_110 (by decide) (fun c_19 => ?_) (fun c_19 => ?_)
              · refine g_iload C dX8_wheels_118 hl 7 rfl ?_
                refine g_iret C G hr hlk (Nat.le_of_ble_eq_true rfl) (Nat.le_of_ble_eq_true rfl) dX8_wheels_120 ?_
                rw [show w9 = 61 by omega] at hwh
                exact ⟨0, Or.inr ⟨rfl, by omega, Or.inr (Or.inr (⟨by omega, (congrArg (fun q => q.2.2) hwh).symm⟩))⟩, ⟨_, _, _, _, _, _, _, hc_3, hc_4, hc_5, hc_6, hc_7, hc_8, hc_9, hc_10, by omega, hMr, hinq⟩, fun q hq => ((congrFun hg_2 q).trans (gu_ne (by omega)))⟩
              · refine g_iload C dX8_wheels_113 hl 6 rfl ?_
                refine g_goto (tgt := 120) C dX8_wheels_115 (by decide) ?_
                refine g_iret C G hr hlk (Nat.le_of_ble_eq_true rfl) (Nat.le_of_ble_eq_true rfl) dX8_wheels_120 ?_
                rw [show w9 = 61 by omega] at hwh
                exact ⟨0, Or.inr ⟨rfl, by omega, Or.inr (Or.inl ⟨by omega, (congrArg (fun q => q.2.1) hwh).symm⟩)⟩, ⟨_, _, _, _, _, _, _, hc_3, hc_4, hc_5, hc_6, hc_7, hc_8, hc_9, hc_10, by omega, hMr, hinq⟩, fun q hq => ((congrFun hg_2 q).trans (gu_ne (by omega)))⟩
            · refine g_iload C dX8_wheels_102 hl 5 rfl ?_
              refine g_goto (tgt := 120) C dX8_wheels_104 (by decide) ?_
              refine g_iret C G hr hlk (Nat.le_of_ble_eq_true rfl) (Nat.le_of_ble_eq_true rfl) dX8_wheels_120 ?_
              rw [show w9 = 61 by omega] at hwh
              exact ⟨0, Or.inr ⟨rfl, by omega, Or.inl ⟨by omega, (congrArg Prod.fst hwh).symm⟩⟩, ⟨_, _, _, _, _, _, _, hc_3, hc_4, hc_5, hc_6, hc_7, hc_8, hc_9, hc_10, by omega, hMr, hinq⟩, fun q hq => ((congrFun hg_2 q).trans (gu_ne (by omega)))⟩
          · refine g_aload_n C dX8_wheels_56 rfl hl 0 rfl ?_
            refine g_iload C dX8_wheels_57 hl 8 rfl ?_
            refine g_iload_n C dX8_wheels_59 rfl hl 1 rfl ?_
            refine g_iload_n C dX8_wheels_60 rfl hl 2 rfl ?_
            refine g_iload_n C dX8_wheels_61 rfl hl 3 rfl ?_
            refine g_ci C G (g_runV (As := [.int (iz w9), .int (iz sd), .int (iz ho), .int (iz st0)]) (rest := []) (pos := 192) C G (c_X8_wouldFit l κ B n ad g_1 ly 0 mk tx rl a0 wr s0 s1 rm f w9 sd ho st0 hn8 hc_3 hc_4 hok ⟨by omega, by omega, by omega⟩ (by omega)) (cwV 4 C.1.2.2.2.2 gX8_wheels_X8_wouldFit rfl rfl rfl (by decide +kernel) ⟨Nat.le_of_ble_eq_true rfl, Nat.le_of_ble_eq_true rfl⟩) (by omega) hc_3 (T := TX8) (N := 17) rfl rfl hl rfl (Nat.le_of_ble_eq_true rfl) dX8_wheels_62 ⟨Nat.le_of_ble_eq_true rfl, Nat.le_of_ble_eq_true rfl⟩) (fun z_21 g9 H locs hw G => ?_)
            obtain ⟨hg9, hw⟩ := hw
            replace hg9 := hg9.symm
            subst hg9
            rcases hw with ⟨b_20, rfl⟩ | ⟨b_20, rfl⟩
            · refine g_if_eq (tgt := 91) C (by decide) dX8_wheels_65 (by decide) (fun c9 => absurd c9 (by decide)) (fun _ => ?_)
              refine lv_iinc (v := iz (nu + 1)) (lv' := [(5, .int (iz (nu + 1))), (0, .ref (ad 192)), (1, .int (iz sd)), (2, .int (iz ho)), (3, .int (iz st0)), (4, .int (iz wh)), (6, .int (iz ls9)), (7, .int (iz gs9)), (8, .int (iz w9))]) C.1.1 C.1.2.1 dX8_wheels_68 hl (k := 5) rfl (g_inc (by omega)) (by decide) rfl (fun ls hl => ?_)
              refine g_iload C dX8_wheels_71 hl 6 rfl ?_
              refine g_bipush (a := (-9)) C dX8_wheels_73 (by decide) ?_
              refine g_icmp_ne (tgt := 83) C (by omega) (by omega) dX8_wheels_75 (by decide) (fun c_22 => ?_) (fun c_22 => ?_)
              · refine g_iload C dX8_wheels_83 hl 6 rfl ?_
                refine lv_istore (lv' := [(6, .int (iz ls9)), (5, .int (iz (nu + 1))), (0, .ref (ad 192)), (1, .int (iz sd)), (2, .int (iz ho)), (3, .int (iz st0)), (4, .int (iz wh)), (7, .int (iz gs9)), (8, .int (iz w9))]) C.1.1 C.1.2.1 dX8_wheels_85 hl (by decide) rfl (fun ls hl => ?_)
                refine g_iload C dX8_wheels_87 hl 8 rfl ?_
                refine lv_istore (lv' := [(7, .int (iz w9)), (6, .int (iz ls9)), (5, .int (iz (nu + 1))), (0, .ref (ad 192)), (1, .int (iz sd)), (2, .int (iz ho)), (3, .int (iz st0)), (4, .int (iz wh)), (8, .int (iz w9))]) C.1.1 C.1.2.1 dX8_wheels_89 hl (by decide) rfl (fun ls hl => ?_)
                refine lv_iinc (v := iz (w9 + 1)) (lv' := [(8, .int (iz (w9 + 1))), (7, .int (iz w9)), (6, .int (iz ls9)), (5, .int (iz (nu + 1))), (0, .ref (ad 192)), (1, .int (iz sd)), (2, .int (iz ho)), (3, .int (iz st0)), (4, .int (iz wh))]) C.1.1 C.1.2.1 dX8_wheels_91 hl (k := 8) rfl (g_inc (by omega)) (by decide) rfl (fun ls hl => ?_)
                refine g_goto (tgt := 49) C dX8_wheels_94 (by decide) ?_
                exact ih_lp_49_n_16 (nu + 1) ls9 w9 (w9 + 1) (by omega) (by omega) (by omega) (by rw [whS_in (by omega) b_20, hwh]; first | rw [if_pos (show ls9 = -9 by omega)] | rw [if_neg (show ¬ ls9 = -9 by omega)]) _ _ G _ (lv_sub hl [4, 5, 6, 7, 8, 3, 2, 1, 0] rfl)
              · refine g_iload C dX8_wheels_78 hl 8 rfl ?_
                refine g_goto (tgt := 85) C dX8_wheels_80 (by decide) ?_
                refine lv_istore (lv' := [(6, .int (iz w9)), (5, .int (iz (nu + 1))), (0, .ref (ad 192)), (1, .int (iz sd)), (2, .int (iz ho)), (3, .int (iz st0)), (4, .int (iz wh)), (7, .int (iz gs9)), (8, .int (iz w9))]) C.1.1 C.1.2.1 dX8_wheels_85 hl (by decide) rfl (fun ls hl => ?_)
                refine g_iload C dX8_wheels_87 hl 8 rfl ?_
                refine lv_istore (lv' := [(7, .int (iz w9)), (6, .int (iz w9)), (5, .int (iz (nu + 1))), (0, .ref (ad 192)), (1, .int (iz sd)), (2, .int (iz ho)), (3, .int (iz st0)), (4, .int (iz wh)), (8, .int (iz w9))]) C.1.1 C.1.2.1 dX8_wheels_89 hl (by decide) rfl (fun ls hl => ?_)
                refine lv_iinc (v := iz (w9 + 1)) (lv' := [(8, .int (iz (w9 + 1))), (7, .int (iz w9)), (6, .int (iz w9)), (5, .int (iz (nu + 1))), (0, .ref (ad 192)), (1, .int (iz sd)), (2, .int (iz ho)), (3, .int (iz st0)), (4, .int (iz wh))]) C.1.1 C.1.2.1 dX8_wheels_91 hl (k := 8) rfl (g_inc (by omega)) (by decide) rfl (fun ls hl => ?_)
                refine g_goto (tgt := 49) C dX8_wheels_94 (by decide) ?_
                exact ih_lp_49_n_16 (nu + 1) w9 w9 (w9 + 1) (by omega) (by omega) (by omega) (by rw [whS_in (by omega) b_20, hwh]; first | rw [if_pos (show ls9 = -9 by omega)] | rw [if_neg (show ¬ ls9 = -9 by omega)]) _ _ G _ (lv_sub hl [4, 5, 6, 7, 8, 3, 2, 1, 0] rfl)
            · refine g_if_eq (tgt := 91) C (by decide) dX8_wheels_65 (by decide) (fun _ => ?_) (fun c9 => absurd c9 (by decide))
              refine lv_iinc (v := iz (w9 + 1)) (lv' := [(8, .int (iz (w9 + 1))), (0, .ref (ad 192)), (1, .int (iz sd)), (2, .int (iz ho)), (3, .int (iz st0)), (4, .int (iz wh)), (5, .int (iz nu)), (6, .int (iz ls9)), (7, .int (iz gs9))]) C.1.1 C.1.2.1 dX8_wheels_91 hl (k := 8) rfl (g_inc (by omega)) (by decide) rfl (fun ls hl => ?_)
              refine g_goto (tgt := 49) C dX8_wheels_94 (by decide) ?_
              exact ih_lp_49_n_16 nu ls9 gs9 (w9 + 1) (by omega) (by omega) (by omega) (by rw [whS_out (by omega) b_20]; exact hwh) _ _ G _ (lv_sub hl [1, 2, 3, 4, 5, 6, 7, 8, 0] rfl)
      exact lp_49_n_16 _ 0 (-9) (-9) 5 (Nat.lt_succ_self _) (by omega) (by omega) rfl _ _ G _ (lv_sub hl [4, 5, 6, 7, 8, 3, 2, 1, 0] rfl)
    · refine g_if_ne (tgt := 35) C (by decide) dX8_wheels_26 (by decide) (fun c9 => absurd c9 (by decide)) (fun _ => ?_)
      refine g_aload_n C dX8_wheels_29 rfl hl 0 rfl ?_
      refine g_iconst (a := 1) C dX8_wheels_30 rfl ?_
      refine g_ci C G (g_runV (As := [.int (iz 1)]) (rest := []) (pos := 192) C G (c_X8_refused l κ B n ad g_1 ly 0 mk tx rl a0 wr s0 s1 rm 1 hn8 hc_3) (cwV 1 C.1.2.2.2.2 gX8_wheels_X8_refused rfl rfl rfl (by decide +kernel) ⟨Nat.le_of_ble_eq_true rfl, Nat.le_of_ble_eq_true rfl⟩) (by omega) hc_3 (T := TX8) (N := 17) rfl rfl hl rfl (Nat.le_of_ble_eq_true rfl) dX8_wheels_31 ⟨Nat.le_of_ble_eq_true rfl, Nat.le_of_ble_eq_true rfl⟩) (fun z_23 g9 H locs hw G => ?_)
      obtain ⟨hw, h_24⟩ := hw
      subst hw
      obtain ⟨g_25, hg_26⟩ : ∃ g9, g9 = va_up g_1 192 (.inr (8, [.ref (ad 193), .int (iz ly), .int (iz 1), .ref (ad 194), .int (iz mk), .ref (ad 195), .int (iz tx), .ref (ad 196), .int (iz rl), .int (iz a0), .int (iz wr), .int (iz s0), .int (iz s1), .ref (ad 197), .int (iz rm), .ref (ad 198), .ref (ad 199)])) := ⟨_, rfl⟩
      rw [← hg_26] at G
      have hc_27 : g_25 192 = .inr (8, [.ref (ad 193), .int (iz ly), .int (iz 1), .ref (ad 194), .int (iz mk), .ref (ad 195), .int (iz tx), .ref (ad 196), .int (iz rl), .int (iz a0), .int (iz wr), .int (iz s0), .int (iz s1), .ref (ad 197), .int (iz rm), .ref (ad 198), .ref (ad 199)]) := by rw [hg_26]; exact gu_self _ _ _
      have hc_28 : g_25 193 = aI κ 42 f := by rw [hg_26, gu_ne (by decide)]; exact hc_4
      have hc_29 : g_25 194 = aI κ 28896 M9 := by rw [hg_26, gu_ne (by decide)]; exact hc_5
      have hc_30 : g_25 195 = aI κ 100 X9 := by rw [hg_26, gu_ne (by decide)]; exact hc_6
      have hc_31 : g_25 196 = aI κ 42 q9 := by rw [hg_26, gu_ne (by decide)]; exact hc_7
      have hc_32 : g_25 197 = aI κ 602 pa := by rw [hg_26, gu_ne (by decide)]; exact hc_8
      have hc_33 : g_25 198 = aI κ 43 be := by rw [hg_26, gu_ne (by decide)]; exact hc_9
      have hc_34 : g_25 199 = aI κ 86 sv := by rw [hg_26, gu_ne (by decide)]; exact hc_10
      refine g_iret C G hr hlk (Nat.le_of_ble_eq_true rfl) (Nat.le_of_ble_eq_true rfl) dX8_wheels_34 ?_
      exact ⟨1, Or.inl ⟨rfl, by omega⟩, ⟨_, _, _, _, _, _, _, hc_27, hc_28, hc_29, hc_30, hc_31, hc_32, hc_33, hc_34, by omega, hMr, hinq⟩, fun q hq => (((congrFun hg_26 q).trans (gu_ne (by omega))).trans ((congrFun hg_2 q).trans (gu_ne (by omega))))⟩
  · refine g_if_eq (tgt := 29) C (by decide) dX8_wheels_13 (by decide) (fun _ => ?_) (fun c9 => absurd c9 (by decide))
    refine g_aload_n C dX8_wheels_29 rfl hl 0 rfl ?_
    refine g_iconst (a := 1) C dX8_wheels_30 rfl ?_
    refine g_ci C G (g_runV (As := [.int (iz 1)]) (rest := []) (pos := 192) C G (c_X8_refused l κ B n ad g_1 ly 0 mk tx rl a0 wr s0 s1 rm 1 hn8 hc_3) (cwV 1 C.1.2.2.2.2 gX8_wheels_X8_refused rfl rfl rfl (by decide +kernel) ⟨Nat.le_of_ble_eq_true rfl, Nat.le_of_ble_eq_true rfl⟩) (by omega) hc_3 (T := TX8) (N := 17) rfl rfl hl rfl (Nat.le_of_ble_eq_true rfl) dX8_wheels_31 ⟨Nat.le_of_ble_eq_true rfl, Nat.le_of_ble_eq_true rfl⟩) (fun z_35 g9 H locs hw G => ?_)
    obtain ⟨hw, h_36⟩ := hw
    subst hw
    obtain ⟨g_37, hg_38⟩ : ∃ g9, g9 = va_up g_1 192 (.inr (8, [.ref (ad 193), .int (iz ly), .int (iz 1), .ref (ad 194), .int (iz mk), .ref (ad 195), .int (iz tx), .ref (ad 196), .int (iz rl), .int (iz a0), .int (iz wr), .int (iz s0), .int (iz s1), .ref (ad 197), .int (iz rm), .ref (ad 198), .ref (ad 199)])) := ⟨_, rfl⟩
    rw [← hg_38] at G
    have hc_39 : g_37 192 = .inr (8, [.ref (ad 193), .int (iz ly), .int (iz 1), .ref (ad 194), .int (iz mk), .ref (ad 195), .int (iz tx), .ref (ad 196), .int (iz rl), .int (iz a0), .int (iz wr), .int (iz s0), .int (iz s1), .ref (ad 197), .int (iz rm), .ref (ad 198), .ref (ad 199)]) := by rw [hg_38]; exact gu_self _ _ _
    have hc_40 : g_37 193 = aI κ 42 f := by rw [hg_38, gu_ne (by decide)]; exact hc_4
    have hc_41 : g_37 194 = aI κ 28896 M9 := by rw [hg_38, gu_ne (by decide)]; exact hc_5
    have hc_42 : g_37 195 = aI κ 100 X9 := by rw [hg_38, gu_ne (by decide)]; exact hc_6
    have hc_43 : g_37 196 = aI κ 42 q9 := by rw [hg_38, gu_ne (by decide)]; exact hc_7
    have hc_44 : g_37 197 = aI κ 602 pa := by rw [hg_38, gu_ne (by decide)]; exact hc_8
    have hc_45 : g_37 198 = aI κ 43 be := by rw [hg_38, gu_ne (by decide)]; exact hc_9
    have hc_46 : g_37 199 = aI κ 86 sv := by rw [hg_38, gu_ne (by decide)]; exact hc_10
    refine g_iret C G hr hlk (Nat.le_of_ble_eq_true rfl) (Nat.le_of_ble_eq_true rfl) dX8_wheels_34 ?_
    exact ⟨1, Or.inl ⟨rfl, by omega⟩, ⟨_, _, _, _, _, _, _, hc_39, hc_40, hc_41, hc_42, hc_43, hc_44, hc_45, hc_46, by omega, hMr, hinq⟩, fun q hq => (((congrFun hg_38 q).trans (gu_ne (by omega))).trans ((congrFun hg_2 q).trans (gu_ne (by omega))))⟩
theorem fwX8_wheelFor_31 : gFldW wsX8_wheelFor RX8 31 8 2 .int false := ⟨RX8, TX8, 17, tyX8, rfl, by decide, by decide +kernel, by decide +kernel, tyX8_ok, nmX8, rfl, by decide +kernel, by decide +kernel⟩
theorem fX8_wheelFor_7 : gFld wsX8_wheelFor RX8 7 8 0 := ⟨RX8, TX8, 17, rfl, by decide, by decide +kernel, by decide +kernel⟩
set_option maxHeartbeats 4000000 in
set_option maxRecDepth 100000 in
theorem c_X8_wheelFor (l : Launch) (κ : gKap) (B n : Nat) (ad : Nat → Nat) (g : Nat → va_E) (ly : Int) (th : Int) (mk : Int) (tx : Int) (rl : Int) (a0 : Int) (wr : Int) (s0 : Int) (s1 : Int) (rm : Int) (f : Int → Int) (M9 : Int → Int) (X9 : Int → Int) (q9 : Int → Int) (pa : Int → Int) (be : Int → Int) (sv : Int → Int) (tu : Int) (hn8 : 200 ≤ n) (hM : g 192 = oM ad ly th mk tx rl a0 wr s0 s1 rm) (hN : g 193 = aI κ 42 f) (hK : g 194 = aI κ 28896 M9) (hT : g 195 = aI κ 100 X9) (hRd : g 196 = aI κ 42 q9) (hPa : g 197 = aI κ 602 pa) (hBe : g 198 = aI κ 43 be) (hSv : g 199 = aI κ 86 sv) (hok : okPl ly f) (hmk : 0 ≤ mk ∧ mk ≤ 800000000) (hMr : ∀ i, 0 ≤ i → i < 28896 → 0 ≤ M9 i ∧ M9 i ≤ mk) (hinq : inV q9) (htu : inI tu) : Met l yX8_wheelFor wsX8_wheelFor ({ frames := 1, cells := 0, slots := 0, locals := 25 }) (gPre κ B n ad g [.ref (ad 192), .int (iz tu)]) (gQi κ B n ad (fun z g' => ∃ t9, ((t9 = 1 ∧ ¬ (1 ≤ tu ∧ tu ≤ 60)) ∨ (t9 = 0 ∧ (1 ≤ tu ∧ tu ≤ 60) ∧ ∃ d9, isFirst (fun d => tn (f 0) (60 - d) = tu) 56 d9 ∧ z = if d9 = -9 then -9 else 60 - d9)) ∧ jkM κ ad g' ly t9 tx s0 s1 rm (mk + 1000) f X9 pa sv ∧ frM g g')) 0 0 (gFree B) := by
  refine g_met RX8 (cc := cX8_wheelFor) (maxL := 3) (ret := (some .int)) (by decide) rfl rfl (Nat.le_of_ble_eq_true rfl) ?_
  intro p e s m args below meth c C hr hlk hnm G ls hl
  have hl : lv_has ls 3 [(0, .ref (ad 192)), (1, .int (iz tu))] := hl
  obtain ⟨hn6, hv0, hv25, hlay, hsee⟩ := id hok
  refine g_aload_n C dX8_wheelFor_0 rfl hl 0 rfl ?_
  refine g_iconst (a := 0) C dX8_wheelFor_1 rfl ?_
  refine g_put C G (pos := 192) (fs' := [.ref (ad 193), .int (iz ly), .int (iz 0), .ref (ad 194), .int (iz mk), .ref (ad 195), .int (iz tx), .ref (ad 196), .int (iz rl), .int (iz a0), .int (iz wr), .int (iz s0), .int (iz s1), .ref (ad 197), .int (iz rm), .ref (ad 198), .ref (ad 199)]) fwX8_wheelFor_31 (by omega) hM (Nat.le_of_ble_eq_true rfl) rfl rfl rfl dX8_wheelFor_2 (fun H locs G => ?_)
  obtain ⟨g_1, hg_2⟩ : ∃ g9, g9 = va_up g 192 (.inr (8, [.ref (ad 193), .int (iz ly), .int (iz 0), .ref (ad 194), .int (iz mk), .ref (ad 195), .int (iz tx), .ref (ad 196), .int (iz rl), .int (iz a0), .int (iz wr), .int (iz s0), .int (iz s1), .ref (ad 197), .int (iz rm), .ref (ad 198), .ref (ad 199)])) := ⟨_, rfl⟩
  rw [← hg_2] at G
  have hc_3 : g_1 192 = .inr (8, [.ref (ad 193), .int (iz ly), .int (iz 0), .ref (ad 194), .int (iz mk), .ref (ad 195), .int (iz tx), .ref (ad 196), .int (iz rl), .int (iz a0), .int (iz wr), .int (iz s0), .int (iz s1), .ref (ad 197), .int (iz rm), .ref (ad 198), .ref (ad 199)]) := by rw [hg_2]; exact gu_self _ _ _
  have hc_4 : g_1 193 = aI κ 42 f := by rw [hg_2, gu_ne (by decide)]; exact hN
  have hc_5 : g_1 194 = aI κ 28896 M9 := by rw [hg_2, gu_ne (by decide)]; exact hK
  have hc_6 : g_1 195 = aI κ 100 X9 := by rw [hg_2, gu_ne (by decide)]; exact hT
  have hc_7 : g_1 196 = aI κ 42 q9 := by rw [hg_2, gu_ne (by decide)]; exact hRd
  have hc_8 : g_1 197 = aI κ 602 pa := by rw [hg_2, gu_ne (by decide)]; exact hPa
  have hc_9 : g_1 198 = aI κ 43 be := by rw [hg_2, gu_ne (by decide)]; exact hBe
  have hc_10 : g_1 199 = aI κ 86 sv := by rw [hg_2, gu_ne (by decide)]; exact hSv
  refine g_iload_n C dX8_wheelFor_5 rfl hl 1 rfl ?_
  refine g_i2l C (by omega) dX8_wheelFor_6 ?_
  refine g_lconst (a := 1) C dX8_wheelFor_7 (by decide) ?_
  refine g_ldc2 (a := 60) C (by decide +kernel) dX8_wheelFor_8 ?_
  refine g_ci C G (g_runS (As := [.long (jz tu), .long (jz 1), .long (jz 60)]) (rest := []) C G (c_X8_in l κ B n ad g_1 tu 1 60 (by omega) (by omega) (by omega)) (va_cwS 3 C.1.2.2.2.2 gX8_wheelFor_X8_in rfl rfl rfl (by decide +kernel) ⟨Nat.le_of_ble_eq_true rfl, Nat.le_of_ble_eq_true rfl⟩) rfl hl rfl (Nat.le_of_ble_eq_true rfl) dX8_wheelFor_11 ⟨Nat.le_of_ble_eq_true rfl, Nat.le_of_ble_eq_true rfl⟩) (fun z_12 g9 H locs hw G => ?_)
  obtain ⟨hg9, hw⟩ := hw
  replace hg9 := hg9.symm
  subst hg9
  rcases hw with ⟨b_11, rfl⟩ | ⟨b_11, rfl⟩
  · refine g_if_ne (tgt := 23) C (by decide) dX8_wheelFor_14 (by decide) (fun _ => ?_) (fun c9 => absurd c9 (by decide))
    refine g_bipush (a := 60) C dX8_wheelFor_23 (by decide) ?_
    refine lv_istore_n (lv' := [(2, .int (iz 60)), (0, .ref (ad 192)), (1, .int (iz tu))]) C.1.1 C.1.2.1 dX8_wheelFor_25 rfl hl (by decide) rfl (fun ls hl => ?_)
    have lp_26_n_14 : ∀ (k_13 : Nat) (w9 : Int), w9.toNat < k_13 → (4 ≤ w9 ∧ w9 ≤ 60) → (∀ j, w9 < j → j ≤ 60 → ¬ tn (f 0) j = tu) → ∀ (H : Heap) (locs : List Loc), gG κ B n ad s g_1 H locs → ∀ (ls : Array Slot), lv_has ls 3 [(0, .ref (ad 192)), (1, .int (iz tu)), (2, .int (iz w9))] → W p l e ({ frames := 1, cells := 0, slots := 0, locals := 25 }) s m args below meth c H locs 0 0 (MQ below (gQi κ B n ad (fun z g' => ∃ t9, ((t9 = 1 ∧ ¬ (1 ≤ tu ∧ tu ≤ 60)) ∨ (t9 = 0 ∧ (1 ≤ tu ∧ tu ≤ 60) ∧ ∃ d9, isFirst (fun d => tn (f 0) (60 - d) = tu) 56 d9 ∧ z = if d9 = -9 then -9 else 60 - d9)) ∧ jkM κ ad g' ly t9 tx s0 s1 rm (mk + 1000) f X9 pa sv ∧ frM g g')) args s 0 0 (gFree B)) (F0 m 26 ls []) := by
      intro k_13
      induction k_13 with
      | zero => intro w9 hm; exact absurd hm (Nat.not_lt_zero _)
      | succ k_13 ih_lp_26_n_14 =>
        intro w9 hm hw0 hno H locs G ls hl
        refine g_iload_n C dX8_wheelFor_26 rfl hl 2 rfl ?_
        refine g_iconst (a := 5) C dX8_wheelFor_27 rfl ?_
        refine g_icmp_lt (tgt := 55) C (by omega) (by decide) dX8_wheelFor_28 (by decide) (fun c_15 => ?_) (fun c_15 => ?_)
        · refine g_bipush (a := (-9)) C dX8_wheelFor_55 (by decide) ?_
          refine g_iret C G hr hlk (Nat.le_of_ble_eq_true rfl) (Nat.le_of_ble_eq_true rfl) dX8_wheelFor_57 ?_
          exact ⟨0, Or.inr ⟨rfl, by omega, -9, Or.inr ⟨rfl, fun j j0 j1 => hno (60 - j) (by omega) (by omega)⟩, rfl⟩, ⟨_, _, _, _, _, _, _, hc_3, hc_4, hc_5, hc_6, hc_7, hc_8, hc_9, hc_10, by omega, hMr, hinq⟩, fun q hq => ((congrFun hg_2 q).trans (gu_ne (by omega)))⟩
        · refine g_iload_n C dX8_wheelFor_31 rfl hl 2 rfl ?_
          refine g_aload_n C dX8_wheelFor_32 rfl hl 0 rfl ?_
          refine g_get C G (pos := 192) fX8_wheelFor_7 (by omega) hc_3 rfl dX8_wheelFor_33 ?_
          refine g_iconst (a := 0) C dX8_wheelFor_36 rfl ?_
          refine g_iaload C G (pos := 193) (by omega) hc_4 (by omega) (by omega) (by omega) dX8_wheelFor_37 ?_
          refine g_iload_n C dX8_wheelFor_38 rfl hl 2 rfl ?_
          refine g_ci C G (g_runS (As := [.int (iz (f 0)), .int (iz w9)]) (rest := [.int (iz w9)]) C G (c_X8_divisor l κ B n ad g_1 (f 0) w9 (by omega) (by omega)) (va_cwS 2 C.1.2.2.2.2 gX8_wheelFor_X8_divisor rfl rfl rfl (by decide +kernel) ⟨Nat.le_of_ble_eq_true rfl, Nat.le_of_ble_eq_true rfl⟩) rfl hl rfl (Nat.le_of_ble_eq_true rfl) dX8_wheelFor_39 ⟨Nat.le_of_ble_eq_true rfl, Nat.le_of_ble_eq_true rfl⟩) (fun z_16 g9 H locs hw G => ?_)
          obtain ⟨hg9, h_17⟩ := hw
          replace hg9 := hg9.symm
          subst hg9
          refine g_idiv C (by omega) (by omega) (by omega) dX8_wheelFor_42 ?_
          have htn := tn_range (ring := f 0) (w := w9) (by omega) (by omega)
          rw [show (Int.tdiv w9 z_16 : Int) = tn (f 0) w9 from (by rw [h_17.1, tdiv_pos (by omega)]; rfl)]
          refine g_iload_n C dX8_wheelFor_43 rfl hl 1 rfl ?_
          refine g_icmp_ne (tgt := 49) C (by omega) (by omega) dX8_wheelFor_44 (by decide) (fun c_18 => ?_) (fun c_18 => ?_)
          · refine lv_iinc (v := iz (w9 - 1)) (lv' := [(2, .int (iz (w9 - 1))), (0, .ref (ad 192)), (1, .int (iz tu))]) C.1.1 C.1.2.1 dX8_wheelFor_49 hl (k := 2) rfl (g_inc (by omega)) (by decide) rfl (fun ls hl => ?_)
            refine g_goto (tgt := 26) C dX8_wheelFor_52 (by decide) ?_
            exact ih_lp_26_n_14 (w9 - 1) (by omega) (by omega) (fun j j0 j1 => by
                by_cases hj : j = w9
                · rw [hj]; omega
                · exact hno j (by omega) j1) _ _ G _ (lv_sub hl [1, 2, 0] rfl)
          · refine g_iload_n C dX8_wheelFor_47 rfl hl 2 rfl ?_
            refine g_iret C G hr hlk (Nat.le_of_ble_eq_true rfl) (Nat.le_of_ble_eq_true rfl) dX8_wheelFor_48 ?_
            exact ⟨0, Or.inr ⟨rfl, by omega, 60 - w9, Or.inl ⟨by omega, by omega, by show tn (f 0) (60 - (60 - w9)) = tu; rw [show 60 - (60 - w9) = w9 by omega]; omega, fun j j0 j1 => hno (60 - j) (by omega) (by omega)⟩, by rw [if_neg (by omega)]; omega⟩, ⟨_, _, _, _, _, _, _, hc_3, hc_4, hc_5, hc_6, hc_7, hc_8, hc_9, hc_10, by omega, hMr, hinq⟩, fun q hq => ((congrFun hg_2 q).trans (gu_ne (by omega)))⟩
    exact lp_26_n_14 _ 60 (Nat.lt_succ_self _) (by omega) (fun j j0 j1 => absurd j1 (by omega)) _ _ G _ (lv_sub hl [1, 2, 0] rfl)
  · refine g_if_ne (tgt := 23) C (by decide) dX8_wheelFor_14 (by decide) (fun c9 => absurd c9 (by decide)) (fun _ => ?_)
    refine g_aload_n C dX8_wheelFor_17 rfl hl 0 rfl ?_
    refine g_iconst (a := 1) C dX8_wheelFor_18 rfl ?_
    refine g_ci C G (g_runV (As := [.int (iz 1)]) (rest := []) (pos := 192) C G (c_X8_refused l κ B n ad g_1 ly 0 mk tx rl a0 wr s0 s1 rm 1 hn8 hc_3) (cwV 1 C.1.2.2.2.2 gX8_wheelFor_X8_refused rfl rfl rfl (by decide +kernel) ⟨Nat.le_of_ble_eq_true rfl, Nat.le_of_ble_eq_true rfl⟩) (by omega) hc_3 (T := TX8) (N := 17) rfl rfl hl rfl (Nat.le_of_ble_eq_true rfl) dX8_wheelFor_19 ⟨Nat.le_of_ble_eq_true rfl, Nat.le_of_ble_eq_true rfl⟩) (fun z_19 g9 H locs hw G => ?_)
    obtain ⟨hw, h_20⟩ := hw
    subst hw
    obtain ⟨g_21, hg_22⟩ : ∃ g9, g9 = va_up g_1 192 (.inr (8, [.ref (ad 193), .int (iz ly), .int (iz 1), .ref (ad 194), .int (iz mk), .ref (ad 195), .int (iz tx), .ref (ad 196), .int (iz rl), .int (iz a0), .int (iz wr), .int (iz s0), .int (iz s1), .ref (ad 197), .int (iz rm), .ref (ad 198), .ref (ad 199)])) := ⟨_, rfl⟩
    rw [← hg_22] at G
    have hc_23 : g_21 192 = .inr (8, [.ref (ad 193), .int (iz ly), .int (iz 1), .ref (ad 194), .int (iz mk), .ref (ad 195), .int (iz tx), .ref (ad 196), .int (iz rl), .int (iz a0), .int (iz wr), .int (iz s0), .int (iz s1), .ref (ad 197), .int (iz rm), .ref (ad 198), .ref (ad 199)]) := by rw [hg_22]; exact gu_self _ _ _
    have hc_24 : g_21 193 = aI κ 42 f := by rw [hg_22, gu_ne (by decide)]; exact hc_4
    have hc_25 : g_21 194 = aI κ 28896 M9 := by rw [hg_22, gu_ne (by decide)]; exact hc_5
    have hc_26 : g_21 195 = aI κ 100 X9 := by rw [hg_22, gu_ne (by decide)]; exact hc_6
    have hc_27 : g_21 196 = aI κ 42 q9 := by rw [hg_22, gu_ne (by decide)]; exact hc_7
    have hc_28 : g_21 197 = aI κ 602 pa := by rw [hg_22, gu_ne (by decide)]; exact hc_8
    have hc_29 : g_21 198 = aI κ 43 be := by rw [hg_22, gu_ne (by decide)]; exact hc_9
    have hc_30 : g_21 199 = aI κ 86 sv := by rw [hg_22, gu_ne (by decide)]; exact hc_10
    refine g_iret C G hr hlk (Nat.le_of_ble_eq_true rfl) (Nat.le_of_ble_eq_true rfl) dX8_wheelFor_22 ?_
    exact ⟨1, Or.inl ⟨rfl, by omega⟩, ⟨_, _, _, _, _, _, _, hc_23, hc_24, hc_25, hc_26, hc_27, hc_28, hc_29, hc_30, by omega, hMr, hinq⟩, fun q hq => (((congrFun hg_22 q).trans (gu_ne (by omega))).trans ((congrFun hg_2 q).trans (gu_ne (by omega))))⟩
theorem fwX8_simulate_31 : gFldW wsX8_simulate RX8 31 8 2 .int false := ⟨RX8, TX8, 17, tyX8, rfl, by decide, by decide +kernel, by decide +kernel, tyX8_ok, nmX8, rfl, by decide +kernel, by decide +kernel⟩
theorem fX8_simulate_67 : gFld wsX8_simulate RX8 67 8 4 := ⟨RX8, TX8, 17, rfl, by decide, by decide +kernel, by decide +kernel⟩
theorem fwX8_simulate_67 : gFldW wsX8_simulate RX8 67 8 4 .int false := ⟨RX8, TX8, 17, tyX8, rfl, by decide, by decide +kernel, by decide +kernel, tyX8_ok, nmX8, rfl, by decide +kernel, by decide +kernel⟩
theorem fX8_simulate_7 : gFld wsX8_simulate RX8 7 8 0 := ⟨RX8, TX8, 17, rfl, by decide, by decide +kernel, by decide +kernel⟩
theorem fX8_simulate_13 : gFld wsX8_simulate RX8 13 8 3 := ⟨RX8, TX8, 17, rfl, by decide, by decide +kernel, by decide +kernel⟩
set_option maxHeartbeats 4000000 in
set_option maxRecDepth 100000 in
theorem c_X8_simulate (l : Launch) (κ : gKap) (B n : Nat) (ad : Nat → Nat) (g : Nat → va_E) (ly : Int) (th : Int) (mk : Int) (tx : Int) (rl : Int) (a0 : Int) (wr : Int) (s0 : Int) (s1 : Int) (rm : Int) (f : Int → Int) (M9 : Int → Int) (X9 : Int → Int) (q9 : Int → Int) (pa : Int → Int) (be : Int → Int) (sv : Int → Int) (sd9 : Int) (m9 : Int) (hn8 : 200 ≤ n) (hM : g 192 = oM ad ly th mk tx rl a0 wr s0 s1 rm) (hN : g 193 = aI κ 42 f) (hK : g 194 = aI κ 28896 M9) (hT : g 195 = aI κ 100 X9) (hRd : g 196 = aI κ 42 q9) (hPa : g 197 = aI κ 602 pa) (hBe : g 198 = aI κ 43 be) (hSv : g 199 = aI κ 86 sv) (hok : okPl ly f) (hmk : 0 ≤ mk ∧ mk ≤ 800000000) (hMr : ∀ i, 0 ≤ i → i < 28896 → 0 ≤ M9 i ∧ M9 i ≤ mk) (hinq : inV q9) (hsd9 : inJ sd9) (hm9 : inI m9) : Met l yX8_simulate wsX8_simulate ({ frames := 1, cells := 0, slots := 0, locals := 26 }) (gPre κ B n ad g [.ref (ad 192), .long (jz sd9), .int (iz m9)]) (gQi κ B n ad (fun z g' => ∃ t9, ((t9 = 1 ∧ ¬ (1 ≤ m9 ∧ m9 ≤ 200)) ∨ (t9 = 0 ∧ (1 ≤ m9 ∧ m9 ≤ 200) ∧ z = 1000 * (cntS (fun x y => ∃ j, 0 ≤ j ∧ j < m9 ∧ x = sma (f 0) sd9 j ∧ y = smd sd9 j) : Int) + smx sd9 m9.toNat)) ∧ jkM κ ad g' ly t9 tx s0 s1 rm (mk + 1000) f X9 pa sv ∧ frM g g')) 0 0 (gFree B) := by
  refine g_met RX8 (cc := cX8_simulate) (maxL := 14) (ret := (some .int)) (by decide) rfl rfl (Nat.le_of_ble_eq_true rfl) ?_
  intro p e s m args below meth c C hr hlk hnm G ls hl
  have hl : lv_has ls 14 [(0, .ref (ad 192)), (1, .long (jz sd9)), (3, .int (iz m9))] := hl
  obtain ⟨hn6, hv0, hv25, hlay, hsee⟩ := id hok
  refine g_aload_n C dX8_simulate_0 rfl hl 0 rfl ?_
  refine g_iconst (a := 0) C dX8_simulate_1 rfl ?_
  refine g_put C G (pos := 192) (fs' := [.ref (ad 193), .int (iz ly), .int (iz 0), .ref (ad 194), .int (iz mk), .ref (ad 195), .int (iz tx), .ref (ad 196), .int (iz rl), .int (iz a0), .int (iz wr), .int (iz s0), .int (iz s1), .ref (ad 197), .int (iz rm), .ref (ad 198), .ref (ad 199)]) fwX8_simulate_31 (by omega) hM (Nat.le_of_ble_eq_true rfl) rfl rfl rfl dX8_simulate_2 (fun H locs G => ?_)
  obtain ⟨g_1, hg_2⟩ : ∃ g9, g9 = va_up g 192 (.inr (8, [.ref (ad 193), .int (iz ly), .int (iz 0), .ref (ad 194), .int (iz mk), .ref (ad 195), .int (iz tx), .ref (ad 196), .int (iz rl), .int (iz a0), .int (iz wr), .int (iz s0), .int (iz s1), .ref (ad 197), .int (iz rm), .ref (ad 198), .ref (ad 199)])) := ⟨_, rfl⟩
  rw [← hg_2] at G
  have hc_3 : g_1 192 = .inr (8, [.ref (ad 193), .int (iz ly), .int (iz 0), .ref (ad 194), .int (iz mk), .ref (ad 195), .int (iz tx), .ref (ad 196), .int (iz rl), .int (iz a0), .int (iz wr), .int (iz s0), .int (iz s1), .ref (ad 197), .int (iz rm), .ref (ad 198), .ref (ad 199)]) := by rw [hg_2]; exact gu_self _ _ _
  have hc_4 : g_1 193 = aI κ 42 f := by rw [hg_2, gu_ne (by decide)]; exact hN
  have hc_5 : g_1 194 = aI κ 28896 M9 := by rw [hg_2, gu_ne (by decide)]; exact hK
  have hc_6 : g_1 195 = aI κ 100 X9 := by rw [hg_2, gu_ne (by decide)]; exact hT
  have hc_7 : g_1 196 = aI κ 42 q9 := by rw [hg_2, gu_ne (by decide)]; exact hRd
  have hc_8 : g_1 197 = aI κ 602 pa := by rw [hg_2, gu_ne (by decide)]; exact hPa
  have hc_9 : g_1 198 = aI κ 43 be := by rw [hg_2, gu_ne (by decide)]; exact hBe
  have hc_10 : g_1 199 = aI κ 86 sv := by rw [hg_2, gu_ne (by decide)]; exact hSv
  refine g_iload_n C dX8_simulate_5 rfl hl 2 rfl ?_
  refine g_i2l C (by omega) dX8_simulate_6 ?_
  refine g_lconst (a := 1) C dX8_simulate_7 (by decide) ?_
  refine g_ldc2 (a := 200) C (by decide +kernel) dX8_simulate_8 ?_
  refine g_ci C G (g_runS (As := [.long (jz m9), .long (jz 1), .long (jz 200)]) (rest := []) C G (c_X8_in l κ B n ad g_1 m9 1 200 (by omega) (by omega) (by omega)) (va_cwS 3 C.1.2.2.2.2 gX8_simulate_X8_in rfl rfl rfl (by decide +kernel) ⟨Nat.le_of_ble_eq_true rfl, Nat.le_of_ble_eq_true rfl⟩) rfl hl rfl (Nat.le_of_ble_eq_true rfl) dX8_simulate_11 ⟨Nat.le_of_ble_eq_true rfl, Nat.le_of_ble_eq_true rfl⟩) (fun z_12 g9 H locs hw G => ?_)
  obtain ⟨hg9, hw⟩ := hw
  replace hg9 := hg9.symm
  subst hg9
  rcases hw with ⟨b_11, rfl⟩ | ⟨b_11, rfl⟩
  · refine g_if_ne (tgt := 23) C (by decide) dX8_simulate_14 (by decide) (fun _ => ?_) (fun c9 => absurd c9 (by decide))
    refine g_aload_n C dX8_simulate_23 rfl hl 0 rfl ?_
    refine lv_dup C.1.1 C.1.2.1 dX8_simulate_24 rfl ?_
    refine g_get C G (pos := 192) fX8_simulate_67 (by omega) hc_3 rfl dX8_simulate_25 ?_
    refine g_iconst (a := 1) C dX8_simulate_28 rfl ?_
    refine g_iadd C dX8_simulate_29 ?_
    refine g_put C G (pos := 192) (fs' := [.ref (ad 193), .int (iz ly), .int (iz 0), .ref (ad 194), .int (iz (mk + 1)), .ref (ad 195), .int (iz tx), .ref (ad 196), .int (iz rl), .int (iz a0), .int (iz wr), .int (iz s0), .int (iz s1), .ref (ad 197), .int (iz rm), .ref (ad 198), .ref (ad 199)]) fwX8_simulate_67 (by omega) hc_3 (Nat.le_of_ble_eq_true rfl) rfl rfl rfl dX8_simulate_30 (fun H locs G => ?_)
    obtain ⟨g_13, hg_14⟩ : ∃ g9, g9 = va_up g_1 192 (.inr (8, [.ref (ad 193), .int (iz ly), .int (iz 0), .ref (ad 194), .int (iz (mk + 1)), .ref (ad 195), .int (iz tx), .ref (ad 196), .int (iz rl), .int (iz a0), .int (iz wr), .int (iz s0), .int (iz s1), .ref (ad 197), .int (iz rm), .ref (ad 198), .ref (ad 199)])) := ⟨_, rfl⟩
    rw [← hg_14] at G
    have hc_15 : g_13 192 = .inr (8, [.ref (ad 193), .int (iz ly), .int (iz 0), .ref (ad 194), .int (iz (mk + 1)), .ref (ad 195), .int (iz tx), .ref (ad 196), .int (iz rl), .int (iz a0), .int (iz wr), .int (iz s0), .int (iz s1), .ref (ad 197), .int (iz rm), .ref (ad 198), .ref (ad 199)]) := by rw [hg_14]; exact gu_self _ _ _
    have hc_16 : g_13 193 = aI κ 42 f := by rw [hg_14, gu_ne (by decide)]; exact hc_4
    have hc_17 : g_13 194 = aI κ 28896 M9 := by rw [hg_14, gu_ne (by decide)]; exact hc_5
    have hc_18 : g_13 195 = aI κ 100 X9 := by rw [hg_14, gu_ne (by decide)]; exact hc_6
    have hc_19 : g_13 196 = aI κ 42 q9 := by rw [hg_14, gu_ne (by decide)]; exact hc_7
    have hc_20 : g_13 197 = aI κ 602 pa := by rw [hg_14, gu_ne (by decide)]; exact hc_8
    have hc_21 : g_13 198 = aI κ 43 be := by rw [hg_14, gu_ne (by decide)]; exact hc_9
    have hc_22 : g_13 199 = aI κ 86 sv := by rw [hg_14, gu_ne (by decide)]; exact hc_10
    refine g_lload_n C dX8_simulate_33 rfl hl 1 rfl ?_
    refine lv_lstore (lv' := [(4, .long (jz sd9)), (0, .ref (ad 192)), (1, .long (jz sd9)), (3, .int (iz m9))]) C.1.1 C.1.2.1 dX8_simulate_34 hl (by decide) rfl (fun ls hl => ?_)
    refine g_iconst (a := 0) C dX8_simulate_36 rfl ?_
    refine lv_istore (lv' := [(6, .int (iz 0)), (4, .long (jz sd9)), (0, .ref (ad 192)), (1, .long (jz sd9)), (3, .int (iz m9))]) C.1.1 C.1.2.1 dX8_simulate_37 hl (by decide) rfl (fun ls hl => ?_)
    refine g_iconst (a := 0) C dX8_simulate_39 rfl ?_
    refine lv_istore (lv' := [(7, .int (iz 0)), (6, .int (iz 0)), (4, .long (jz sd9)), (0, .ref (ad 192)), (1, .long (jz sd9)), (3, .int (iz m9))]) C.1.1 C.1.2.1 dX8_simulate_40 hl (by decide) rfl (fun ls hl => ?_)
    refine g_iconst (a := 0) C dX8_simulate_42 rfl ?_
    refine lv_istore (lv' := [(8, .int (iz 0)), (7, .int (iz 0)), (6, .int (iz 0)), (4, .long (jz sd9)), (0, .ref (ad 192)), (1, .long (jz sd9)), (3, .int (iz m9))]) C.1.1 C.1.2.1 dX8_simulate_43 hl (by decide) rfl (fun ls hl => ?_)
    have hfL : frM g g_13 := fun q hq => (((congrFun hg_14 q).trans (gu_ne (by omega))).trans ((congrFun hg_2 q).trans (gu_ne (by omega))))
    have lp_45_n_24 : ∀ (k_23 : Nat) (nu : Int) (fa : Int) (k : Int) (V : Int → Int) (gv : Nat → va_E), (m9 - k).toNat < k_23 → (0 ≤ k ∧ k ≤ m9) → ((0 ≤ nu ∧ nu ≤ k) ∧ 0 ≤ fa ∧ fa ≤ 280) → (gv = va_up g_13 194 (aI κ 28896 V)) → (mkS V (mk + 1) (fun x y => ∃ j, 0 ≤ j ∧ j < k ∧ x = sma (f 0) sd9 j ∧ y = smd sd9 j)) → (nu = (cntS (fun x y => ∃ j, 0 ≤ j ∧ j < k ∧ x = sma (f 0) sd9 j ∧ y = smd sd9 j) : Int)) → (fa = smx sd9 k.toNat) → ∀ (H : Heap) (locs : List Loc), gG κ B n ad s gv H locs → ∀ (ls : Array Slot), lv_has ls 14 [(0, .ref (ad 192)), (1, .long (jz sd9)), (3, .int (iz m9)), (4, .long (jz (xsq sd9 k.toNat))), (6, .int (iz nu)), (7, .int (iz fa)), (8, .int (iz k))] → W p l e ({ frames := 1, cells := 0, slots := 0, locals := 26 }) s m args below meth c H locs 0 0 (MQ below (gQi κ B n ad (fun z g' => ∃ t9, ((t9 = 1 ∧ ¬ (1 ≤ m9 ∧ m9 ≤ 200)) ∨ (t9 = 0 ∧ (1 ≤ m9 ∧ m9 ≤ 200) ∧ z = 1000 * (cntS (fun x y => ∃ j, 0 ≤ j ∧ j < m9 ∧ x = sma (f 0) sd9 j ∧ y = smd sd9 j) : Int) + smx sd9 m9.toNat)) ∧ jkM κ ad g' ly t9 tx s0 s1 rm (mk + 1000) f X9 pa sv ∧ frM g g')) args s 0 0 (gFree B)) (F0 m 45 ls []) := by
      intro k_23
      induction k_23 with
      | zero => intro nu fa k V gv hm; exact absurd hm (Nat.not_lt_zero _)
      | succ k_23 ih_lp_45_n_24 =>
        intro nu fa k V gv hm hk hb hgv hS hnu hfa H locs G ls hl
        have hk9 : gv 194 = aI κ 28896 V := by rw [hgv]; exact gu_self _ _ _
        have hc_25 : gv 192 = .inr (8, [.ref (ad 193), .int (iz ly), .int (iz 0), .ref (ad 194), .int (iz (mk + 1)), .ref (ad 195), .int (iz tx), .ref (ad 196), .int (iz rl), .int (iz a0), .int (iz wr), .int (iz s0), .int (iz s1), .ref (ad 197), .int (iz rm), .ref (ad 198), .ref (ad 199)]) := by rw [hgv, gu_ne (by decide)]; exact hc_15
        have hc_26 : gv 193 = aI κ 42 f := by rw [hgv, gu_ne (by decide)]; exact hc_16
        have hc_27 : gv 195 = aI κ 100 X9 := by rw [hgv, gu_ne (by decide)]; exact hc_18
        have hc_28 : gv 196 = aI κ 42 q9 := by rw [hgv, gu_ne (by decide)]; exact hc_19
        have hc_29 : gv 197 = aI κ 602 pa := by rw [hgv, gu_ne (by decide)]; exact hc_20
        have hc_30 : gv 198 = aI κ 43 be := by rw [hgv, gu_ne (by decide)]; exact hc_21
        have hc_31 : gv 199 = aI κ 86 sv := by rw [hgv, gu_ne (by decide)]; exact hc_22
        have hsr : 0 ≤ smr sd9 k ∧ smr sd9 k < 2147483648 := smr_rg
        have hsa := sma_rg (ring := f 0) (s := sd9) (k := k) (by omega)
        refine g_iload C dX8_simulate_45 hl 6 rfl ?_
        refine g_iload_n C dX8_simulate_47 rfl hl 2 rfl ?_
        refine g_icmp_ge (tgt := 195) C (by omega) (by omega) dX8_simulate_48 (by decide) (fun c_32 => ?_) (fun c_32 => ?_)
        · refine g_sipush (a := 1000) C dX8_simulate_195 (by decide) ?_
          refine g_iload C dX8_simulate_198 hl 4 rfl ?_
          refine g_imul C dX8_simulate_200 ?_
          refine g_iload C dX8_simulate_201 hl 5 rfl ?_
          refine g_iadd C dX8_simulate_203 ?_
          refine g_iret C G hr hlk (Nat.le_of_ble_eq_true rfl) (Nat.le_of_ble_eq_true rfl) dX8_simulate_204 ?_
          have hk8 : k = m9 := by omega
          subst hk8
          exact ⟨0, Or.inr ⟨rfl, by omega, by rw [hnu, hfa]⟩, ⟨_, _, _, _, _, _, _, hc_25, hc_26, hk9, hc_27, hc_28, hc_29, hc_30, hc_31, by omega, hS.1, hinq⟩, fun q hq => (((congrFun hgv q).trans (gu_ne (by omega))).trans (hfL q (by omega)))⟩
        · refine g_lload C dX8_simulate_51 hl 3 rfl ?_
          refine g_ldc2 (a := 6364136223846793005) C (by decide +kernel) dX8_simulate_53 ?_
          refine g_lmul C dX8_simulate_56 ?_
          refine g_ldc2 (a := 1442695040888963407) C (by decide +kernel) dX8_simulate_57 ?_
          refine g_ladd C dX8_simulate_60 ?_
          rw [show xsq sd9 k.toNat * 6364136223846793005 + 1442695040888963407 = xsq sd9 (k + 1).toNat from (xsq_step hk.1).symm]
          refine lv_lstore (lv' := [(4, .long (jz (xsq sd9 (k + 1).toNat))), (0, .ref (ad 192)), (1, .long (jz sd9)), (3, .int (iz m9)), (6, .int (iz nu)), (7, .int (iz fa)), (8, .int (iz k))]) C.1.1 C.1.2.1 dX8_simulate_61 hl (by decide) rfl (fun ls hl => ?_)
          refine g_lload C dX8_simulate_63 hl 0 rfl ?_
          rw [jz_lN (xsq sd9 (k + 1).toNat)]
          refine g_bipush (a := 33) C dX8_simulate_65 (by decide) ?_
          refine g_lushrN C 33 (by decide) (by decide) (by omega) dX8_simulate_67 ?_
          refine g_l2iN C dX8_simulate_68 ?_
          rw [show ((((xsq sd9 (k + 1).toNat % 18446744073709551616).toNat) / 2 ^ 33 : Nat) : Int) = smr sd9 k from rfl]
          refine lv_istore (lv' := [(9, .int (iz (smr sd9 k))), (4, .long (jz (xsq sd9 (k + 1).toNat))), (0, .ref (ad 192)), (1, .long (jz sd9)), (3, .int (iz m9)), (6, .int (iz nu)), (7, .int (iz fa)), (8, .int (iz k))]) C.1.1 C.1.2.1 dX8_simulate_69 hl (by decide) rfl (fun ls hl => ?_)
          refine g_iconst (a := 5) C dX8_simulate_71 rfl ?_
          refine g_iload C dX8_simulate_72 hl 0 rfl ?_
          refine g_bipush (a := 56) C dX8_simulate_74 (by decide) ?_
          refine g_irem C (by omega) (by decide) (by decide) dX8_simulate_76 ?_
          rw [show (Int.tmod (smr sd9 k) 56 : Int) = (smr sd9 k) % 56 from (tmod_pos (by omega))]
          refine g_iadd C dX8_simulate_77 ?_
          refine lv_istore (lv' := [(10, .int (iz (5 + ((smr sd9 k) % 56)))), (9, .int (iz (smr sd9 k))), (4, .long (jz (xsq sd9 (k + 1).toNat))), (0, .ref (ad 192)), (1, .long (jz sd9)), (3, .int (iz m9)), (6, .int (iz nu)), (7, .int (iz fa)), (8, .int (iz k))]) C.1.1 C.1.2.1 dX8_simulate_78 hl (by decide) rfl (fun ls hl => ?_)
          refine g_iload C dX8_simulate_80 hl 1 rfl ?_
          refine g_sipush (a := 4096) C dX8_simulate_82 (by decide) ?_
          refine g_idiv C (by omega) (by decide) (by decide) dX8_simulate_85 ?_
          rw [show (Int.tdiv (smr sd9 k) 4096 : Int) = (smr sd9 k) / 4096 from (tdiv_pos (by omega))]
          refine g_sipush (a := 1000) C dX8_simulate_86 (by decide) ?_
          refine g_irem C (by omega) (by decide) (by decide) dX8_simulate_89 ?_
          rw [show (Int.tmod ((smr sd9 k) / 4096) 1000 : Int) = ((smr sd9 k) / 4096) % 1000 from (tmod_pos (by omega))]
          refine lv_istore (lv' := [(11, .int (iz (((smr sd9 k) / 4096) % 1000))), (10, .int (iz (5 + ((smr sd9 k) % 56)))), (9, .int (iz (smr sd9 k))), (4, .long (jz (xsq sd9 (k + 1).toNat))), (0, .ref (ad 192)), (1, .long (jz sd9)), (3, .int (iz m9)), (6, .int (iz nu)), (7, .int (iz fa)), (8, .int (iz k))]) C.1.1 C.1.2.1 dX8_simulate_90 hl (by decide) rfl (fun ls hl => ?_)
          refine g_iload C dX8_simulate_92 hl 1 rfl ?_
          refine g_iload C dX8_simulate_94 hl 2 rfl ?_
          refine g_bipush (a := 64) C dX8_simulate_96 (by decide) ?_
          refine g_idiv C (by omega) (by decide) (by decide) dX8_simulate_98 ?_
          rw [show (Int.tdiv (smr sd9 k) 64 : Int) = (smr sd9 k) / 64 from (tdiv_pos (by omega))]
          refine g_iconst (a := 2) C dX8_simulate_99 rfl ?_
          refine g_irem C (by omega) (by decide) (by decide) dX8_simulate_100 ?_
          rw [show (Int.tmod ((smr sd9 k) / 64) 2 : Int) = ((smr sd9 k) / 64) % 2 from (tmod_pos (by omega))]
          refine g_iload C dX8_simulate_101 hl 2 rfl ?_
          refine g_sipush (a := 128) C dX8_simulate_103 (by decide) ?_
          refine g_idiv C (by omega) (by decide) (by decide) dX8_simulate_106 ?_
          rw [show (Int.tdiv (smr sd9 k) 128 : Int) = (smr sd9 k) / 128 from (tdiv_pos (by omega))]
          refine g_bipush (a := 21) C dX8_simulate_107 (by decide) ?_
          refine g_irem C (by omega) (by decide) (by decide) dX8_simulate_109 ?_
          rw [show (Int.tmod ((smr sd9 k) / 128) 21 : Int) = ((smr sd9 k) / 128) % 21 from (tmod_pos (by omega))]
          refine g_iload C dX8_simulate_110 hl 0 rfl ?_
          refine g_iload C dX8_simulate_112 hl 1 rfl ?_
          refine g_irem C (by omega) (by omega) (by omega) dX8_simulate_114 ?_
          rw [show (Int.tmod (((smr sd9 k) / 4096) % 1000) (5 + ((smr sd9 k) % 56)) : Int) = ((smr sd9 k / 4096) % 1000) % (5 + (smr sd9 k % 56)) from (tmod_pos (by omega))]
          have hu0 := Int.emod_nonneg ((smr sd9 k / 4096) % 1000) (show 5 + (smr sd9 k % 56) ≠ 0 by omega)
          have hu1 := Int.emod_lt_of_pos ((smr sd9 k / 4096) % 1000) (show 0 < 5 + (smr sd9 k % 56) by omega)
          refine g_ci C G (g_runS (As := [.int (iz (5 + ((smr sd9 k) % 56))), .int (iz (((smr sd9 k) / 64) % 2)), .int (iz (((smr sd9 k) / 128) % 21)), .int (iz (((smr sd9 k / 4096) % 1000) % (5 + (smr sd9 k % 56))))]) (rest := []) C G (c_X8_radius l κ B n ad gv (5 + ((smr sd9 k) % 56)) (((smr sd9 k) / 64) % 2) (((smr sd9 k) / 128) % 21) (((smr sd9 k / 4096) % 1000) % (5 + (smr sd9 k % 56))) ⟨by omega, by omega, by omega⟩ ⟨hu0, hu1⟩) (va_cwS 4 C.1.2.2.2.2 gX8_simulate_X8_radius rfl rfl rfl (by decide +kernel) ⟨Nat.le_of_ble_eq_true rfl, Nat.le_of_ble_eq_true rfl⟩) rfl hl rfl (Nat.le_of_ble_eq_true rfl) dX8_simulate_115 ⟨Nat.le_of_ble_eq_true rfl, Nat.le_of_ble_eq_true rfl⟩) (fun z_33 g9 H locs hw G => ?_)
          obtain ⟨hg9, h_34⟩ := hw
          replace hg9 := hg9.symm
          subst hg9
          have her : z_33 = smd sd9 k := h_34.1
          have hS9 : V (sma (f 0) sd9 k * 301 + z_33) = mk + 1 ↔ smP (f 0) sd9 k (sma (f 0) sd9 k) z_33 := hS.2 (sma (f 0) sd9 k) z_33 (by omega) (by omega) (by omega) (by omega)
          have hvr := hS.1 (sma (f 0) sd9 k * 301 + z_33) (by omega) (by omega)
          refine lv_istore (lv' := [(12, .int (iz z_33)), (11, .int (iz (((smr sd9 k) / 4096) % 1000))), (10, .int (iz (5 + ((smr sd9 k) % 56)))), (9, .int (iz (smr sd9 k))), (4, .long (jz (xsq sd9 (k + 1).toNat))), (0, .ref (ad 192)), (1, .long (jz sd9)), (3, .int (iz m9)), (6, .int (iz nu)), (7, .int (iz fa)), (8, .int (iz k))]) C.1.1 C.1.2.1 dX8_simulate_118 hl (by decide) rfl (fun ls hl => ?_)
          refine g_iload C dX8_simulate_120 hl 1 rfl ?_
          refine g_aload_n C dX8_simulate_122 rfl hl 5 rfl ?_
          refine g_get C G (pos := 192) fX8_simulate_7 (by omega) hc_25 rfl dX8_simulate_123 ?_
          refine g_iconst (a := 0) C dX8_simulate_126 rfl ?_
          refine g_iaload C G (pos := 193) (by omega) hc_26 (by omega) (by omega) (by omega) dX8_simulate_127 ?_
          refine g_irem C (by omega) (by omega) (by omega) dX8_simulate_128 ?_
          rw [show (Int.tmod (((smr sd9 k) / 4096) % 1000) (f 0) : Int) = sma (f 0) sd9 k from (by unfold sma; rw [tmod_pos (by omega), Int.zero_add])]
          refine g_sipush (a := 301) C dX8_simulate_129 (by decide) ?_
          refine g_imul C dX8_simulate_132 ?_
          refine g_iload C dX8_simulate_133 hl 0 rfl ?_
          refine g_iadd C dX8_simulate_135 ?_
          refine lv_istore (lv' := [(13, .int (iz (((sma (f 0) sd9 k) * 301) + z_33))), (12, .int (iz z_33)), (11, .int (iz (((smr sd9 k) / 4096) % 1000))), (10, .int (iz (5 + ((smr sd9 k) % 56)))), (9, .int (iz (smr sd9 k))), (4, .long (jz (xsq sd9 (k + 1).toNat))), (0, .ref (ad 192)), (1, .long (jz sd9)), (3, .int (iz m9)), (6, .int (iz nu)), (7, .int (iz fa)), (8, .int (iz k))]) C.1.1 C.1.2.1 dX8_simulate_136 hl (by decide) rfl (fun ls hl => ?_)
          refine g_iload C dX8_simulate_138 hl 9 rfl ?_
          refine g_aload_n C dX8_simulate_140 rfl hl 6 rfl ?_
          refine g_get C G (pos := 192) fX8_simulate_13 (by omega) hc_25 rfl dX8_simulate_141 ?_
          refine g_iload C dX8_simulate_144 hl 0 rfl ?_
          refine g_iaload C G (pos := 194) (by omega) hk9 (by omega) (by omega) (by omega) dX8_simulate_146 ?_
          refine g_aload_n C dX8_simulate_147 rfl hl 6 rfl ?_
          refine g_get C G (pos := 192) fX8_simulate_67 (by omega) hc_25 rfl dX8_simulate_148 ?_
          refine g_icmp_ne (tgt := 158) C (by omega) (by omega) dX8_simulate_151 (by decide) (fun c_35 => ?_) (fun c_35 => ?_)
          · refine g_iconst (a := 1) C dX8_simulate_158 rfl ?_
            refine g_iadd C dX8_simulate_159 ?_
            refine lv_istore (lv' := [(6, .int (iz (nu + 1))), (13, .int (iz (((sma (f 0) sd9 k) * 301) + z_33))), (12, .int (iz z_33)), (11, .int (iz (((smr sd9 k) / 4096) % 1000))), (10, .int (iz (5 + ((smr sd9 k) % 56)))), (9, .int (iz (smr sd9 k))), (4, .long (jz (xsq sd9 (k + 1).toNat))), (0, .ref (ad 192)), (1, .long (jz sd9)), (3, .int (iz m9)), (7, .int (iz fa)), (8, .int (iz k))]) C.1.1 C.1.2.1 dX8_simulate_160 hl (by decide) rfl (fun ls hl => ?_)
            refine g_aload_n C dX8_simulate_162 rfl hl 7 rfl ?_
            refine g_get C G (pos := 192) fX8_simulate_13 (by omega) hc_25 rfl dX8_simulate_163 ?_
            refine g_iload C dX8_simulate_166 hl 1 rfl ?_
            refine g_aload_n C dX8_simulate_168 rfl hl 7 rfl ?_
            refine g_get C G (pos := 192) fX8_simulate_67 (by omega) hc_25 rfl dX8_simulate_169 ?_
            refine g_iastore C G (pos := 194) (by omega) hk9 (by omega) (by omega) (by omega) dX8_simulate_172 (fun H locs G => ?_)
            obtain ⟨g_36, hg_37⟩ : ∃ g9, g9 = va_up gv 194 (aI κ 28896 (vu V (((sma (f 0) sd9 k) * 301) + z_33) (mk + 1))) := ⟨_, rfl⟩
            rw [← hg_37] at G
            have hc_38 : g_36 192 = .inr (8, [.ref (ad 193), .int (iz ly), .int (iz 0), .ref (ad 194), .int (iz (mk + 1)), .ref (ad 195), .int (iz tx), .ref (ad 196), .int (iz rl), .int (iz a0), .int (iz wr), .int (iz s0), .int (iz s1), .ref (ad 197), .int (iz rm), .ref (ad 198), .ref (ad 199)]) := by rw [hg_37, gu_ne (by decide)]; exact hc_25
            have hc_39 : g_36 193 = aI κ 42 f := by rw [hg_37, gu_ne (by decide)]; exact hc_26
            have hc_40 : g_36 195 = aI κ 100 X9 := by rw [hg_37, gu_ne (by decide)]; exact hc_27
            have hc_41 : g_36 196 = aI κ 42 q9 := by rw [hg_37, gu_ne (by decide)]; exact hc_28
            have hc_42 : g_36 197 = aI κ 602 pa := by rw [hg_37, gu_ne (by decide)]; exact hc_29
            have hc_43 : g_36 198 = aI κ 43 be := by rw [hg_37, gu_ne (by decide)]; exact hc_30
            have hc_44 : g_36 199 = aI κ 86 sv := by rw [hg_37, gu_ne (by decide)]; exact hc_31
            have hc_45 : g_36 194 = aI κ 28896 (vu V (((sma (f 0) sd9 k) * 301) + z_33) (mk + 1)) := by rw [hg_37]; exact gu_self _ _ _
            refine g_iload C dX8_simulate_173 hl 2 rfl ?_
            refine g_iload C dX8_simulate_175 hl 10 rfl ?_
            refine g_icmp_le (tgt := 185) C (by omega) (by omega) dX8_simulate_177 (by decide) (fun c_46 => ?_) (fun c_46 => ?_)
            · refine g_iload C dX8_simulate_185 hl 10 rfl ?_
              refine lv_istore (lv' := [(7, .int (iz fa)), (6, .int (iz (nu + 1))), (13, .int (iz (((sma (f 0) sd9 k) * 301) + z_33))), (12, .int (iz z_33)), (11, .int (iz (((smr sd9 k) / 4096) % 1000))), (10, .int (iz (5 + ((smr sd9 k) % 56)))), (9, .int (iz (smr sd9 k))), (4, .long (jz (xsq sd9 (k + 1).toNat))), (0, .ref (ad 192)), (1, .long (jz sd9)), (3, .int (iz m9)), (8, .int (iz k))]) C.1.1 C.1.2.1 dX8_simulate_187 hl (by decide) rfl (fun ls hl => ?_)
              refine lv_iinc (v := iz (k + 1)) (lv' := [(8, .int (iz (k + 1))), (7, .int (iz fa)), (6, .int (iz (nu + 1))), (13, .int (iz (((sma (f 0) sd9 k) * 301) + z_33))), (12, .int (iz z_33)), (11, .int (iz (((smr sd9 k) / 4096) % 1000))), (10, .int (iz (5 + ((smr sd9 k) % 56)))), (9, .int (iz (smr sd9 k))), (4, .long (jz (xsq sd9 (k + 1).toNat))), (0, .ref (ad 192)), (1, .long (jz sd9)), (3, .int (iz m9))]) C.1.1 C.1.2.1 dX8_simulate_189 hl (k := 11) rfl (g_inc (by omega)) (by decide) rfl (fun ls hl => ?_)
              refine g_goto (tgt := 45) C dX8_simulate_192 (by decide) ?_
              exact ih_lp_45_n_24 (nu + 1) fa (k + 1) (vu V (((sma (f 0) sd9 k) * 301) + z_33) (mk + 1)) g_36 (by omega) (by omega) (by omega) (by rw [hg_37, hgv, gu_up]) ((hS.cut (by omega) (by omega) (by omega)).iff (fun x y => sim_step hk.1 rfl her)) (by rw [hnu, sm_new hk.1 (by omega) (by omega) rfl her (fun q => absurd (hS9.mpr q) (by omega))]; rfl) (by rw [smx_step hk.1, ← her, ← hfa]; omega) _ _ G _ (lv_sub hl [9, 10, 11, 8, 2, 1, 0] rfl)
            · refine g_iload C dX8_simulate_180 hl 2 rfl ?_
              refine g_goto (tgt := 187) C dX8_simulate_182 (by decide) ?_
              refine lv_istore (lv' := [(7, .int (iz z_33)), (6, .int (iz (nu + 1))), (13, .int (iz (((sma (f 0) sd9 k) * 301) + z_33))), (12, .int (iz z_33)), (11, .int (iz (((smr sd9 k) / 4096) % 1000))), (10, .int (iz (5 + ((smr sd9 k) % 56)))), (9, .int (iz (smr sd9 k))), (4, .long (jz (xsq sd9 (k + 1).toNat))), (0, .ref (ad 192)), (1, .long (jz sd9)), (3, .int (iz m9)), (8, .int (iz k))]) C.1.1 C.1.2.1 dX8_simulate_187 hl (by decide) rfl (fun ls hl => ?_)
              refine lv_iinc (v := iz (k + 1)) (lv' := [(8, .int (iz (k + 1))), (7, .int (iz z_33)), (6, .int (iz (nu + 1))), (13, .int (iz (((sma (f 0) sd9 k) * 301) + z_33))), (12, .int (iz z_33)), (11, .int (iz (((smr sd9 k) / 4096) % 1000))), (10, .int (iz (5 + ((smr sd9 k) % 56)))), (9, .int (iz (smr sd9 k))), (4, .long (jz (xsq sd9 (k + 1).toNat))), (0, .ref (ad 192)), (1, .long (jz sd9)), (3, .int (iz m9))]) C.1.1 C.1.2.1 dX8_simulate_189 hl (k := 11) rfl (g_inc (by omega)) (by decide) rfl (fun ls hl => ?_)
              refine g_goto (tgt := 45) C dX8_simulate_192 (by decide) ?_
              exact ih_lp_45_n_24 (nu + 1) z_33 (k + 1) (vu V (((sma (f 0) sd9 k) * 301) + z_33) (mk + 1)) g_36 (by omega) (by omega) (by omega) (by rw [hg_37, hgv, gu_up]) ((hS.cut (by omega) (by omega) (by omega)).iff (fun x y => sim_step hk.1 rfl her)) (by rw [hnu, sm_new hk.1 (by omega) (by omega) rfl her (fun q => absurd (hS9.mpr q) (by omega))]; rfl) (by rw [smx_step hk.1, ← her, ← hfa]; omega) _ _ G _ (lv_sub hl [9, 10, 11, 8, 2, 1, 0] rfl)
          · refine g_iconst (a := 0) C dX8_simulate_154 rfl ?_
            refine g_goto (tgt := 159) C dX8_simulate_155 (by decide) ?_
            refine g_iadd C dX8_simulate_159 ?_
            rw [show (nu + 0 : Int) = nu from (by omega)]
            refine lv_istore (lv' := [(6, .int (iz nu)), (13, .int (iz (((sma (f 0) sd9 k) * 301) + z_33))), (12, .int (iz z_33)), (11, .int (iz (((smr sd9 k) / 4096) % 1000))), (10, .int (iz (5 + ((smr sd9 k) % 56)))), (9, .int (iz (smr sd9 k))), (4, .long (jz (xsq sd9 (k + 1).toNat))), (0, .ref (ad 192)), (1, .long (jz sd9)), (3, .int (iz m9)), (7, .int (iz fa)), (8, .int (iz k))]) C.1.1 C.1.2.1 dX8_simulate_160 hl (by decide) rfl (fun ls hl => ?_)
            refine g_aload_n C dX8_simulate_162 rfl hl 7 rfl ?_
            refine g_get C G (pos := 192) fX8_simulate_13 (by omega) hc_25 rfl dX8_simulate_163 ?_
            refine g_iload C dX8_simulate_166 hl 1 rfl ?_
            refine g_aload_n C dX8_simulate_168 rfl hl 7 rfl ?_
            refine g_get C G (pos := 192) fX8_simulate_67 (by omega) hc_25 rfl dX8_simulate_169 ?_
            refine g_iastore C G (pos := 194) (by omega) hk9 (by omega) (by omega) (by omega) dX8_simulate_172 (fun H locs G => ?_)
            obtain ⟨g_47, hg_48⟩ : ∃ g9, g9 = va_up gv 194 (aI κ 28896 (vu V (((sma (f 0) sd9 k) * 301) + z_33) (mk + 1))) := ⟨_, rfl⟩
            rw [← hg_48] at G
            have hc_49 : g_47 192 = .inr (8, [.ref (ad 193), .int (iz ly), .int (iz 0), .ref (ad 194), .int (iz (mk + 1)), .ref (ad 195), .int (iz tx), .ref (ad 196), .int (iz rl), .int (iz a0), .int (iz wr), .int (iz s0), .int (iz s1), .ref (ad 197), .int (iz rm), .ref (ad 198), .ref (ad 199)]) := by rw [hg_48, gu_ne (by decide)]; exact hc_25
            have hc_50 : g_47 193 = aI κ 42 f := by rw [hg_48, gu_ne (by decide)]; exact hc_26
            have hc_51 : g_47 195 = aI κ 100 X9 := by rw [hg_48, gu_ne (by decide)]; exact hc_27
            have hc_52 : g_47 196 = aI κ 42 q9 := by rw [hg_48, gu_ne (by decide)]; exact hc_28
            have hc_53 : g_47 197 = aI κ 602 pa := by rw [hg_48, gu_ne (by decide)]; exact hc_29
            have hc_54 : g_47 198 = aI κ 43 be := by rw [hg_48, gu_ne (by decide)]; exact hc_30
            have hc_55 : g_47 199 = aI κ 86 sv := by rw [hg_48, gu_ne (by decide)]; exact hc_31
            have hc_56 : g_47 194 = aI κ 28896 (vu V (((sma (f 0) sd9 k) * 301) + z_33) (mk + 1)) := by rw [hg_48]; exact gu_self _ _ _
            refine g_iload C dX8_simulate_173 hl 2 rfl ?_
            refine g_iload C dX8_simulate_175 hl 10 rfl ?_
            refine g_icmp_le (tgt := 185) C (by omega) (by omega) dX8_simulate_177 (by decide) (fun c_57 => ?_) (fun c_57 => ?_)
            · refine g_iload C dX8_simulate_185 hl 10 rfl ?_
              refine lv_istore (lv' := [(7, .int (iz fa)), (6, .int (iz nu)), (13, .int (iz (((sma (f 0) sd9 k) * 301) + z_33))), (12, .int (iz z_33)), (11, .int (iz (((smr sd9 k) / 4096) % 1000))), (10, .int (iz (5 + ((smr sd9 k) % 56)))), (9, .int (iz (smr sd9 k))), (4, .long (jz (xsq sd9 (k + 1).toNat))), (0, .ref (ad 192)), (1, .long (jz sd9)), (3, .int (iz m9)), (8, .int (iz k))]) C.1.1 C.1.2.1 dX8_simulate_187 hl (by decide) rfl (fun ls hl => ?_)
              refine lv_iinc (v := iz (k + 1)) (lv' := [(8, .int (iz (k + 1))), (7, .int (iz fa)), (6, .int (iz nu)), (13, .int (iz (((sma (f 0) sd9 k) * 301) + z_33))), (12, .int (iz z_33)), (11, .int (iz (((smr sd9 k) / 4096) % 1000))), (10, .int (iz (5 + ((smr sd9 k) % 56)))), (9, .int (iz (smr sd9 k))), (4, .long (jz (xsq sd9 (k + 1).toNat))), (0, .ref (ad 192)), (1, .long (jz sd9)), (3, .int (iz m9))]) C.1.1 C.1.2.1 dX8_simulate_189 hl (k := 11) rfl (g_inc (by omega)) (by decide) rfl (fun ls hl => ?_)
              refine g_goto (tgt := 45) C dX8_simulate_192 (by decide) ?_
              exact ih_lp_45_n_24 nu fa (k + 1) (vu V (((sma (f 0) sd9 k) * 301) + z_33) (mk + 1)) g_47 (by omega) (by omega) (by omega) (by rw [hg_48, hgv, gu_up]) ((hS.cut (by omega) (by omega) (by omega)).iff (fun x y => sim_step hk.1 rfl her)) (hnu.trans (congrArg (fun q : Nat => (q : Int)) (sm_old hk.1 rfl her (hS9.mp (by omega))))) (by rw [smx_step hk.1, ← her, ← hfa]; omega) _ _ G _ (lv_sub hl [9, 10, 11, 8, 2, 1, 0] rfl)
            · refine g_iload C dX8_simulate_180 hl 2 rfl ?_
              refine g_goto (tgt := 187) C dX8_simulate_182 (by decide) ?_
              refine lv_istore (lv' := [(7, .int (iz z_33)), (6, .int (iz nu)), (13, .int (iz (((sma (f 0) sd9 k) * 301) + z_33))), (12, .int (iz z_33)), (11, .int (iz (((smr sd9 k) / 4096) % 1000))), (10, .int (iz (5 + ((smr sd9 k) % 56)))), (9, .int (iz (smr sd9 k))), (4, .long (jz (xsq sd9 (k + 1).toNat))), (0, .ref (ad 192)), (1, .long (jz sd9)), (3, .int (iz m9)), (8, .int (iz k))]) C.1.1 C.1.2.1 dX8_simulate_187 hl (by decide) rfl (fun ls hl => ?_)
              refine lv_iinc (v := iz (k + 1)) (lv' := [(8, .int (iz (k + 1))), (7, .int (iz z_33)), (6, .int (iz nu)), (13, .int (iz (((sma (f 0) sd9 k) * 301) + z_33))), (12, .int (iz z_33)), (11, .int (iz (((smr sd9 k) / 4096) % 1000))), (10, .int (iz (5 + ((smr sd9 k) % 56)))), (9, .int (iz (smr sd9 k))), (4, .long (jz (xsq sd9 (k + 1).toNat))), (0, .ref (ad 192)), (1, .long (jz sd9)), (3, .int (iz m9))]) C.1.1 C.1.2.1 dX8_simulate_189 hl (k := 11) rfl (g_inc (by omega)) (by decide) rfl (fun ls hl => ?_)
              refine g_goto (tgt := 45) C dX8_simulate_192 (by decide) ?_
              exact ih_lp_45_n_24 nu z_33 (k + 1) (vu V (((sma (f 0) sd9 k) * 301) + z_33) (mk + 1)) g_47 (by omega) (by omega) (by omega) (by rw [hg_48, hgv, gu_up]) ((hS.cut (by omega) (by omega) (by omega)).iff (fun x y => sim_step hk.1 rfl her)) (hnu.trans (congrArg (fun q : Nat => (q : Int)) (sm_old hk.1 rfl her (hS9.mp (by omega))))) (by rw [smx_step hk.1, ← her, ← hfa]; omega) _ _ G _ (lv_sub hl [9, 10, 11, 8, 2, 1, 0] rfl)
    exact lp_45_n_24 _ 0 0 0 M9 g_13 (Nat.lt_succ_self _) (by omega) (by omega) (by funext q; by_cases hq : q = 194 <;> simp [va_up, hq, hc_17]) ((mkS.up hMr).iff (fun x y => ⟨False.elim, fun ⟨j, j0, j1, _⟩ => absurd j1 (by omega)⟩)) (by rw [cntS_none (fun x y _ _ _ _ q => by obtain ⟨j, j0, j1, _⟩ := q; omega)]; rfl) rfl _ _ G _ (lv_sub hl [4, 5, 6, 3, 2, 1, 0] rfl)
  · refine g_if_ne (tgt := 23) C (by decide) dX8_simulate_14 (by decide) (fun c9 => absurd c9 (by decide)) (fun _ => ?_)
    refine g_aload_n C dX8_simulate_17 rfl hl 0 rfl ?_
    refine g_iconst (a := 1) C dX8_simulate_18 rfl ?_
    refine g_ci C G (g_runV (As := [.int (iz 1)]) (rest := []) (pos := 192) C G (c_X8_refused l κ B n ad g_1 ly 0 mk tx rl a0 wr s0 s1 rm 1 hn8 hc_3) (cwV 1 C.1.2.2.2.2 gX8_simulate_X8_refused rfl rfl rfl (by decide +kernel) ⟨Nat.le_of_ble_eq_true rfl, Nat.le_of_ble_eq_true rfl⟩) (by omega) hc_3 (T := TX8) (N := 17) rfl rfl hl rfl (Nat.le_of_ble_eq_true rfl) dX8_simulate_19 ⟨Nat.le_of_ble_eq_true rfl, Nat.le_of_ble_eq_true rfl⟩) (fun z_58 g9 H locs hw G => ?_)
    obtain ⟨hw, h_59⟩ := hw
    subst hw
    obtain ⟨g_60, hg_61⟩ : ∃ g9, g9 = va_up g_1 192 (.inr (8, [.ref (ad 193), .int (iz ly), .int (iz 1), .ref (ad 194), .int (iz mk), .ref (ad 195), .int (iz tx), .ref (ad 196), .int (iz rl), .int (iz a0), .int (iz wr), .int (iz s0), .int (iz s1), .ref (ad 197), .int (iz rm), .ref (ad 198), .ref (ad 199)])) := ⟨_, rfl⟩
    rw [← hg_61] at G
    have hc_62 : g_60 192 = .inr (8, [.ref (ad 193), .int (iz ly), .int (iz 1), .ref (ad 194), .int (iz mk), .ref (ad 195), .int (iz tx), .ref (ad 196), .int (iz rl), .int (iz a0), .int (iz wr), .int (iz s0), .int (iz s1), .ref (ad 197), .int (iz rm), .ref (ad 198), .ref (ad 199)]) := by rw [hg_61]; exact gu_self _ _ _
    have hc_63 : g_60 193 = aI κ 42 f := by rw [hg_61, gu_ne (by decide)]; exact hc_4
    have hc_64 : g_60 194 = aI κ 28896 M9 := by rw [hg_61, gu_ne (by decide)]; exact hc_5
    have hc_65 : g_60 195 = aI κ 100 X9 := by rw [hg_61, gu_ne (by decide)]; exact hc_6
    have hc_66 : g_60 196 = aI κ 42 q9 := by rw [hg_61, gu_ne (by decide)]; exact hc_7
    have hc_67 : g_60 197 = aI κ 602 pa := by rw [hg_61, gu_ne (by decide)]; exact hc_8
    have hc_68 : g_60 198 = aI κ 43 be := by rw [hg_61, gu_ne (by decide)]; exact hc_9
    have hc_69 : g_60 199 = aI κ 86 sv := by rw [hg_61, gu_ne (by decide)]; exact hc_10
    refine g_iret C G hr hlk (Nat.le_of_ble_eq_true rfl) (Nat.le_of_ble_eq_true rfl) dX8_simulate_22 ?_
    exact ⟨1, Or.inl ⟨rfl, by omega⟩, ⟨_, _, _, _, _, _, _, hc_62, hc_63, hc_64, hc_65, hc_66, hc_67, hc_68, hc_69, by omega, hMr, hinq⟩, fun q hq => (((congrFun hg_61 q).trans (gu_ne (by omega))).trans ((congrFun hg_2 q).trans (gu_ne (by omega))))⟩
