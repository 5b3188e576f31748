/-! ROSETTEPLATEMODEL (X8): another ring -/
theorem vu_sm {v : Int → Int} {z x : Int} (h : v z = x) : vu v z x = v := by
  funext i
  unfold vu
  split
  · rename_i hi; rw [hi, h]
  · rfl
theorem tk1_y1 {v : Int → Int} {t k : Int} (hk : 0 ≤ k) (h : ¬ (0 ≤ v (4 * k + 4) ∧ v (4 * k + 4) < t)) : vu (tk1 v t k) (4 * k + 4) 0 = tk1 v t (k + 1) := by
  rw [← tk1_yes hk h]
  funext i
  unfold v4 vu
  repeat' split
  all_goals first | rfl | (exfalso; omega) | (congr 1 <;> omega)
theorem fX8_takeRing_7 : gFld wsX8_takeRing RX8 7 8 0 := ⟨RX8, TX8, 17, rfl, by decide, by decide +kernel, by decide +kernel⟩
theorem fX8_takeRing_35 : gFld wsX8_takeRing RX8 35 8 1 := ⟨RX8, TX8, 17, rfl, by decide, by decide +kernel, by decide +kernel⟩
set_option maxHeartbeats 4000000 in
set_option maxRecDepth 100000 in
theorem c_X8_takeRing (l : Launch) (κ : gKap) (B n : Nat) (ad : Nat → Nat) (g : Nat → va_E) (ly : Int) (th : Int) (mk : Int) (tx : Int) (rl : Int) (a0 : Int) (wr : Int) (s0 : Int) (s1 : Int) (rm : Int) (f : Int → Int) (te : Int) (hn8 : 200 ≤ n) (hM : g 192 = oM ad ly th mk tx rl a0 wr s0 s1 rm) (hN : g 193 = aI κ 42 f) (hok : okPl ly f) (hte : 12 ≤ te ∧ te ≤ 96) : Met l yX8_takeRing wsX8_takeRing ({ frames := 1, cells := 0, slots := 0, locals := 21 }) (gPre κ B n ad g [.ref (ad 192), .int (iz te)]) (gQi κ B n ad (fun z g' => z = f 0 ∧ g' = va_up g 193 (aI κ 42 (tk2 ly f te (f 25))))) 0 0 (gFree B) := by
  refine g_met RX8 (cc := cX8_takeRing) (maxL := 4) (ret := (some .int)) (by decide) rfl rfl (Nat.le_of_ble_eq_true rfl) ?_
  intro p e s m args below meth c C hr hlk hnm G ls hl
  have hl : lv_has ls 4 [(0, .ref (ad 192)), (1, .int (iz te))] := hl
  obtain ⟨hn6, hv0, hv25, hlay, hsee⟩ := id hok
  refine g_aload_n C dX8_takeRing_0 rfl hl 0 rfl ?_
  refine g_get C G (pos := 192) fX8_takeRing_7 (by omega) hM rfl dX8_takeRing_1 ?_
  refine g_iconst (a := 0) C dX8_takeRing_4 rfl ?_
  refine g_iaload C G (pos := 193) (by omega) hN (by omega) (by omega) (by omega) dX8_takeRing_5 ?_
  refine lv_istore_n (lv' := [(2, .int (iz (f 0))), (0, .ref (ad 192)), (1, .int (iz te))]) C.1.1 C.1.2.1 dX8_takeRing_6 rfl hl (by decide) rfl (fun ls hl => ?_)
  refine g_aload_n C dX8_takeRing_7 rfl hl 1 rfl ?_
  refine g_get C G (pos := 192) fX8_takeRing_7 (by omega) hM rfl dX8_takeRing_8 ?_
  refine g_iconst (a := 0) C dX8_takeRing_11 rfl ?_
  refine g_iload_n C dX8_takeRing_12 rfl hl 2 rfl ?_
  refine g_iastore C G (pos := 193) (by omega) hN (by omega) (by omega) (by omega) dX8_takeRing_13 (fun H locs G => ?_)
  obtain ⟨g_1, hg_2⟩ : ∃ g9, g9 = va_up g 193 (aI κ 42 (vu f 0 te)) := ⟨_, rfl⟩
  rw [← hg_2] at G
  have hc_3 : g_1 192 = .inr (8, [.ref (ad 193), .int (iz ly), .int (iz th), .ref (ad 194), .int (iz mk), .ref (ad 195), .int (iz tx), .ref (ad 196), .int (iz rl), .int (iz a0), .int (iz wr), .int (iz s0), .int (iz s1), .ref (ad 197), .int (iz rm), .ref (ad 198), .ref (ad 199)]) := by rw [hg_2, gu_ne (by decide)]; exact hM
  have hc_4 : g_1 193 = aI κ 42 (vu f 0 te) := by rw [hg_2]; exact gu_self _ _ _
  refine g_iconst (a := 0) C dX8_takeRing_14 rfl ?_
  refine lv_istore_n (lv' := [(3, .int (iz 0)), (2, .int (iz (f 0))), (0, .ref (ad 192)), (1, .int (iz te))]) C.1.1 C.1.2.1 dX8_takeRing_15 rfl hl (by decide) rfl (fun ls hl => ?_)
  have lp_16_n_6 : ∀ (k_5 : Nat) (k : Int) (gv : Nat → va_E), (ly - k).toNat < k_5 → (0 ≤ k ∧ k ≤ ly) → (gv = va_up g 193 (aI κ 42 (tk1 f te k))) → ∀ (H : Heap) (locs : List Loc), gG κ B n ad s gv H locs → ∀ (ls : Array Slot), lv_has ls 4 [(0, .ref (ad 192)), (1, .int (iz te)), (2, .int (iz (f 0))), (3, .int (iz k))] → W p l e ({ frames := 1, cells := 0, slots := 0, locals := 21 }) s m args below meth c H locs 0 0 (MQ below (gQi κ B n ad (fun z g' => z = f 0 ∧ g' = va_up g 193 (aI κ 42 (tk2 ly f te (f 25))))) args s 0 0 (gFree B)) (F0 m 16 ls []) := by
    intro k_5
    induction k_5 with
    | zero => intro k gv hm; exact absurd hm (Nat.not_lt_zero _)
    | succ k_5 ih_lp_16_n_6 =>
      intro k gv hm hk hgv H locs G ls hl
      have hm9 : gv 192 = g 192 := by rw [hgv]; exact gu_ne (by decide)
      have hn9 : gv 193 = aI κ 42 (tk1 f te k) := by rw [hgv]; exact gu_self _ _ _
      refine g_iload_n C dX8_takeRing_16 rfl hl 3 rfl ?_
      refine g_aload_n C dX8_takeRing_17 rfl hl 0 rfl ?_
      refine g_get C G (pos := 192) fX8_takeRing_35 (by omega) (hm9.trans hM) rfl dX8_takeRing_18 ?_
      refine g_icmp_ge (tgt := 58) C (by omega) (by omega) dX8_takeRing_21 (by decide) (fun c_7 => ?_) (fun c_7 => ?_)
      · refine g_iconst (a := 0) C dX8_takeRing_58 rfl ?_
        refine lv_istore_n (lv' := [(3, .int (iz 0)), (0, .ref (ad 192)), (1, .int (iz te)), (2, .int (iz (f 0)))]) C.1.1 C.1.2.1 dX8_takeRing_59 rfl hl (by decide) rfl (fun ls hl => ?_)
        have lp_60_n_9 : ∀ (k_8 : Nat) (k : Int) (gw : Nat → va_E), (f 25 - k).toNat < k_8 → (0 ≤ k ∧ k ≤ f 25) → (gw = va_up g 193 (aI κ 42 (tk2 ly f te k))) → ∀ (H : Heap) (locs : List Loc), gG κ B n ad s gw H locs → ∀ (ls : Array Slot), lv_has ls 4 [(0, .ref (ad 192)), (1, .int (iz te)), (2, .int (iz (f 0))), (3, .int (iz k))] → W p l e ({ frames := 1, cells := 0, slots := 0, locals := 21 }) s m args below meth c H locs 0 0 (MQ below (gQi κ B n ad (fun z g' => z = f 0 ∧ g' = va_up g 193 (aI κ 42 (tk2 ly f te (f 25))))) args s 0 0 (gFree B)) (F0 m 60 ls []) := by
          intro k_8
          induction k_8 with
          | zero => intro k gw hm; exact absurd hm (Nat.not_lt_zero _)
          | succ k_8 ih_lp_60_n_9 =>
            intro k gw hm hk hgw H locs G ls hl
            have hm9 : gw 192 = g 192 := by rw [hgw]; exact gu_ne (by decide)
            have hn9 : gw 193 = aI κ 42 (tk2 ly f te k) := by rw [hgw]; exact gu_self _ _ _
            refine g_iload_n C dX8_takeRing_60 rfl hl 3 rfl ?_
            refine g_aload_n C dX8_takeRing_61 rfl hl 0 rfl ?_
            refine g_get C G (pos := 192) fX8_takeRing_7 (by omega) (hm9.trans hM) rfl dX8_takeRing_62 ?_
            refine g_bipush (a := 25) C dX8_takeRing_65 (by decide) ?_
            refine g_iaload C G (pos := 193) (by omega) hn9 (by omega) (by omega) (by omega) dX8_takeRing_67 ?_
            rw [show ((tk2 ly f te k) 25 : Int) = f 25 from (by unfold tk2; rw [if_neg (by omega), if_neg (by omega), if_neg (by omega)])]
            refine g_icmp_ge (tgt := 118) C (by omega) (by omega) dX8_takeRing_68 (by decide) (fun c_10 => ?_) (fun c_10 => ?_)
            · refine g_iload_n C dX8_takeRing_118 rfl hl 2 rfl ?_
              refine g_iret C G hr hlk (Nat.le_of_ble_eq_true rfl) (Nat.le_of_ble_eq_true rfl) dX8_takeRing_119 ?_
              exact ⟨rfl, by rw [hgw, show k = f 25 by omega]⟩
            · refine g_aload_n C dX8_takeRing_71 rfl hl 0 rfl ?_
              refine g_get C G (pos := 192) fX8_takeRing_7 (by omega) (hm9.trans hM) rfl dX8_takeRing_72 ?_
              refine g_bipush (a := 26) C dX8_takeRing_75 (by decide) ?_
              refine g_iconst (a := 2) C dX8_takeRing_77 rfl ?_
              refine g_iload_n C dX8_takeRing_78 rfl hl 3 rfl ?_
              refine g_imul C dX8_takeRing_79 ?_
              refine g_iadd C dX8_takeRing_80 ?_
              refine g_aload_n C dX8_takeRing_81 rfl hl 0 rfl ?_
              refine g_get C G (pos := 192) fX8_takeRing_7 (by omega) (hm9.trans hM) rfl dX8_takeRing_82 ?_
              refine g_bipush (a := 26) C dX8_takeRing_85 (by decide) ?_
              refine g_iconst (a := 2) C dX8_takeRing_87 rfl ?_
              refine g_iload_n C dX8_takeRing_88 rfl hl 3 rfl ?_
              refine g_imul C dX8_takeRing_89 ?_
              refine g_iadd C dX8_takeRing_90 ?_
              refine g_iaload C G (pos := 193) (by omega) hn9 (by omega) (by omega) (by omega) dX8_takeRing_91 ?_
              have hsi := hsee k hk.1 (by omega)
              rw [show ((tk2 ly f te k) (26 + (2 * k)) : Int) = f (26 + 2 * k) from (tk2_at hn6.2 hk.1 (by omega))]
              refine g_iload_n C dX8_takeRing_92 rfl hl 1 rfl ?_
              refine g_icmp_ge (tgt := 110) C (by omega) (by omega) dX8_takeRing_93 (by decide) (fun c_11 => ?_) (fun c_11 => ?_)
              · refine g_iconst (a := 0) C dX8_takeRing_110 rfl ?_
                refine g_iastore C G (pos := 193) (by omega) hn9 (by omega) (by omega) (by omega) dX8_takeRing_111 (fun H locs G => ?_)
                obtain ⟨g_12, hg_13⟩ : ∃ g9, g9 = va_up gw 193 (aI κ 42 (vu (tk2 ly f te k) (26 + (2 * k)) 0)) := ⟨_, rfl⟩
                rw [← hg_13] at G
                have hc_14 : g_12 192 = .inr (8, [.ref (ad 193), .int (iz ly), .int (iz th), .ref (ad 194), .int (iz mk), .ref (ad 195), .int (iz tx), .ref (ad 196), .int (iz rl), .int (iz a0), .int (iz wr), .int (iz s0), .int (iz s1), .ref (ad 197), .int (iz rm), .ref (ad 198), .ref (ad 199)]) := by rw [hg_13, gu_ne (by decide)]; exact (hm9.trans hM)
                have hc_15 : g_12 193 = aI κ 42 (vu (tk2 ly f te k) (26 + (2 * k)) 0) := by rw [hg_13]; exact gu_self _ _ _
                refine lv_iinc (v := iz (k + 1)) (lv' := [(3, .int (iz (k + 1))), (0, .ref (ad 192)), (1, .int (iz te)), (2, .int (iz (f 0)))]) C.1.1 C.1.2.1 dX8_takeRing_112 hl (k := 3) rfl (g_inc (by omega)) (by decide) rfl (fun ls hl => ?_)
                refine g_goto (tgt := 60) C dX8_takeRing_115 (by decide) ?_
                exact ih_lp_60_n_9 (k + 1) g_12 (by omega) (by omega) (by rw [hg_13, hgw, gu_up]; exact congrArg (fun q => va_up g 193 (aI κ 42 q)) (tk2_yes hn6.2 hk.1 (by omega))) _ _ G _ (lv_sub hl [1, 2, 3, 0] rfl)
              · refine g_aload_n C dX8_takeRing_96 rfl hl 0 rfl ?_
                refine g_get C G (pos := 192) fX8_takeRing_7 (by omega) (hm9.trans hM) rfl dX8_takeRing_97 ?_
                refine g_bipush (a := 26) C dX8_takeRing_100 (by decide) ?_
                refine g_iconst (a := 2) C dX8_takeRing_102 rfl ?_
                refine g_iload_n C dX8_takeRing_103 rfl hl 3 rfl ?_
                refine g_imul C dX8_takeRing_104 ?_
                refine g_iadd C dX8_takeRing_105 ?_
                refine g_iaload C G (pos := 193) (by omega) hn9 (by omega) (by omega) (by omega) dX8_takeRing_106 ?_
                have hsi := hsee k hk.1 (by omega)
                rw [show ((tk2 ly f te k) (26 + (2 * k)) : Int) = f (26 + 2 * k) from (tk2_at hn6.2 hk.1 (by omega))]
                refine g_goto (tgt := 111) C dX8_takeRing_107 (by decide) ?_
                refine g_iastore C G (pos := 193) (by omega) hn9 (by omega) (by omega) (by omega) dX8_takeRing_111 (fun H locs G => ?_)
                obtain ⟨g_16, hg_17⟩ : ∃ g9, g9 = va_up gw 193 (aI κ 42 (vu (tk2 ly f te k) (26 + (2 * k)) (f (26 + 2 * k)))) := ⟨_, rfl⟩
                rw [← hg_17] at G
                have hc_18 : g_16 192 = .inr (8, [.ref (ad 193), .int (iz ly), .int (iz th), .ref (ad 194), .int (iz mk), .ref (ad 195), .int (iz tx), .ref (ad 196), .int (iz rl), .int (iz a0), .int (iz wr), .int (iz s0), .int (iz s1), .ref (ad 197), .int (iz rm), .ref (ad 198), .ref (ad 199)]) := by rw [hg_17, gu_ne (by decide)]; exact (hm9.trans hM)
                have hc_19 : g_16 193 = aI κ 42 (vu (tk2 ly f te k) (26 + (2 * k)) (f (26 + 2 * k))) := by rw [hg_17]; exact gu_self _ _ _
                refine lv_iinc (v := iz (k + 1)) (lv' := [(3, .int (iz (k + 1))), (0, .ref (ad 192)), (1, .int (iz te)), (2, .int (iz (f 0)))]) C.1.1 C.1.2.1 dX8_takeRing_112 hl (k := 3) rfl (g_inc (by omega)) (by decide) rfl (fun ls hl => ?_)
                refine g_goto (tgt := 60) C dX8_takeRing_115 (by decide) ?_
                exact ih_lp_60_n_9 (k + 1) g_16 (by omega) (by omega) (by rw [hg_17, hgw, gu_up]; exact congrArg (fun q => va_up g 193 (aI κ 42 q)) ((vu_sm (tk2_at hn6.2 hk.1 (by omega))).trans (tk2_no hk.1 ⟨by omega, by omega⟩))) _ _ G _ (lv_sub hl [1, 2, 3, 0] rfl)
        exact lp_60_n_9 _ 0 gv (Nat.lt_succ_self _) (by omega) (by rw [hgv, show k = ly by omega, tk2_0]) _ _ G _ (lv_sub hl [1, 2, 3, 0] rfl)
      · refine g_aload_n C dX8_takeRing_24 rfl hl 0 rfl ?_
        refine g_get C G (pos := 192) fX8_takeRing_7 (by omega) (hm9.trans hM) rfl dX8_takeRing_25 ?_
        refine g_iconst (a := 4) C dX8_takeRing_28 rfl ?_
        refine g_iload_n C dX8_takeRing_29 rfl hl 3 rfl ?_
        refine g_imul C dX8_takeRing_30 ?_
        refine g_iconst (a := 4) C dX8_takeRing_31 rfl ?_
        refine g_iadd C dX8_takeRing_32 ?_
        refine g_aload_n C dX8_takeRing_33 rfl hl 0 rfl ?_
        refine g_iload_n C dX8_takeRing_34 rfl hl 3 rfl ?_
        refine g_ci C G (g_runV (As := [.int (iz k)]) (rest := [.int (iz ((4 * k) + 4)), .ref (ad 193)]) (pos := 192) C G (c_X8_start l κ B n ad gv ly th mk tx rl a0 wr s0 s1 rm (tk1 f te k) k hn8 (hm9.trans hM) hn9 (by omega)) (cwV 1 C.1.2.2.2.2 gX8_takeRing_X8_start rfl rfl rfl (by decide +kernel) ⟨Nat.le_of_ble_eq_true rfl, Nat.le_of_ble_eq_true rfl⟩) (by omega) (hm9.trans hM) (T := TX8) (N := 17) rfl rfl hl rfl (Nat.le_of_ble_eq_true rfl) dX8_takeRing_35 ⟨Nat.le_of_ble_eq_true rfl, Nat.le_of_ble_eq_true rfl⟩) (fun z_20 g9 H locs hw G => ?_)
        obtain ⟨hg9, h_21⟩ := hw
        replace hg9 := hg9.symm
        subst hg9
        subst h_21
        have hla := hlay k hk.1 (by omega)
        rw [show ((tk1 f te k) (4 * k + 4) : Int) = f (4 * k + 4) from (tk1_at (by omega) (Or.inl (by omega)))]
        refine g_iload_n C dX8_takeRing_38 rfl hl 1 rfl ?_
        refine g_icmp_ge (tgt := 50) C (by omega) (by omega) dX8_takeRing_39 (by decide) (fun c_22 => ?_) (fun c_22 => ?_)
        · refine g_iconst (a := 0) C dX8_takeRing_50 rfl ?_
          refine g_iastore C G (pos := 193) (by omega) hn9 (by omega) (by omega) (by omega) dX8_takeRing_51 (fun H locs G => ?_)
          obtain ⟨g_23, hg_24⟩ : ∃ g9, g9 = va_up gv 193 (aI κ 42 (vu (tk1 f te k) ((4 * k) + 4) 0)) := ⟨_, rfl⟩
          rw [← hg_24] at G
          have hc_25 : g_23 192 = .inr (8, [.ref (ad 193), .int (iz ly), .int (iz th), .ref (ad 194), .int (iz mk), .ref (ad 195), .int (iz tx), .ref (ad 196), .int (iz rl), .int (iz a0), .int (iz wr), .int (iz s0), .int (iz s1), .ref (ad 197), .int (iz rm), .ref (ad 198), .ref (ad 199)]) := by rw [hg_24, gu_ne (by decide)]; exact (hm9.trans hM)
          have hc_26 : g_23 193 = aI κ 42 (vu (tk1 f te k) ((4 * k) + 4) 0) := by rw [hg_24]; exact gu_self _ _ _
          refine lv_iinc (v := iz (k + 1)) (lv' := [(3, .int (iz (k + 1))), (0, .ref (ad 192)), (1, .int (iz te)), (2, .int (iz (f 0)))]) C.1.1 C.1.2.1 dX8_takeRing_52 hl (k := 3) rfl (g_inc (by omega)) (by decide) rfl (fun ls hl => ?_)
          refine g_goto (tgt := 16) C dX8_takeRing_55 (by decide) ?_
          exact ih_lp_16_n_6 (k + 1) g_23 (by omega) (by omega) (by rw [hg_24, hgv, gu_up]; exact congrArg (fun q => va_up g 193 (aI κ 42 q)) (tk1_y1 hk.1 (by omega))) _ _ G _ (lv_sub hl [1, 2, 3, 0] rfl)
        · refine g_aload_n C dX8_takeRing_42 rfl hl 0 rfl ?_
          refine g_iload_n C dX8_takeRing_43 rfl hl 3 rfl ?_
          refine g_ci C G (g_runV (As := [.int (iz k)]) (rest := [.int (iz ((4 * k) + 4)), .ref (ad 193)]) (pos := 192) C G (c_X8_start l κ B n ad gv ly th mk tx rl a0 wr s0 s1 rm (tk1 f te k) k hn8 (hm9.trans hM) hn9 (by omega)) (cwV 1 C.1.2.2.2.2 gX8_takeRing_X8_start rfl rfl rfl (by decide +kernel) ⟨Nat.le_of_ble_eq_true rfl, Nat.le_of_ble_eq_true rfl⟩) (by omega) (hm9.trans hM) (T := TX8) (N := 17) rfl rfl hl rfl (Nat.le_of_ble_eq_true rfl) dX8_takeRing_44 ⟨Nat.le_of_ble_eq_true rfl, Nat.le_of_ble_eq_true rfl⟩) (fun z_27 g9 H locs hw G => ?_)
          obtain ⟨hg9, h_28⟩ := hw
          replace hg9 := hg9.symm
          subst hg9
          subst h_28
          have hla := hlay k hk.1 (by omega)
          rw [show ((tk1 f te k) (4 * k + 4) : Int) = f (4 * k + 4) from (tk1_at (by omega) (Or.inl (by omega)))]
          refine g_goto (tgt := 51) C dX8_takeRing_47 (by decide) ?_
          refine g_iastore C G (pos := 193) (by omega) hn9 (by omega) (by omega) (by omega) dX8_takeRing_51 (fun H locs G => ?_)
          obtain ⟨g_29, hg_30⟩ : ∃ g9, g9 = va_up gv 193 (aI κ 42 (vu (tk1 f te k) ((4 * k) + 4) (f (4 * k + 4)))) := ⟨_, rfl⟩
          rw [← hg_30] at G
          have hc_31 : g_29 192 = .inr (8, [.ref (ad 193), .int (iz ly), .int (iz th), .ref (ad 194), .int (iz mk), .ref (ad 195), .int (iz tx), .ref (ad 196), .int (iz rl), .int (iz a0), .int (iz wr), .int (iz s0), .int (iz s1), .ref (ad 197), .int (iz rm), .ref (ad 198), .ref (ad 199)]) := by rw [hg_30, gu_ne (by decide)]; exact (hm9.trans hM)
          have hc_32 : g_29 193 = aI κ 42 (vu (tk1 f te k) ((4 * k) + 4) (f (4 * k + 4))) := by rw [hg_30]; exact gu_self _ _ _
          refine lv_iinc (v := iz (k + 1)) (lv' := [(3, .int (iz (k + 1))), (0, .ref (ad 192)), (1, .int (iz te)), (2, .int (iz (f 0)))]) C.1.1 C.1.2.1 dX8_takeRing_52 hl (k := 3) rfl (g_inc (by omega)) (by decide) rfl (fun ls hl => ?_)
          refine g_goto (tgt := 16) C dX8_takeRing_55 (by decide) ?_
          exact ih_lp_16_n_6 (k + 1) g_29 (by omega) (by omega) (by rw [hg_30, hgv, gu_up]; exact congrArg (fun q => va_up g 193 (aI κ 42 q)) ((vu_sm (tk1_at (by omega) (Or.inl (by omega)))).trans (tk1_no hk.1 ⟨by omega, by omega⟩))) _ _ G _ (lv_sub hl [1, 2, 3, 0] rfl)
  exact lp_16_n_6 _ 0 g_1 (Nat.lt_succ_self _) (by omega) (by rw [hg_2, tk1_0]) _ _ G _ (lv_sub hl [2, 3, 1, 0] rfl)
