/-! ROSETTEPLATEMODEL (X8): number -/
theorem nu_start {T9 : Int → Int} {L9 lo hi dg q u : Int} (hd : dg = 2 ∨ dg = 3) (hu : (dg = 2 ∧ u = 100) ∨ (dg = 3 ∧ u = 1000)) : rdN T9 L9 lo hi (dg - 0).toNat 0 u q = rd T9 L9 lo hi dg q := by
  unfold rd
  rcases hd with rfl | rfl
  · rw [if_pos rfl, show u = 100 by omega]
    rfl
  · rw [if_neg (by omega), show u = 1000 by omega]
    rfl
theorem fX8_number_89 : gFld wsX8_number RX8 89 8 10 := ⟨RX8, TX8, 17, rfl, by decide, by decide +kernel, by decide +kernel⟩
theorem fX8_number_93 : gFld wsX8_number RX8 93 8 9 := ⟨RX8, TX8, 17, rfl, by decide, by decide +kernel, by decide +kernel⟩
theorem fX8_number_86 : gFld wsX8_number RX8 86 8 6 := ⟨RX8, TX8, 17, rfl, by decide, by decide +kernel, by decide +kernel⟩
theorem fwX8_number_89 : gFldW wsX8_number RX8 89 8 10 .boolean false := ⟨RX8, TX8, 17, tyX8, rfl, by decide, by decide +kernel, by decide +kernel, tyX8_ok, nmX8, rfl, by decide +kernel, by decide +kernel⟩
theorem fwX8_number_93 : gFldW wsX8_number RX8 93 8 9 .int false := ⟨RX8, TX8, 17, tyX8, rfl, by decide, by decide +kernel, by decide +kernel, tyX8_ok, nmX8, rfl, by decide +kernel, by decide +kernel⟩
theorem fX8_number_16 : gFld wsX8_number RX8 16 8 5 := ⟨RX8, TX8, 17, rfl, by decide, by decide +kernel, by decide +kernel⟩
set_option maxHeartbeats 4000000 in
set_option maxRecDepth 100000 in
theorem c_X8_number (l : Launch) (κ : gKap) (B n : Nat) (ad : Nat → Nat) (g : Nat → va_E) (ly : Int) (th : Int) (mk : Int) (tx : Int) (rl : Int) (a0 : Int) (wr : Int) (s0 : Int) (s1 : Int) (rm : Int) (X9 : Int → Int) (dg : Int) (lo : Int) (hi : Int) (hn8 : 200 ≤ n) (hM : g 192 = oM ad ly th mk tx rl a0 wr s0 s1 rm) (hT : g 195 = aI κ 100 X9) (hwr : wr = 0) (hdg : dg = 2 ∨ dg = 3) (hlo : 0 ≤ lo ∧ lo ≤ hi ∧ hi ≤ 300) (htx : 0 ≤ tx ∧ tx ≤ 100) (ha0 : 0 ≤ a0 ∧ a0 ≤ tx) (hTx : ∀ i, 0 ≤ i → i < 100 → 0 ≤ X9 i ∧ X9 i ≤ 255) : Met l yX8_number wsX8_number ({ frames := 1, cells := 0, slots := 0, locals := 25 }) (gPre κ B n ad g [.ref (ad 192), .int (iz dg), .int (iz lo), .int (iz hi)]) (gQi κ B n ad (fun z g' => ((rd X9 tx lo hi dg a0).1 = -1 ∧ g' = va_up g 192 (oM ad ly th mk tx rl ((rd X9 tx lo hi dg a0).2) 1 s0 s1 rm) ∧ 0 ≤ z ∧ z ≤ 999) ∨ (¬ (rd X9 tx lo hi dg a0).1 = -1 ∧ g' = va_up g 192 (oM ad ly th mk tx rl ((rd X9 tx lo hi dg a0).2) 0 s0 s1 rm) ∧ z = (rd X9 tx lo hi dg a0).1))) 0 0 (gFree B) := by
  refine g_met RX8 (cc := cX8_number) (maxL := 9) (ret := (some .int)) (by decide) rfl rfl (Nat.le_of_ble_eq_true rfl) ?_
  intro p e s m args below meth c C hr hlk hnm G ls hl
  have hl : lv_has ls 9 [(0, .ref (ad 192)), (1, .int (iz dg)), (2, .int (iz lo)), (3, .int (iz hi))] := hl
  refine g_iconst (a := 0) C dX8_number_0 rfl ?_
  refine lv_istore (lv' := [(4, .int (iz 0)), (0, .ref (ad 192)), (1, .int (iz dg)), (2, .int (iz lo)), (3, .int (iz hi))]) C.1.1 C.1.2.1 dX8_number_1 hl (by decide) rfl (fun ls hl => ?_)
  refine g_iload_n C dX8_number_3 rfl hl 2 rfl ?_
  refine g_iconst (a := 2) C dX8_number_4 rfl ?_
  refine g_icmp_ne (tgt := 13) C (by omega) (by decide) dX8_number_5 (by decide) (fun c_1 => ?_) (fun c_1 => ?_)
  · refine g_sipush (a := 1000) C dX8_number_13 (by decide) ?_
    refine lv_istore (lv' := [(5, .int (iz 1000)), (4, .int (iz 0)), (0, .ref (ad 192)), (1, .int (iz dg)), (2, .int (iz lo)), (3, .int (iz hi))]) C.1.1 C.1.2.1 dX8_number_16 hl (by decide) rfl (fun ls hl => ?_)
    refine g_iconst (a := 0) C dX8_number_18 rfl ?_
    refine lv_istore (lv' := [(6, .int (iz 0)), (5, .int (iz 1000)), (4, .int (iz 0)), (0, .ref (ad 192)), (1, .int (iz dg)), (2, .int (iz lo)), (3, .int (iz hi))]) C.1.1 C.1.2.1 dX8_number_19 hl (by decide) rfl (fun ls hl => ?_)
    have lp_21_n_3 : ∀ (k_2 : Nat) (v9 : Int) (un : Int) (k : Int) (p9 : Int) (w9 : Int) (gv : Nat → va_E), (dg - k).toNat < k_2 → (0 ≤ k ∧ k ≤ dg) → ((dg - k = 0 ∧ un = 1) ∨ (dg - k = 1 ∧ un = 10) ∨ (dg - k = 2 ∧ un = 100) ∨ (dg - k = 3 ∧ un = 1000)) → ((k = 0 ∧ v9 = 0) ∨ (k = 1 ∧ 0 ≤ v9 ∧ v9 ≤ 9) ∨ (k = 2 ∧ 0 ≤ v9 ∧ v9 ≤ 99) ∨ (k = 3 ∧ 0 ≤ v9 ∧ v9 ≤ 999)) → (a0 ≤ p9 ∧ p9 ≤ tx) → (w9 = 0 ∨ w9 = 1) → (gv = va_up g 192 (oM ad ly th mk tx rl p9 w9 s0 s1 rm)) → (w9 = 0 → rdN X9 tx lo hi (dg - k).toNat (v9 * un) un p9 = rd X9 tx lo hi dg a0) → (w9 = 1 → rd X9 tx lo hi dg a0 = (-1, p9)) → ∀ (H : Heap) (locs : List Loc), gG κ B n ad s gv H locs → ∀ (ls : Array Slot), lv_has ls 9 [(0, .ref (ad 192)), (1, .int (iz dg)), (2, .int (iz lo)), (3, .int (iz hi)), (4, .int (iz v9)), (5, .int (iz un)), (6, .int (iz k))] → W p l e ({ frames := 1, cells := 0, slots := 0, locals := 25 }) s m args below meth c H locs 0 0 (MQ below (gQi κ B n ad (fun z g' => ((rd X9 tx lo hi dg a0).1 = -1 ∧ g' = va_up g 192 (oM ad ly th mk tx rl ((rd X9 tx lo hi dg a0).2) 1 s0 s1 rm) ∧ 0 ≤ z ∧ z ≤ 999) ∨ (¬ (rd X9 tx lo hi dg a0).1 = -1 ∧ g' = va_up g 192 (oM ad ly th mk tx rl ((rd X9 tx lo hi dg a0).2) 0 s0 s1 rm) ∧ z = (rd X9 tx lo hi dg a0).1))) args s 0 0 (gFree B)) (F0 m 21 ls []) := by
      intro k_2
      induction k_2 with
      | zero => intro v9 un k p9 w9 gv hm; exact absurd hm (Nat.not_lt_zero _)
      | succ k_2 ih_lp_21_n_3 =>
        intro v9 un k p9 w9 gv hm hk hun hv hp hw hgv hR0 hR1 H locs G ls hl
        have hm9 : gv 192 = oM ad ly th mk tx rl p9 w9 s0 s1 rm := by rw [hgv]; exact gu_self _ _ _
        have ht9 : gv 195 = aI κ 100 X9 := by rw [hgv, gu_ne (by decide)]; exact hT
        refine g_iload C dX8_number_21 hl 6 rfl ?_
        refine g_iload_n C dX8_number_23 rfl hl 1 rfl ?_
        refine g_icmp_ge (tgt := 148) C (by omega) (by omega) dX8_number_24 (by decide) (fun c_4 => ?_) (fun c_4 => ?_)
        · refine g_iload C dX8_number_148 hl 4 rfl ?_
          refine g_iret C G hr hlk (Nat.le_of_ble_eq_true rfl) (Nat.le_of_ble_eq_true rfl) dX8_number_150 ?_
          by_cases hk8 : k = dg
          · rcases hw with hw0 | hw1
            · have hR9 := hR0 hw0
              have hun1 : un = 1 := by omega
              rw [show dg - k = 0 by omega, hun1, Int.mul_one] at hR9
              have hR8 : rd X9 tx lo hi dg a0 = (v9, p9) := hR9.symm
              rw [hR8]
              exact Or.inr ⟨by show ¬ v9 = -1; omega, by rw [hgv, hw0], rfl⟩
            · rw [hR1 hw1]
              exact Or.inl ⟨rfl, by rw [hgv, hw1], by omega, by omega⟩
          · have hw1 : w9 = 1 := by omega
            rw [hR1 hw1]
            exact Or.inl ⟨rfl, by rw [hgv, hw1], by omega, by omega⟩
        · refine g_aload_n C dX8_number_27 rfl hl 0 rfl ?_
          refine g_get C G (pos := 192) fX8_number_89 (by omega) hm9 rfl dX8_number_28 ?_
          refine g_if_ne (tgt := 148) C (by omega) dX8_number_31 (by decide) (fun c_5 => ?_) (fun c_5 => ?_)
          · refine g_iload C dX8_number_148 hl 4 rfl ?_
            refine g_iret C G hr hlk (Nat.le_of_ble_eq_true rfl) (Nat.le_of_ble_eq_true rfl) dX8_number_150 ?_
            by_cases hk8 : k = dg
            · rcases hw with hw0 | hw1
              · have hR9 := hR0 hw0
                have hun1 : un = 1 := by omega
                rw [show dg - k = 0 by omega, hun1, Int.mul_one] at hR9
                have hR8 : rd X9 tx lo hi dg a0 = (v9, p9) := hR9.symm
                rw [hR8]
                exact Or.inr ⟨by show ¬ v9 = -1; omega, by rw [hgv, hw0], rfl⟩
              · rw [hR1 hw1]
                exact Or.inl ⟨rfl, by rw [hgv, hw1], by omega, by omega⟩
            · have hw1 : w9 = 1 := by omega
              rw [hR1 hw1]
              exact Or.inl ⟨rfl, by rw [hgv, hw1], by omega, by omega⟩
          · refine g_iload C dX8_number_34 hl 5 rfl ?_
            refine g_bipush (a := 10) C dX8_number_36 (by decide) ?_
            refine g_idiv C (by omega) (by decide) (by decide) dX8_number_38 ?_
            rw [show (Int.tdiv un 10 : Int) = un / 10 from (tdiv_pos (by omega))]
            refine lv_istore (lv' := [(5, .int (iz (un / 10))), (0, .ref (ad 192)), (1, .int (iz dg)), (2, .int (iz lo)), (3, .int (iz hi)), (4, .int (iz v9)), (6, .int (iz k))]) C.1.1 C.1.2.1 dX8_number_39 hl (by decide) rfl (fun ls hl => ?_)
            refine g_aload_n C dX8_number_41 rfl hl 1 rfl ?_
            refine g_get C G (pos := 192) fX8_number_93 (by omega) hm9 rfl dX8_number_42 ?_
            refine g_aload_n C dX8_number_45 rfl hl 1 rfl ?_
            refine g_get C G (pos := 192) fX8_number_86 (by omega) hm9 rfl dX8_number_46 ?_
            refine g_icmp_ge (tgt := 67) C (by omega) (by omega) dX8_number_49 (by decide) (fun c_6 => ?_) (fun c_6 => ?_)
            · refine g_bipush (a := 10) C dX8_number_67 (by decide) ?_
              refine lv_istore (lv' := [(7, .int (iz 10)), (5, .int (iz (un / 10))), (0, .ref (ad 192)), (1, .int (iz dg)), (2, .int (iz lo)), (3, .int (iz hi)), (4, .int (iz v9)), (6, .int (iz k))]) C.1.1 C.1.2.1 dX8_number_69 hl (by decide) rfl (fun ls hl => ?_)
              refine g_bipush (a := 10) C dX8_number_71 (by decide) ?_
              refine g_iload C dX8_number_73 hl 6 rfl ?_
              refine g_imul C dX8_number_75 ?_
              refine g_iload C dX8_number_76 hl 0 rfl ?_
              refine g_iadd C dX8_number_78 ?_
              refine g_iload C dX8_number_79 hl 1 rfl ?_
              refine g_imul C dX8_number_81 ?_
              have hfm : ((10 * v9) + 10) * (un / 10) = v9 * un + 10 * (un / 10) := by rcases hun with h | h | h | h <;> rw [h.2] <;> omega
              have hfb : -500000 ≤ ((10 * v9) + 10) * (un / 10) ∧ ((10 * v9) + 10) * (un / 10) ≤ 5000000 := by rcases hun with h | h | h | h <;> rw [h.2] <;> omega
              obtain ⟨F_7, eF_8⟩ : ∃ F9, F9 = ((10 * v9) + 10) * (un / 10) := ⟨_, rfl⟩
              rw [← eF_8] at hfm hfb
              rw [← eF_8]
              refine lv_istore (lv' := [(8, .int (iz F_7)), (7, .int (iz 10)), (5, .int (iz (un / 10))), (0, .ref (ad 192)), (1, .int (iz dg)), (2, .int (iz lo)), (3, .int (iz hi)), (4, .int (iz v9)), (6, .int (iz k))]) C.1.1 C.1.2.1 dX8_number_82 hl (by decide) rfl (fun ls hl => ?_)
              refine g_iload C dX8_number_84 hl 1 rfl ?_
              refine g_i2l C (by decide) dX8_number_86 ?_
              refine g_lconst (a := 0) C dX8_number_87 (by decide) ?_
              refine g_ldc2 (a := 9) C (by decide +kernel) dX8_number_88 ?_
              refine g_ci C G (g_runS (As := [.long (jz 10), .long (jz 0), .long (jz 9)]) (rest := []) C G (c_X8_in l κ B n ad gv 10 0 9 (by omega) (by omega) (by omega)) (va_cwS 3 C.1.2.2.2.2 gX8_number_X8_in rfl rfl rfl (by decide +kernel) ⟨Nat.le_of_ble_eq_true rfl, Nat.le_of_ble_eq_true rfl⟩) rfl hl rfl (Nat.le_of_ble_eq_true rfl) dX8_number_91 ⟨Nat.le_of_ble_eq_true rfl, Nat.le_of_ble_eq_true rfl⟩) (fun z_10 g9 H locs hw G => ?_)
              obtain ⟨hg9, hw⟩ := hw
              replace hg9 := hg9.symm
              subst hg9
              rcases hw with ⟨b_9, rfl⟩ | ⟨b_9, rfl⟩
              · refine g_if_eq (tgt := 114) C (by decide) dX8_number_94 (by decide) (fun c9 => absurd c9 (by decide)) (fun _ => ?_)
                refine g_iload C dX8_number_97 hl 0 rfl ?_
                refine g_iload_n C dX8_number_99 rfl hl 6 rfl ?_
                refine g_icmp_gt (tgt := 114) C (by omega) (by omega) dX8_number_100 (by decide) (fun c_11 => ?_) (fun c_11 => ?_)
                · refine g_aload_n C dX8_number_114 rfl hl 3 rfl ?_
                  refine g_iconst (a := 1) C dX8_number_115 rfl ?_
                  refine g_put C G (pos := 192) (fs' := [.ref (ad 193), .int (iz ly), .int (iz th), .ref (ad 194), .int (iz mk), .ref (ad 195), .int (iz tx), .ref (ad 196), .int (iz rl), .int (iz p9), .int (iz 1), .int (iz s0), .int (iz s1), .ref (ad 197), .int (iz rm), .ref (ad 198), .ref (ad 199)]) fwX8_number_89 (by omega) hm9 (Nat.le_of_ble_eq_true rfl) rfl (gnar_z (by decide)) rfl dX8_number_116 (fun H locs G => ?_)
                  obtain ⟨g_12, hg_13⟩ : ∃ g9, g9 = va_up gv 192 (.inr (8, [.ref (ad 193), .int (iz ly), .int (iz th), .ref (ad 194), .int (iz mk), .ref (ad 195), .int (iz tx), .ref (ad 196), .int (iz rl), .int (iz p9), .int (iz 1), .int (iz s0), .int (iz s1), .ref (ad 197), .int (iz rm), .ref (ad 198), .ref (ad 199)])) := ⟨_, rfl⟩
                  rw [← hg_13] at G
                  have hc_14 : g_12 192 = .inr (8, [.ref (ad 193), .int (iz ly), .int (iz th), .ref (ad 194), .int (iz mk), .ref (ad 195), .int (iz tx), .ref (ad 196), .int (iz rl), .int (iz p9), .int (iz 1), .int (iz s0), .int (iz s1), .ref (ad 197), .int (iz rm), .ref (ad 198), .ref (ad 199)]) := by rw [hg_13]; exact gu_self _ _ _
                  have hc_15 : g_12 195 = aI κ 100 X9 := by rw [hg_13, gu_ne (by decide)]; exact ht9
                  refine g_goto (tgt := 142) C dX8_number_119 (by decide) ?_
                  refine lv_iinc (v := iz (k + 1)) (lv' := [(6, .int (iz (k + 1))), (8, .int (iz F_7)), (7, .int (iz 10)), (5, .int (iz (un / 10))), (0, .ref (ad 192)), (1, .int (iz dg)), (2, .int (iz lo)), (3, .int (iz hi)), (4, .int (iz v9))]) C.1.1 C.1.2.1 dX8_number_142 hl (k := 8) rfl (g_inc (by omega)) (by decide) rfl (fun ls hl => ?_)
                  refine g_goto (tgt := 21) C dX8_number_145 (by decide) ?_
                  exact ih_lp_21_n_3 v9 (un / 10) (k + 1) p9 1 g_12 (by omega) (by omega) (by omega) (by omega) (by omega) (Or.inr rfl) (by rw [hg_13, hgv, gu_up]) (fun q => absurd q (by decide)) (fun _ => by have hR9 := hR0 (by omega); rw [rdN_no (by omega) (fun q => by omega)] at hR9; exact hR9.symm) _ _ G _ (lv_sub hl [4, 5, 6, 7, 8, 3, 0] rfl)
                · refine g_iload C dX8_number_103 hl 0 rfl ?_
                  refine g_iload C dX8_number_105 hl 2 rfl ?_
                  refine g_iadd C dX8_number_107 ?_
                  refine g_iconst (a := 1) C dX8_number_108 rfl ?_
                  refine g_isub C dX8_number_109 ?_
                  refine g_iload_n C dX8_number_110 rfl hl 5 rfl ?_
                  refine g_icmp_ge (tgt := 122) C (by omega) (by omega) dX8_number_111 (by decide) (fun c_16 => ?_) (fun c_16 => ?_)
                  · refine g_bipush (a := 10) C dX8_number_122 (by decide) ?_
                    refine g_iload C dX8_number_124 hl 7 rfl ?_
                    refine g_imul C dX8_number_126 ?_
                    refine g_iload C dX8_number_127 hl 1 rfl ?_
                    refine g_iadd C dX8_number_129 ?_
                    refine lv_istore (lv' := [(4, .int (iz ((10 * v9) + 10))), (8, .int (iz F_7)), (7, .int (iz 10)), (5, .int (iz (un / 10))), (0, .ref (ad 192)), (1, .int (iz dg)), (2, .int (iz lo)), (3, .int (iz hi)), (6, .int (iz k))]) C.1.1 C.1.2.1 dX8_number_130 hl (by decide) rfl (fun ls hl => ?_)
                    refine g_aload_n C dX8_number_132 rfl hl 4 rfl ?_
                    refine lv_dup C.1.1 C.1.2.1 dX8_number_133 rfl ?_
                    refine g_get C G (pos := 192) fX8_number_93 (by omega) hm9 rfl dX8_number_134 ?_
                    refine g_iconst (a := 1) C dX8_number_137 rfl ?_
                    refine g_iadd C dX8_number_138 ?_
                    refine g_put C G (pos := 192) (fs' := [.ref (ad 193), .int (iz ly), .int (iz th), .ref (ad 194), .int (iz mk), .ref (ad 195), .int (iz tx), .ref (ad 196), .int (iz rl), .int (iz (p9 + 1)), .int (iz w9), .int (iz s0), .int (iz s1), .ref (ad 197), .int (iz rm), .ref (ad 198), .ref (ad 199)]) fwX8_number_93 (by omega) hm9 (Nat.le_of_ble_eq_true rfl) rfl rfl rfl dX8_number_139 (fun H locs G => ?_)
                    obtain ⟨g_17, hg_18⟩ : ∃ g9, g9 = va_up gv 192 (.inr (8, [.ref (ad 193), .int (iz ly), .int (iz th), .ref (ad 194), .int (iz mk), .ref (ad 195), .int (iz tx), .ref (ad 196), .int (iz rl), .int (iz (p9 + 1)), .int (iz w9), .int (iz s0), .int (iz s1), .ref (ad 197), .int (iz rm), .ref (ad 198), .ref (ad 199)])) := ⟨_, rfl⟩
                    rw [← hg_18] at G
                    have hc_19 : g_17 192 = .inr (8, [.ref (ad 193), .int (iz ly), .int (iz th), .ref (ad 194), .int (iz mk), .ref (ad 195), .int (iz tx), .ref (ad 196), .int (iz rl), .int (iz (p9 + 1)), .int (iz w9), .int (iz s0), .int (iz s1), .ref (ad 197), .int (iz rm), .ref (ad 198), .ref (ad 199)]) := by rw [hg_18]; exact gu_self _ _ _
                    have hc_20 : g_17 195 = aI κ 100 X9 := by rw [hg_18, gu_ne (by decide)]; exact ht9
                    refine lv_iinc (v := iz (k + 1)) (lv' := [(6, .int (iz (k + 1))), (4, .int (iz ((10 * v9) + 10))), (8, .int (iz F_7)), (7, .int (iz 10)), (5, .int (iz (un / 10))), (0, .ref (ad 192)), (1, .int (iz dg)), (2, .int (iz lo)), (3, .int (iz hi))]) C.1.1 C.1.2.1 dX8_number_142 hl (k := 8) rfl (g_inc (by omega)) (by decide) rfl (fun ls hl => ?_)
                    refine g_goto (tgt := 21) C dX8_number_145 (by decide) ?_
                    exact ih_lp_21_n_3 ((10 * v9) + 10) (un / 10) (k + 1) (p9 + 1) w9 g_17 (by omega) (by omega) (by omega) (by omega) (by omega) hw (by rw [hg_18, hgv, gu_up]) (fun _ => by exfalso; omega) (fun _ => by exfalso; omega) _ _ G _ (lv_sub hl [5, 6, 7, 8, 1, 4, 0] rfl)
                  · refine g_aload_n C dX8_number_114 rfl hl 3 rfl ?_
                    refine g_iconst (a := 1) C dX8_number_115 rfl ?_
                    refine g_put C G (pos := 192) (fs' := [.ref (ad 193), .int (iz ly), .int (iz th), .ref (ad 194), .int (iz mk), .ref (ad 195), .int (iz tx), .ref (ad 196), .int (iz rl), .int (iz p9), .int (iz 1), .int (iz s0), .int (iz s1), .ref (ad 197), .int (iz rm), .ref (ad 198), .ref (ad 199)]) fwX8_number_89 (by omega) hm9 (Nat.le_of_ble_eq_true rfl) rfl (gnar_z (by decide)) rfl dX8_number_116 (fun H locs G => ?_)
                    obtain ⟨g_21, hg_22⟩ : ∃ g9, g9 = va_up gv 192 (.inr (8, [.ref (ad 193), .int (iz ly), .int (iz th), .ref (ad 194), .int (iz mk), .ref (ad 195), .int (iz tx), .ref (ad 196), .int (iz rl), .int (iz p9), .int (iz 1), .int (iz s0), .int (iz s1), .ref (ad 197), .int (iz rm), .ref (ad 198), .ref (ad 199)])) := ⟨_, rfl⟩
                    rw [← hg_22] at G
                    have hc_23 : g_21 192 = .inr (8, [.ref (ad 193), .int (iz ly), .int (iz th), .ref (ad 194), .int (iz mk), .ref (ad 195), .int (iz tx), .ref (ad 196), .int (iz rl), .int (iz p9), .int (iz 1), .int (iz s0), .int (iz s1), .ref (ad 197), .int (iz rm), .ref (ad 198), .ref (ad 199)]) := by rw [hg_22]; exact gu_self _ _ _
                    have hc_24 : g_21 195 = aI κ 100 X9 := by rw [hg_22, gu_ne (by decide)]; exact ht9
                    refine g_goto (tgt := 142) C dX8_number_119 (by decide) ?_
                    refine lv_iinc (v := iz (k + 1)) (lv' := [(6, .int (iz (k + 1))), (8, .int (iz F_7)), (7, .int (iz 10)), (5, .int (iz (un / 10))), (0, .ref (ad 192)), (1, .int (iz dg)), (2, .int (iz lo)), (3, .int (iz hi)), (4, .int (iz v9))]) C.1.1 C.1.2.1 dX8_number_142 hl (k := 8) rfl (g_inc (by omega)) (by decide) rfl (fun ls hl => ?_)
                    refine g_goto (tgt := 21) C dX8_number_145 (by decide) ?_
                    exact ih_lp_21_n_3 v9 (un / 10) (k + 1) p9 1 g_21 (by omega) (by omega) (by omega) (by omega) (by omega) (Or.inr rfl) (by rw [hg_22, hgv, gu_up]) (fun q => absurd q (by decide)) (fun _ => by have hR9 := hR0 (by omega); rw [rdN_no (by omega) (fun q => by omega)] at hR9; exact hR9.symm) _ _ G _ (lv_sub hl [4, 5, 6, 7, 8, 3, 0] rfl)
              · refine g_if_eq (tgt := 114) C (by decide) dX8_number_94 (by decide) (fun _ => ?_) (fun c9 => absurd c9 (by decide))
                refine g_aload_n C dX8_number_114 rfl hl 3 rfl ?_
                refine g_iconst (a := 1) C dX8_number_115 rfl ?_
                refine g_put C G (pos := 192) (fs' := [.ref (ad 193), .int (iz ly), .int (iz th), .ref (ad 194), .int (iz mk), .ref (ad 195), .int (iz tx), .ref (ad 196), .int (iz rl), .int (iz p9), .int (iz 1), .int (iz s0), .int (iz s1), .ref (ad 197), .int (iz rm), .ref (ad 198), .ref (ad 199)]) fwX8_number_89 (by omega) hm9 (Nat.le_of_ble_eq_true rfl) rfl (gnar_z (by decide)) rfl dX8_number_116 (fun H locs G => ?_)
                obtain ⟨g_25, hg_26⟩ : ∃ g9, g9 = va_up gv 192 (.inr (8, [.ref (ad 193), .int (iz ly), .int (iz th), .ref (ad 194), .int (iz mk), .ref (ad 195), .int (iz tx), .ref (ad 196), .int (iz rl), .int (iz p9), .int (iz 1), .int (iz s0), .int (iz s1), .ref (ad 197), .int (iz rm), .ref (ad 198), .ref (ad 199)])) := ⟨_, rfl⟩
                rw [← hg_26] at G
                have hc_27 : g_25 192 = .inr (8, [.ref (ad 193), .int (iz ly), .int (iz th), .ref (ad 194), .int (iz mk), .ref (ad 195), .int (iz tx), .ref (ad 196), .int (iz rl), .int (iz p9), .int (iz 1), .int (iz s0), .int (iz s1), .ref (ad 197), .int (iz rm), .ref (ad 198), .ref (ad 199)]) := by rw [hg_26]; exact gu_self _ _ _
                have hc_28 : g_25 195 = aI κ 100 X9 := by rw [hg_26, gu_ne (by decide)]; exact ht9
                refine g_goto (tgt := 142) C dX8_number_119 (by decide) ?_
                refine lv_iinc (v := iz (k + 1)) (lv' := [(6, .int (iz (k + 1))), (8, .int (iz F_7)), (7, .int (iz 10)), (5, .int (iz (un / 10))), (0, .ref (ad 192)), (1, .int (iz dg)), (2, .int (iz lo)), (3, .int (iz hi)), (4, .int (iz v9))]) C.1.1 C.1.2.1 dX8_number_142 hl (k := 8) rfl (g_inc (by omega)) (by decide) rfl (fun ls hl => ?_)
                refine g_goto (tgt := 21) C dX8_number_145 (by decide) ?_
                exact ih_lp_21_n_3 v9 (un / 10) (k + 1) p9 1 g_25 (by omega) (by omega) (by omega) (by omega) (by omega) (Or.inr rfl) (by rw [hg_26, hgv, gu_up]) (fun q => absurd q (by decide)) (fun _ => by have hR9 := hR0 (by omega); rw [rdN_no (by omega) (fun q => by omega)] at hR9; exact hR9.symm) _ _ G _ (lv_sub hl [4, 5, 6, 7, 8, 3, 0] rfl)
            · refine g_aload_n C dX8_number_52 rfl hl 1 rfl ?_
              refine g_get C G (pos := 192) fX8_number_16 (by omega) hm9 rfl dX8_number_53 ?_
              refine g_aload_n C dX8_number_56 rfl hl 1 rfl ?_
              refine g_get C G (pos := 192) fX8_number_93 (by omega) hm9 rfl dX8_number_57 ?_
              refine g_iaload C G (pos := 195) (by omega) ht9 (by omega) (by omega) (by omega) dX8_number_60 ?_
              have hx9 := hTx p9 (by omega) (by omega)
              refine g_bipush (a := 48) C dX8_number_61 (by decide) ?_
              refine g_isub C dX8_number_63 ?_
              refine g_goto (tgt := 69) C dX8_number_64 (by decide) ?_
              refine lv_istore (lv' := [(7, .int (iz ((X9 p9) - 48))), (5, .int (iz (un / 10))), (0, .ref (ad 192)), (1, .int (iz dg)), (2, .int (iz lo)), (3, .int (iz hi)), (4, .int (iz v9)), (6, .int (iz k))]) C.1.1 C.1.2.1 dX8_number_69 hl (by decide) rfl (fun ls hl => ?_)
              refine g_bipush (a := 10) C dX8_number_71 (by decide) ?_
              refine g_iload C dX8_number_73 hl 6 rfl ?_
              refine g_imul C dX8_number_75 ?_
              refine g_iload C dX8_number_76 hl 0 rfl ?_
              refine g_iadd C dX8_number_78 ?_
              refine g_iload C dX8_number_79 hl 1 rfl ?_
              refine g_imul C dX8_number_81 ?_
              have hfm : ((10 * v9) + ((X9 p9) - 48)) * (un / 10) = v9 * un + ((X9 p9) - 48) * (un / 10) := by rcases hun with h | h | h | h <;> rw [h.2] <;> omega
              have hfb : -500000 ≤ ((10 * v9) + ((X9 p9) - 48)) * (un / 10) ∧ ((10 * v9) + ((X9 p9) - 48)) * (un / 10) ≤ 5000000 := by rcases hun with h | h | h | h <;> rw [h.2] <;> omega
              obtain ⟨F_29, eF_30⟩ : ∃ F9, F9 = ((10 * v9) + ((X9 p9) - 48)) * (un / 10) := ⟨_, rfl⟩
              rw [← eF_30] at hfm hfb
              rw [← eF_30]
              refine lv_istore (lv' := [(8, .int (iz F_29)), (7, .int (iz ((X9 p9) - 48))), (5, .int (iz (un / 10))), (0, .ref (ad 192)), (1, .int (iz dg)), (2, .int (iz lo)), (3, .int (iz hi)), (4, .int (iz v9)), (6, .int (iz k))]) C.1.1 C.1.2.1 dX8_number_82 hl (by decide) rfl (fun ls hl => ?_)
              refine g_iload C dX8_number_84 hl 1 rfl ?_
              refine g_i2l C (by omega) dX8_number_86 ?_
              refine g_lconst (a := 0) C dX8_number_87 (by decide) ?_
              refine g_ldc2 (a := 9) C (by decide +kernel) dX8_number_88 ?_
              refine g_ci C G (g_runS (As := [.long (jz ((X9 p9) - 48)), .long (jz 0), .long (jz 9)]) (rest := []) C G (c_X8_in l κ B n ad gv ((X9 p9) - 48) 0 9 (by omega) (by omega) (by omega)) (va_cwS 3 C.1.2.2.2.2 gX8_number_X8_in rfl rfl rfl (by decide +kernel) ⟨Nat.le_of_ble_eq_true rfl, Nat.le_of_ble_eq_true rfl⟩) rfl hl rfl (Nat.le_of_ble_eq_true rfl) dX8_number_91 ⟨Nat.le_of_ble_eq_true rfl, Nat.le_of_ble_eq_true rfl⟩) (fun z_32 g9 H locs hw G => ?_)
              obtain ⟨hg9, hw⟩ := hw
              replace hg9 := hg9.symm
              subst hg9
              rcases hw with ⟨b_31, rfl⟩ | ⟨b_31, rfl⟩
              · refine g_if_eq (tgt := 114) C (by decide) dX8_number_94 (by decide) (fun c9 => absurd c9 (by decide)) (fun _ => ?_)
                refine g_iload C dX8_number_97 hl 0 rfl ?_
                refine g_iload_n C dX8_number_99 rfl hl 6 rfl ?_
                refine g_icmp_gt (tgt := 114) C (by omega) (by omega) dX8_number_100 (by decide) (fun c_33 => ?_) (fun c_33 => ?_)
                · refine g_aload_n C dX8_number_114 rfl hl 3 rfl ?_
                  refine g_iconst (a := 1) C dX8_number_115 rfl ?_
                  refine g_put C G (pos := 192) (fs' := [.ref (ad 193), .int (iz ly), .int (iz th), .ref (ad 194), .int (iz mk), .ref (ad 195), .int (iz tx), .ref (ad 196), .int (iz rl), .int (iz p9), .int (iz 1), .int (iz s0), .int (iz s1), .ref (ad 197), .int (iz rm), .ref (ad 198), .ref (ad 199)]) fwX8_number_89 (by omega) hm9 (Nat.le_of_ble_eq_true rfl) rfl (gnar_z (by decide)) rfl dX8_number_116 (fun H locs G => ?_)
                  obtain ⟨g_34, hg_35⟩ : ∃ g9, g9 = va_up gv 192 (.inr (8, [.ref (ad 193), .int (iz ly), .int (iz th), .ref (ad 194), .int (iz mk), .ref (ad 195), .int (iz tx), .ref (ad 196), .int (iz rl), .int (iz p9), .int (iz 1), .int (iz s0), .int (iz s1), .ref (ad 197), .int (iz rm), .ref (ad 198), .ref (ad 199)])) := ⟨_, rfl⟩
                  rw [← hg_35] at G
                  have hc_36 : g_34 192 = .inr (8, [.ref (ad 193), .int (iz ly), .int (iz th), .ref (ad 194), .int (iz mk), .ref (ad 195), .int (iz tx), .ref (ad 196), .int (iz rl), .int (iz p9), .int (iz 1), .int (iz s0), .int (iz s1), .ref (ad 197), .int (iz rm), .ref (ad 198), .ref (ad 199)]) := by rw [hg_35]; exact gu_self _ _ _
                  have hc_37 : g_34 195 = aI κ 100 X9 := by rw [hg_35, gu_ne (by decide)]; exact ht9
                  refine g_goto (tgt := 142) C dX8_number_119 (by decide) ?_
                  refine lv_iinc (v := iz (k + 1)) (lv' := [(6, .int (iz (k + 1))), (8, .int (iz F_29)), (7, .int (iz ((X9 p9) - 48))), (5, .int (iz (un / 10))), (0, .ref (ad 192)), (1, .int (iz dg)), (2, .int (iz lo)), (3, .int (iz hi)), (4, .int (iz v9))]) C.1.1 C.1.2.1 dX8_number_142 hl (k := 8) rfl (g_inc (by omega)) (by decide) rfl (fun ls hl => ?_)
                  refine g_goto (tgt := 21) C dX8_number_145 (by decide) ?_
                  exact ih_lp_21_n_3 v9 (un / 10) (k + 1) p9 1 g_34 (by omega) (by omega) (by omega) (by omega) (by omega) (Or.inr rfl) (by rw [hg_35, hgv, gu_up]) (fun q => absurd q (by decide)) (fun _ => by have hR9 := hR0 (by omega); rw [rdN_no (by omega) (fun q => by have q1 := q.2.1; have q2 := q.2.2.1; have q3 := q.2.2.2.1; have q4 := q.2.2.2.2; rw [← hfm] at q3 q4; omega)] at hR9; exact hR9.symm) _ _ G _ (lv_sub hl [4, 5, 6, 7, 8, 3, 0] rfl)
                · refine g_iload C dX8_number_103 hl 0 rfl ?_
                  refine g_iload C dX8_number_105 hl 2 rfl ?_
                  refine g_iadd C dX8_number_107 ?_
                  refine g_iconst (a := 1) C dX8_number_108 rfl ?_
                  refine g_isub C dX8_number_109 ?_
                  refine g_iload_n C dX8_number_110 rfl hl 5 rfl ?_
                  refine g_icmp_ge (tgt := 122) C (by omega) (by omega) dX8_number_111 (by decide) (fun c_38 => ?_) (fun c_38 => ?_)
                  · refine g_bipush (a := 10) C dX8_number_122 (by decide) ?_
                    refine g_iload C dX8_number_124 hl 7 rfl ?_
                    refine g_imul C dX8_number_126 ?_
                    refine g_iload C dX8_number_127 hl 1 rfl ?_
                    refine g_iadd C dX8_number_129 ?_
                    refine lv_istore (lv' := [(4, .int (iz ((10 * v9) + ((X9 p9) - 48)))), (8, .int (iz F_29)), (7, .int (iz ((X9 p9) - 48))), (5, .int (iz (un / 10))), (0, .ref (ad 192)), (1, .int (iz dg)), (2, .int (iz lo)), (3, .int (iz hi)), (6, .int (iz k))]) C.1.1 C.1.2.1 dX8_number_130 hl (by decide) rfl (fun ls hl => ?_)
                    refine g_aload_n C dX8_number_132 rfl hl 4 rfl ?_
                    refine lv_dup C.1.1 C.1.2.1 dX8_number_133 rfl ?_
                    refine g_get C G (pos := 192) fX8_number_93 (by omega) hm9 rfl dX8_number_134 ?_
                    refine g_iconst (a := 1) C dX8_number_137 rfl ?_
                    refine g_iadd C dX8_number_138 ?_
                    refine g_put C G (pos := 192) (fs' := [.ref (ad 193), .int (iz ly), .int (iz th), .ref (ad 194), .int (iz mk), .ref (ad 195), .int (iz tx), .ref (ad 196), .int (iz rl), .int (iz (p9 + 1)), .int (iz w9), .int (iz s0), .int (iz s1), .ref (ad 197), .int (iz rm), .ref (ad 198), .ref (ad 199)]) fwX8_number_93 (by omega) hm9 (Nat.le_of_ble_eq_true rfl) rfl rfl rfl dX8_number_139 (fun H locs G => ?_)
                    obtain ⟨g_39, hg_40⟩ : ∃ g9, g9 = va_up gv 192 (.inr (8, [.ref (ad 193), .int (iz ly), .int (iz th), .ref (ad 194), .int (iz mk), .ref (ad 195), .int (iz tx), .ref (ad 196), .int (iz rl), .int (iz (p9 + 1)), .int (iz w9), .int (iz s0), .int (iz s1), .ref (ad 197), .int (iz rm), .ref (ad 198), .ref (ad 199)])) := ⟨_, rfl⟩
                    rw [← hg_40] at G
                    have hc_41 : g_39 192 = .inr (8, [.ref (ad 193), .int (iz ly), .int (iz th), .ref (ad 194), .int (iz mk), .ref (ad 195), .int (iz tx), .ref (ad 196), .int (iz rl), .int (iz (p9 + 1)), .int (iz w9), .int (iz s0), .int (iz s1), .ref (ad 197), .int (iz rm), .ref (ad 198), .ref (ad 199)]) := by rw [hg_40]; exact gu_self _ _ _
                    have hc_42 : g_39 195 = aI κ 100 X9 := by rw [hg_40, gu_ne (by decide)]; exact ht9
                    refine lv_iinc (v := iz (k + 1)) (lv' := [(6, .int (iz (k + 1))), (4, .int (iz ((10 * v9) + ((X9 p9) - 48)))), (8, .int (iz F_29)), (7, .int (iz ((X9 p9) - 48))), (5, .int (iz (un / 10))), (0, .ref (ad 192)), (1, .int (iz dg)), (2, .int (iz lo)), (3, .int (iz hi))]) C.1.1 C.1.2.1 dX8_number_142 hl (k := 8) rfl (g_inc (by omega)) (by decide) rfl (fun ls hl => ?_)
                    refine g_goto (tgt := 21) C dX8_number_145 (by decide) ?_
                    exact ih_lp_21_n_3 ((10 * v9) + ((X9 p9) - 48)) (un / 10) (k + 1) (p9 + 1) w9 g_39 (by omega) (by omega) (by omega) (by omega) (by omega) hw (by rw [hg_40, hgv, gu_up]) (fun q9 => by have hR9 := hR0 q9; rw [rdN_yes (by omega) ⟨by omega, by omega, by omega, by rw [← hfm]; omega, by rw [← hfm]; omega⟩, ← hfm, show dg - k - 1 = dg - (k + 1) by omega, eF_30] at hR9; exact hR9) (fun q9 => absurd q9 (by omega)) _ _ G _ (lv_sub hl [5, 6, 7, 8, 1, 4, 0] rfl)
                  · refine g_aload_n C dX8_number_114 rfl hl 3 rfl ?_
                    refine g_iconst (a := 1) C dX8_number_115 rfl ?_
                    refine g_put C G (pos := 192) (fs' := [.ref (ad 193), .int (iz ly), .int (iz th), .ref (ad 194), .int (iz mk), .ref (ad 195), .int (iz tx), .ref (ad 196), .int (iz rl), .int (iz p9), .int (iz 1), .int (iz s0), .int (iz s1), .ref (ad 197), .int (iz rm), .ref (ad 198), .ref (ad 199)]) fwX8_number_89 (by omega) hm9 (Nat.le_of_ble_eq_true rfl) rfl (gnar_z (by decide)) rfl dX8_number_116 (fun H locs G => ?_)
                    obtain ⟨g_43, hg_44⟩ : ∃ g9, g9 = va_up gv 192 (.inr (8, [.ref (ad 193), .int (iz ly), .int (iz th), .ref (ad 194), .int (iz mk), .ref (ad 195), .int (iz tx), .ref (ad 196), .int (iz rl), .int (iz p9), .int (iz 1), .int (iz s0), .int (iz s1), .ref (ad 197), .int (iz rm), .ref (ad 198), .ref (ad 199)])) := ⟨_, rfl⟩
                    rw [← hg_44] at G
                    have hc_45 : g_43 192 = .inr (8, [.ref (ad 193), .int (iz ly), .int (iz th), .ref (ad 194), .int (iz mk), .ref (ad 195), .int (iz tx), .ref (ad 196), .int (iz rl), .int (iz p9), .int (iz 1), .int (iz s0), .int (iz s1), .ref (ad 197), .int (iz rm), .ref (ad 198), .ref (ad 199)]) := by rw [hg_44]; exact gu_self _ _ _
                    have hc_46 : g_43 195 = aI κ 100 X9 := by rw [hg_44, gu_ne (by decide)]; exact ht9
                    refine g_goto (tgt := 142) C dX8_number_119 (by decide) ?_
                    refine lv_iinc (v := iz (k + 1)) (lv' := [(6, .int (iz (k + 1))), (8, .int (iz F_29)), (7, .int (iz ((X9 p9) - 48))), (5, .int (iz (un / 10))), (0, .ref (ad 192)), (1, .int (iz dg)), (2, .int (iz lo)), (3, .int (iz hi)), (4, .int (iz v9))]) C.1.1 C.1.2.1 dX8_number_142 hl (k := 8) rfl (g_inc (by omega)) (by decide) rfl (fun ls hl => ?_)
                    refine g_goto (tgt := 21) C dX8_number_145 (by decide) ?_
                    exact ih_lp_21_n_3 v9 (un / 10) (k + 1) p9 1 g_43 (by omega) (by omega) (by omega) (by omega) (by omega) (Or.inr rfl) (by rw [hg_44, hgv, gu_up]) (fun q => absurd q (by decide)) (fun _ => by have hR9 := hR0 (by omega); rw [rdN_no (by omega) (fun q => by have q1 := q.2.1; have q2 := q.2.2.1; have q3 := q.2.2.2.1; have q4 := q.2.2.2.2; rw [← hfm] at q3 q4; omega)] at hR9; exact hR9.symm) _ _ G _ (lv_sub hl [4, 5, 6, 7, 8, 3, 0] rfl)
              · refine g_if_eq (tgt := 114) C (by decide) dX8_number_94 (by decide) (fun _ => ?_) (fun c9 => absurd c9 (by decide))
                refine g_aload_n C dX8_number_114 rfl hl 3 rfl ?_
                refine g_iconst (a := 1) C dX8_number_115 rfl ?_
                refine g_put C G (pos := 192) (fs' := [.ref (ad 193), .int (iz ly), .int (iz th), .ref (ad 194), .int (iz mk), .ref (ad 195), .int (iz tx), .ref (ad 196), .int (iz rl), .int (iz p9), .int (iz 1), .int (iz s0), .int (iz s1), .ref (ad 197), .int (iz rm), .ref (ad 198), .ref (ad 199)]) fwX8_number_89 (by omega) hm9 (Nat.le_of_ble_eq_true rfl) rfl (gnar_z (by decide)) rfl dX8_number_116 (fun H locs G => ?_)
                obtain ⟨g_47, hg_48⟩ : ∃ g9, g9 = va_up gv 192 (.inr (8, [.ref (ad 193), .int (iz ly), .int (iz th), .ref (ad 194), .int (iz mk), .ref (ad 195), .int (iz tx), .ref (ad 196), .int (iz rl), .int (iz p9), .int (iz 1), .int (iz s0), .int (iz s1), .ref (ad 197), .int (iz rm), .ref (ad 198), .ref (ad 199)])) := ⟨_, rfl⟩
                rw [← hg_48] at G
                have hc_49 : g_47 192 = .inr (8, [.ref (ad 193), .int (iz ly), .int (iz th), .ref (ad 194), .int (iz mk), .ref (ad 195), .int (iz tx), .ref (ad 196), .int (iz rl), .int (iz p9), .int (iz 1), .int (iz s0), .int (iz s1), .ref (ad 197), .int (iz rm), .ref (ad 198), .ref (ad 199)]) := by rw [hg_48]; exact gu_self _ _ _
                have hc_50 : g_47 195 = aI κ 100 X9 := by rw [hg_48, gu_ne (by decide)]; exact ht9
                refine g_goto (tgt := 142) C dX8_number_119 (by decide) ?_
                refine lv_iinc (v := iz (k + 1)) (lv' := [(6, .int (iz (k + 1))), (8, .int (iz F_29)), (7, .int (iz ((X9 p9) - 48))), (5, .int (iz (un / 10))), (0, .ref (ad 192)), (1, .int (iz dg)), (2, .int (iz lo)), (3, .int (iz hi)), (4, .int (iz v9))]) C.1.1 C.1.2.1 dX8_number_142 hl (k := 8) rfl (g_inc (by omega)) (by decide) rfl (fun ls hl => ?_)
                refine g_goto (tgt := 21) C dX8_number_145 (by decide) ?_
                exact ih_lp_21_n_3 v9 (un / 10) (k + 1) p9 1 g_47 (by omega) (by omega) (by omega) (by omega) (by omega) (Or.inr rfl) (by rw [hg_48, hgv, gu_up]) (fun q => absurd q (by decide)) (fun _ => by have hR9 := hR0 (by omega); rw [rdN_no (by omega) (fun q => by have q1 := q.2.1; have q2 := q.2.2.1; have q3 := q.2.2.2.1; have q4 := q.2.2.2.2; rw [← hfm] at q3 q4; omega)] at hR9; exact hR9.symm) _ _ G _ (lv_sub hl [4, 5, 6, 7, 8, 3, 0] rfl)
    exact lp_21_n_3 _ 0 1000 0 a0 wr g (Nat.lt_succ_self _) (by omega) (by omega) (by omega) (by omega) (by omega) (by funext q; by_cases hq : q = 192 <;> simp [va_up, hq, hM]) (fun _ => by rw [Int.zero_mul]; exact nu_start hdg (by omega)) (fun q => absurd q (by omega)) _ _ G _ (lv_sub hl [3, 4, 5, 6, 2, 1, 0] rfl)
  · refine g_bipush (a := 100) C dX8_number_8 (by decide) ?_
    refine g_goto (tgt := 16) C dX8_number_10 (by decide) ?_
    refine lv_istore (lv' := [(5, .int (iz 100)), (4, .int (iz 0)), (0, .ref (ad 192)), (1, .int (iz dg)), (2, .int (iz lo)), (3, .int (iz hi))]) C.1.1 C.1.2.1 dX8_number_16 hl (by decide) rfl (fun ls hl => ?_)
    refine g_iconst (a := 0) C dX8_number_18 rfl ?_
    refine lv_istore (lv' := [(6, .int (iz 0)), (5, .int (iz 100)), (4, .int (iz 0)), (0, .ref (ad 192)), (1, .int (iz dg)), (2, .int (iz lo)), (3, .int (iz hi))]) C.1.1 C.1.2.1 dX8_number_19 hl (by decide) rfl (fun ls hl => ?_)
    have lp_21_n_52 : ∀ (k_51 : Nat) (v9 : Int) (un : Int) (k : Int) (p9 : Int) (w9 : Int) (gv : Nat → va_E), (dg - k).toNat < k_51 → (0 ≤ k ∧ k ≤ dg) → ((dg - k = 0 ∧ un = 1) ∨ (dg - k = 1 ∧ un = 10) ∨ (dg - k = 2 ∧ un = 100) ∨ (dg - k = 3 ∧ un = 1000)) → ((k = 0 ∧ v9 = 0) ∨ (k = 1 ∧ 0 ≤ v9 ∧ v9 ≤ 9) ∨ (k = 2 ∧ 0 ≤ v9 ∧ v9 ≤ 99) ∨ (k = 3 ∧ 0 ≤ v9 ∧ v9 ≤ 999)) → (a0 ≤ p9 ∧ p9 ≤ tx) → (w9 = 0 ∨ w9 = 1) → (gv = va_up g 192 (oM ad ly th mk tx rl p9 w9 s0 s1 rm)) → (w9 = 0 → rdN X9 tx lo hi (dg - k).toNat (v9 * un) un p9 = rd X9 tx lo hi dg a0) → (w9 = 1 → rd X9 tx lo hi dg a0 = (-1, p9)) → ∀ (H : Heap) (locs : List Loc), gG κ B n ad s gv H locs → ∀ (ls : Array Slot), lv_has ls 9 [(0, .ref (ad 192)), (1, .int (iz dg)), (2, .int (iz lo)), (3, .int (iz hi)), (4, .int (iz v9)), (5, .int (iz un)), (6, .int (iz k))] → W p l e ({ frames := 1, cells := 0, slots := 0, locals := 25 }) s m args below meth c H locs 0 0 (MQ below (gQi κ B n ad (fun z g' => ((rd X9 tx lo hi dg a0).1 = -1 ∧ g' = va_up g 192 (oM ad ly th mk tx rl ((rd X9 tx lo hi dg a0).2) 1 s0 s1 rm) ∧ 0 ≤ z ∧ z ≤ 999) ∨ (¬ (rd X9 tx lo hi dg a0).1 = -1 ∧ g' = va_up g 192 (oM ad ly th mk tx rl ((rd X9 tx lo hi dg a0).2) 0 s0 s1 rm) ∧ z = (rd X9 tx lo hi dg a0).1))) args s 0 0 (gFree B)) (F0 m 21 ls []) := by
      intro k_51
      induction k_51 with
      | zero => intro v9 un k p9 w9 gv hm; exact absurd hm (Nat.not_lt_zero _)
      | succ k_51 ih_lp_21_n_52 =>
        intro v9 un k p9 w9 gv hm hk hun hv hp hw hgv hR0 hR1 H locs G ls hl
        have hm9 : gv 192 = oM ad ly th mk tx rl p9 w9 s0 s1 rm := by rw [hgv]; exact gu_self _ _ _
        have ht9 : gv 195 = aI κ 100 X9 := by rw [hgv, gu_ne (by decide)]; exact hT
        refine g_iload C dX8_number_21 hl 6 rfl ?_
        refine g_iload_n C dX8_number_23 rfl hl 1 rfl ?_
        refine g_icmp_ge (tgt := 148) C (by omega) (by omega) dX8_number_24 (by decide) (fun c_53 => ?_) (fun c_53 => ?_)
        · refine g_iload C dX8_number_148 hl 4 rfl ?_
          refine g_iret C G hr hlk (Nat.le_of_ble_eq_true rfl) (Nat.le_of_ble_eq_true rfl) dX8_number_150 ?_
          by_cases hk8 : k = dg
          · rcases hw with hw0 | hw1
            · have hR9 := hR0 hw0
              have hun1 : un = 1 := by omega
              rw [show dg - k = 0 by omega, hun1, Int.mul_one] at hR9
              have hR8 : rd X9 tx lo hi dg a0 = (v9, p9) := hR9.symm
              rw [hR8]
              exact Or.inr ⟨by show ¬ v9 = -1; omega, by rw [hgv, hw0], rfl⟩
            · rw [hR1 hw1]
              exact Or.inl ⟨rfl, by rw [hgv, hw1], by omega, by omega⟩
          · have hw1 : w9 = 1 := by omega
            rw [hR1 hw1]
            exact Or.inl ⟨rfl, by rw [hgv, hw1], by omega, by omega⟩
        · refine g_aload_n C dX8_number_27 rfl hl 0 rfl ?_
          refine g_get C G (pos := 192) fX8_number_89 (by omega) hm9 rfl dX8_number_28 ?_
          refine g_if_ne (tgt := 148) C (by omega) dX8_number_31 (by decide) (fun c_54 => ?_) (fun c_54 => ?_)
          · refine g_iload C dX8_number_148 hl 4 rfl ?_
            refine g_iret C G hr hlk (Nat.le_of_ble_eq_true rfl) (Nat.le_of_ble_eq_true rfl) dX8_number_150 ?_
            by_cases hk8 : k = dg
            · rcases hw with hw0 | hw1
              · have hR9 := hR0 hw0
                have hun1 : un = 1 := by omega
                rw [show dg - k = 0 by omega, hun1, Int.mul_one] at hR9
                have hR8 : rd X9 tx lo hi dg a0 = (v9, p9) := hR9.symm
                rw [hR8]
                exact Or.inr ⟨by show ¬ v9 = -1; omega, by rw [hgv, hw0], rfl⟩
              · rw [hR1 hw1]
                exact Or.inl ⟨rfl, by rw [hgv, hw1], by omega, by omega⟩
            · have hw1 : w9 = 1 := by omega
              rw [hR1 hw1]
              exact Or.inl ⟨rfl, by rw [hgv, hw1], by omega, by omega⟩
          · refine g_iload C dX8_number_34 hl 5 rfl ?_
            refine g_bipush (a := 10) C dX8_number_36 (by decide) ?_
            refine g_idiv C (by omega) (by decide) (by decide) dX8_number_38 ?_
            rw [show (Int.tdiv un 10 : Int) = un / 10 from (tdiv_pos (by omega))]
            refine lv_istore (lv' := [(5, .int (iz (un / 10))), (0, .ref (ad 192)), (1, .int (iz dg)), (2, .int (iz lo)), (3, .int (iz hi)), (4, .int (iz v9)), (6, .int (iz k))]) C.1.1 C.1.2.1 dX8_number_39 hl (by decide) rfl (fun ls hl => ?_)
            refine g_aload_n C dX8_number_41 rfl hl 1 rfl ?_
            refine g_get C G (pos := 192) fX8_number_93 (by omega) hm9 rfl dX8_number_42 ?_
            refine g_aload_n C dX8_number_45 rfl hl 1 rfl ?_
            refine g_get C G (pos := 192) fX8_number_86 (by omega) hm9 rfl dX8_number_46 ?_
            refine g_icmp_ge (tgt := 67) C (by omega) (by omega) dX8_number_49 (by decide) (fun c_55 => ?_) (fun c_55 => ?_)
            · refine g_bipush (a := 10) C dX8_number_67 (by decide) ?_
              refine lv_istore (lv' := [(7, .int (iz 10)), (5, .int (iz (un / 10))), (0, .ref (ad 192)), (1, .int (iz dg)), (2, .int (iz lo)), (3, .int (iz hi)), (4, .int (iz v9)), (6, .int (iz k))]) C.1.1 C.1.2.1 dX8_number_69 hl (by decide) rfl (fun ls hl => ?_)
              refine g_bipush (a := 10) C dX8_number_71 (by decide) ?_
              refine g_iload C dX8_number_73 hl 6 rfl ?_
              refine g_imul C dX8_number_75 ?_
              refine g_iload C dX8_number_76 hl 0 rfl ?_
              refine g_iadd C dX8_number_78 ?_
              refine g_iload C dX8_number_79 hl 1 rfl ?_
              refine g_imul C dX8_number_81 ?_
              have hfm : ((10 * v9) + 10) * (un / 10) = v9 * un + 10 * (un / 10) := by rcases hun with h | h | h | h <;> rw [h.2] <;> omega
              have hfb : -500000 ≤ ((10 * v9) + 10) * (un / 10) ∧ ((10 * v9) + 10) * (un / 10) ≤ 5000000 := by rcases hun with h | h | h | h <;> rw [h.2] <;> omega
              obtain ⟨F_56, eF_57⟩ : ∃ F9, F9 = ((10 * v9) + 10) * (un / 10) := ⟨_, rfl⟩
              rw [← eF_57] at hfm hfb
              rw [← eF_57]
              refine lv_istore (lv' := [(8, .int (iz F_56)), (7, .int (iz 10)), (5, .int (iz (un / 10))), (0, .ref (ad 192)), (1, .int (iz dg)), (2, .int (iz lo)), (3, .int (iz hi)), (4, .int (iz v9)), (6, .int (iz k))]) C.1.1 C.1.2.1 dX8_number_82 hl (by decide) rfl (fun ls hl => ?_)
              refine g_iload C dX8_number_84 hl 1 rfl ?_
              refine g_i2l C (by decide) dX8_number_86 ?_
              refine g_lconst (a := 0) C dX8_number_87 (by decide) ?_
              refine g_ldc2 (a := 9) C (by decide +kernel) dX8_number_88 ?_
              refine g_ci C G (g_runS (As := [.long (jz 10), .long (jz 0), .long (jz 9)]) (rest := []) C G (c_X8_in l κ B n ad gv 10 0 9 (by omega) (by omega) (by omega)) (va_cwS 3 C.1.2.2.2.2 gX8_number_X8_in rfl rfl rfl (by decide +kernel) ⟨Nat.le_of_ble_eq_true rfl, Nat.le_of_ble_eq_true rfl⟩) rfl hl rfl (Nat.le_of_ble_eq_true rfl) dX8_number_91 ⟨Nat.le_of_ble_eq_true rfl, Nat.le_of_ble_eq_true rfl⟩) (fun z_59 g9 H locs hw G => ?_)
              obtain ⟨hg9, hw⟩ := hw
              replace hg9 := hg9.symm
              subst hg9
              rcases hw with ⟨b_58, rfl⟩ | ⟨b_58, rfl⟩
              · refine g_if_eq (tgt := 114) C (by decide) dX8_number_94 (by decide) (fun c9 => absurd c9 (by decide)) (fun _ => ?_)
                refine g_iload C dX8_number_97 hl 0 rfl ?_
                refine g_iload_n C dX8_number_99 rfl hl 6 rfl ?_
                refine g_icmp_gt (tgt := 114) C (by omega) (by omega) dX8_number_100 (by decide) (fun c_60 => ?_) (fun c_60 => ?_)
                · refine g_aload_n C dX8_number_114 rfl hl 3 rfl ?_
                  refine g_iconst (a := 1) C dX8_number_115 rfl ?_
                  refine g_put C G (pos := 192) (fs' := [.ref (ad 193), .int (iz ly), .int (iz th), .ref (ad 194), .int (iz mk), .ref (ad 195), .int (iz tx), .ref (ad 196), .int (iz rl), .int (iz p9), .int (iz 1), .int (iz s0), .int (iz s1), .ref (ad 197), .int (iz rm), .ref (ad 198), .ref (ad 199)]) fwX8_number_89 (by omega) hm9 (Nat.le_of_ble_eq_true rfl) rfl (gnar_z (by decide)) rfl dX8_number_116 (fun H locs G => ?_)
                  obtain ⟨g_61, hg_62⟩ : ∃ g9, g9 = va_up gv 192 (.inr (8, [.ref (ad 193), .int (iz ly), .int (iz th), .ref (ad 194), .int (iz mk), .ref (ad 195), .int (iz tx), .ref (ad 196), .int (iz rl), .int (iz p9), .int (iz 1), .int (iz s0), .int (iz s1), .ref (ad 197), .int (iz rm), .ref (ad 198), .ref (ad 199)])) := ⟨_, rfl⟩
                  rw [← hg_62] at G
                  have hc_63 : g_61 192 = .inr (8, [.ref (ad 193), .int (iz ly), .int (iz th), .ref (ad 194), .int (iz mk), .ref (ad 195), .int (iz tx), .ref (ad 196), .int (iz rl), .int (iz p9), .int (iz 1), .int (iz s0), .int (iz s1), .ref (ad 197), .int (iz rm), .ref (ad 198), .ref (ad 199)]) := by rw [hg_62]; exact gu_self _ _ _
                  have hc_64 : g_61 195 = aI κ 100 X9 := by rw [hg_62, gu_ne (by decide)]; exact ht9
                  refine g_goto (tgt := 142) C dX8_number_119 (by decide) ?_
                  refine lv_iinc (v := iz (k + 1)) (lv' := [(6, .int (iz (k + 1))), (8, .int (iz F_56)), (7, .int (iz 10)), (5, .int (iz (un / 10))), (0, .ref (ad 192)), (1, .int (iz dg)), (2, .int (iz lo)), (3, .int (iz hi)), (4, .int (iz v9))]) C.1.1 C.1.2.1 dX8_number_142 hl (k := 8) rfl (g_inc (by omega)) (by decide) rfl (fun ls hl => ?_)
                  refine g_goto (tgt := 21) C dX8_number_145 (by decide) ?_
                  exact ih_lp_21_n_52 v9 (un / 10) (k + 1) p9 1 g_61 (by omega) (by omega) (by omega) (by omega) (by omega) (Or.inr rfl) (by rw [hg_62, hgv, gu_up]) (fun q => absurd q (by decide)) (fun _ => by have hR9 := hR0 (by omega); rw [rdN_no (by omega) (fun q => by omega)] at hR9; exact hR9.symm) _ _ G _ (lv_sub hl [4, 5, 6, 7, 8, 3, 0] rfl)
                · refine g_iload C dX8_number_103 hl 0 rfl ?_
                  refine g_iload C dX8_number_105 hl 2 rfl ?_
                  refine g_iadd C dX8_number_107 ?_
                  refine g_iconst (a := 1) C dX8_number_108 rfl ?_
                  refine g_isub C dX8_number_109 ?_
                  refine g_iload_n C dX8_number_110 rfl hl 5 rfl ?_
                  refine g_icmp_ge (tgt := 122) C (by omega) (by omega) dX8_number_111 (by decide) (fun c_65 => ?_) (fun c_65 => ?_)
                  · refine g_bipush (a := 10) C dX8_number_122 (by decide) ?_
                    refine g_iload C dX8_number_124 hl 7 rfl ?_
                    refine g_imul C dX8_number_126 ?_
                    refine g_iload C dX8_number_127 hl 1 rfl ?_
                    refine g_iadd C dX8_number_129 ?_
                    refine lv_istore (lv' := [(4, .int (iz ((10 * v9) + 10))), (8, .int (iz F_56)), (7, .int (iz 10)), (5, .int (iz (un / 10))), (0, .ref (ad 192)), (1, .int (iz dg)), (2, .int (iz lo)), (3, .int (iz hi)), (6, .int (iz k))]) C.1.1 C.1.2.1 dX8_number_130 hl (by decide) rfl (fun ls hl => ?_)
                    refine g_aload_n C dX8_number_132 rfl hl 4 rfl ?_
                    refine lv_dup C.1.1 C.1.2.1 dX8_number_133 rfl ?_
                    refine g_get C G (pos := 192) fX8_number_93 (by omega) hm9 rfl dX8_number_134 ?_
                    refine g_iconst (a := 1) C dX8_number_137 rfl ?_
                    refine g_iadd C dX8_number_138 ?_
                    refine g_put C G (pos := 192) (fs' := [.ref (ad 193), .int (iz ly), .int (iz th), .ref (ad 194), .int (iz mk), .ref (ad 195), .int (iz tx), .ref (ad 196), .int (iz rl), .int (iz (p9 + 1)), .int (iz w9), .int (iz s0), .int (iz s1), .ref (ad 197), .int (iz rm), .ref (ad 198), .ref (ad 199)]) fwX8_number_93 (by omega) hm9 (Nat.le_of_ble_eq_true rfl) rfl rfl rfl dX8_number_139 (fun H locs G => ?_)
                    obtain ⟨g_66, hg_67⟩ : ∃ g9, g9 = va_up gv 192 (.inr (8, [.ref (ad 193), .int (iz ly), .int (iz th), .ref (ad 194), .int (iz mk), .ref (ad 195), .int (iz tx), .ref (ad 196), .int (iz rl), .int (iz (p9 + 1)), .int (iz w9), .int (iz s0), .int (iz s1), .ref (ad 197), .int (iz rm), .ref (ad 198), .ref (ad 199)])) := ⟨_, rfl⟩
                    rw [← hg_67] at G
                    have hc_68 : g_66 192 = .inr (8, [.ref (ad 193), .int (iz ly), .int (iz th), .ref (ad 194), .int (iz mk), .ref (ad 195), .int (iz tx), .ref (ad 196), .int (iz rl), .int (iz (p9 + 1)), .int (iz w9), .int (iz s0), .int (iz s1), .ref (ad 197), .int (iz rm), .ref (ad 198), .ref (ad 199)]) := by rw [hg_67]; exact gu_self _ _ _
                    have hc_69 : g_66 195 = aI κ 100 X9 := by rw [hg_67, gu_ne (by decide)]; exact ht9
                    refine lv_iinc (v := iz (k + 1)) (lv' := [(6, .int (iz (k + 1))), (4, .int (iz ((10 * v9) + 10))), (8, .int (iz F_56)), (7, .int (iz 10)), (5, .int (iz (un / 10))), (0, .ref (ad 192)), (1, .int (iz dg)), (2, .int (iz lo)), (3, .int (iz hi))]) C.1.1 C.1.2.1 dX8_number_142 hl (k := 8) rfl (g_inc (by omega)) (by decide) rfl (fun ls hl => ?_)
                    refine g_goto (tgt := 21) C dX8_number_145 (by decide) ?_
                    exact ih_lp_21_n_52 ((10 * v9) + 10) (un / 10) (k + 1) (p9 + 1) w9 g_66 (by omega) (by omega) (by omega) (by omega) (by omega) hw (by rw [hg_67, hgv, gu_up]) (fun _ => by exfalso; omega) (fun _ => by exfalso; omega) _ _ G _ (lv_sub hl [5, 6, 7, 8, 1, 4, 0] rfl)
                  · refine g_aload_n C dX8_number_114 rfl hl 3 rfl ?_
                    refine g_iconst (a := 1) C dX8_number_115 rfl ?_
                    refine g_put C G (pos := 192) (fs' := [.ref (ad 193), .int (iz ly), .int (iz th), .ref (ad 194), .int (iz mk), .ref (ad 195), .int (iz tx), .ref (ad 196), .int (iz rl), .int (iz p9), .int (iz 1), .int (iz s0), .int (iz s1), .ref (ad 197), .int (iz rm), .ref (ad 198), .ref (ad 199)]) fwX8_number_89 (by omega) hm9 (Nat.le_of_ble_eq_true rfl) rfl (gnar_z (by decide)) rfl dX8_number_116 (fun H locs G => ?_)
                    obtain ⟨g_70, hg_71⟩ : ∃ g9, g9 = va_up gv 192 (.inr (8, [.ref (ad 193), .int (iz ly), .int (iz th), .ref (ad 194), .int (iz mk), .ref (ad 195), .int (iz tx), .ref (ad 196), .int (iz rl), .int (iz p9), .int (iz 1), .int (iz s0), .int (iz s1), .ref (ad 197), .int (iz rm), .ref (ad 198), .ref (ad 199)])) := ⟨_, rfl⟩
                    rw [← hg_71] at G
                    have hc_72 : g_70 192 = .inr (8, [.ref (ad 193), .int (iz ly), .int (iz th), .ref (ad 194), .int (iz mk), .ref (ad 195), .int (iz tx), .ref (ad 196), .int (iz rl), .int (iz p9), .int (iz 1), .int (iz s0), .int (iz s1), .ref (ad 197), .int (iz rm), .ref (ad 198), .ref (ad 199)]) := by rw [hg_71]; exact gu_self _ _ _
                    have hc_73 : g_70 195 = aI κ 100 X9 := by rw [hg_71, gu_ne (by decide)]; exact ht9
                    refine g_goto (tgt := 142) C dX8_number_119 (by decide) ?_
                    refine lv_iinc (v := iz (k + 1)) (lv' := [(6, .int (iz (k + 1))), (8, .int (iz F_56)), (7, .int (iz 10)), (5, .int (iz (un / 10))), (0, .ref (ad 192)), (1, .int (iz dg)), (2, .int (iz lo)), (3, .int (iz hi)), (4, .int (iz v9))]) C.1.1 C.1.2.1 dX8_number_142 hl (k := 8) rfl (g_inc (by omega)) (by decide) rfl (fun ls hl => ?_)
                    refine g_goto (tgt := 21) C dX8_number_145 (by decide) ?_
                    exact ih_lp_21_n_52 v9 (un / 10) (k + 1) p9 1 g_70 (by omega) (by omega) (by omega) (by omega) (by omega) (Or.inr rfl) (by rw [hg_71, hgv, gu_up]) (fun q => absurd q (by decide)) (fun _ => by have hR9 := hR0 (by omega); rw [rdN_no (by omega) (fun q => by omega)] at hR9; exact hR9.symm) _ _ G _ (lv_sub hl [4, 5, 6, 7, 8, 3, 0] rfl)
              · refine g_if_eq (tgt := 114) C (by decide) dX8_number_94 (by decide) (fun _ => ?_) (fun c9 => absurd c9 (by decide))
                refine g_aload_n C dX8_number_114 rfl hl 3 rfl ?_
                refine g_iconst (a := 1) C dX8_number_115 rfl ?_
                refine g_put C G (pos := 192) (fs' := [.ref (ad 193), .int (iz ly), .int (iz th), .ref (ad 194), .int (iz mk), .ref (ad 195), .int (iz tx), .ref (ad 196), .int (iz rl), .int (iz p9), .int (iz 1), .int (iz s0), .int (iz s1), .ref (ad 197), .int (iz rm), .ref (ad 198), .ref (ad 199)]) fwX8_number_89 (by omega) hm9 (Nat.le_of_ble_eq_true rfl) rfl (gnar_z (by decide)) rfl dX8_number_116 (fun H locs G => ?_)
                obtain ⟨g_74, hg_75⟩ : ∃ g9, g9 = va_up gv 192 (.inr (8, [.ref (ad 193), .int (iz ly), .int (iz th), .ref (ad 194), .int (iz mk), .ref (ad 195), .int (iz tx), .ref (ad 196), .int (iz rl), .int (iz p9), .int (iz 1), .int (iz s0), .int (iz s1), .ref (ad 197), .int (iz rm), .ref (ad 198), .ref (ad 199)])) := ⟨_, rfl⟩
                rw [← hg_75] at G
                have hc_76 : g_74 192 = .inr (8, [.ref (ad 193), .int (iz ly), .int (iz th), .ref (ad 194), .int (iz mk), .ref (ad 195), .int (iz tx), .ref (ad 196), .int (iz rl), .int (iz p9), .int (iz 1), .int (iz s0), .int (iz s1), .ref (ad 197), .int (iz rm), .ref (ad 198), .ref (ad 199)]) := by rw [hg_75]; exact gu_self _ _ _
                have hc_77 : g_74 195 = aI κ 100 X9 := by rw [hg_75, gu_ne (by decide)]; exact ht9
                refine g_goto (tgt := 142) C dX8_number_119 (by decide) ?_
                refine lv_iinc (v := iz (k + 1)) (lv' := [(6, .int (iz (k + 1))), (8, .int (iz F_56)), (7, .int (iz 10)), (5, .int (iz (un / 10))), (0, .ref (ad 192)), (1, .int (iz dg)), (2, .int (iz lo)), (3, .int (iz hi)), (4, .int (iz v9))]) C.1.1 C.1.2.1 dX8_number_142 hl (k := 8) rfl (g_inc (by omega)) (by decide) rfl (fun ls hl => ?_)
                refine g_goto (tgt := 21) C dX8_number_145 (by decide) ?_
                exact ih_lp_21_n_52 v9 (un / 10) (k + 1) p9 1 g_74 (by omega) (by omega) (by omega) (by omega) (by omega) (Or.inr rfl) (by rw [hg_75, hgv, gu_up]) (fun q => absurd q (by decide)) (fun _ => by have hR9 := hR0 (by omega); rw [rdN_no (by omega) (fun q => by omega)] at hR9; exact hR9.symm) _ _ G _ (lv_sub hl [4, 5, 6, 7, 8, 3, 0] rfl)
            · refine g_aload_n C dX8_number_52 rfl hl 1 rfl ?_
              refine g_get C G (pos := 192) fX8_number_16 (by omega) hm9 rfl dX8_number_53 ?_
              refine g_aload_n C dX8_number_56 rfl hl 1 rfl ?_
              refine g_get C G (pos := 192) fX8_number_93 (by omega) hm9 rfl dX8_number_57 ?_
              refine g_iaload C G (pos := 195) (by omega) ht9 (by omega) (by omega) (by omega) dX8_number_60 ?_
              have hx9 := hTx p9 (by omega) (by omega)
              refine g_bipush (a := 48) C dX8_number_61 (by decide) ?_
              refine g_isub C dX8_number_63 ?_
              refine g_goto (tgt := 69) C dX8_number_64 (by decide) ?_
              refine lv_istore (lv' := [(7, .int (iz ((X9 p9) - 48))), (5, .int (iz (un / 10))), (0, .ref (ad 192)), (1, .int (iz dg)), (2, .int (iz lo)), (3, .int (iz hi)), (4, .int (iz v9)), (6, .int (iz k))]) C.1.1 C.1.2.1 dX8_number_69 hl (by decide) rfl (fun ls hl => ?_)
              refine g_bipush (a := 10) C dX8_number_71 (by decide) ?_
              refine g_iload C dX8_number_73 hl 6 rfl ?_
              refine g_imul C dX8_number_75 ?_
              refine g_iload C dX8_number_76 hl 0 rfl ?_
              refine g_iadd C dX8_number_78 ?_
              refine g_iload C dX8_number_79 hl 1 rfl ?_
              refine g_imul C dX8_number_81 ?_
              have hfm : ((10 * v9) + ((X9 p9) - 48)) * (un / 10) = v9 * un + ((X9 p9) - 48) * (un / 10) := by rcases hun with h | h | h | h <;> rw [h.2] <;> omega
              have hfb : -500000 ≤ ((10 * v9) + ((X9 p9) - 48)) * (un / 10) ∧ ((10 * v9) + ((X9 p9) - 48)) * (un / 10) ≤ 5000000 := by rcases hun with h | h | h | h <;> rw [h.2] <;> omega
              obtain ⟨F_78, eF_79⟩ : ∃ F9, F9 = ((10 * v9) + ((X9 p9) - 48)) * (un / 10) := ⟨_, rfl⟩
              rw [← eF_79] at hfm hfb
              rw [← eF_79]
              refine lv_istore (lv' := [(8, .int (iz F_78)), (7, .int (iz ((X9 p9) - 48))), (5, .int (iz (un / 10))), (0, .ref (ad 192)), (1, .int (iz dg)), (2, .int (iz lo)), (3, .int (iz hi)), (4, .int (iz v9)), (6, .int (iz k))]) C.1.1 C.1.2.1 dX8_number_82 hl (by decide) rfl (fun ls hl => ?_)
              refine g_iload C dX8_number_84 hl 1 rfl ?_
              refine g_i2l C (by omega) dX8_number_86 ?_
              refine g_lconst (a := 0) C dX8_number_87 (by decide) ?_
              refine g_ldc2 (a := 9) C (by decide +kernel) dX8_number_88 ?_
              refine g_ci C G (g_runS (As := [.long (jz ((X9 p9) - 48)), .long (jz 0), .long (jz 9)]) (rest := []) C G (c_X8_in l κ B n ad gv ((X9 p9) - 48) 0 9 (by omega) (by omega) (by omega)) (va_cwS 3 C.1.2.2.2.2 gX8_number_X8_in rfl rfl rfl (by decide +kernel) ⟨Nat.le_of_ble_eq_true rfl, Nat.le_of_ble_eq_true rfl⟩) rfl hl rfl (Nat.le_of_ble_eq_true rfl) dX8_number_91 ⟨Nat.le_of_ble_eq_true rfl, Nat.le_of_ble_eq_true rfl⟩) (fun z_81 g9 H locs hw G => ?_)
              obtain ⟨hg9, hw⟩ := hw
              replace hg9 := hg9.symm
              subst hg9
              rcases hw with ⟨b_80, rfl⟩ | ⟨b_80, rfl⟩
              · refine g_if_eq (tgt := 114) C (by decide) dX8_number_94 (by decide) (fun c9 => absurd c9 (by decide)) (fun _ => ?_)
                refine g_iload C dX8_number_97 hl 0 rfl ?_
                refine g_iload_n C dX8_number_99 rfl hl 6 rfl ?_
                refine g_icmp_gt (tgt := 114) C (by omega) (by omega) dX8_number_100 (by decide) (fun c_82 => ?_) (fun c_82 => ?_)
                · refine g_aload_n C dX8_number_114 rfl hl 3 rfl ?_
                  refine g_iconst (a := 1) C dX8_number_115 rfl ?_
                  refine g_put C G (pos := 192) (fs' := [.ref (ad 193), .int (iz ly), .int (iz th), .ref (ad 194), .int (iz mk), .ref (ad 195), .int (iz tx), .ref (ad 196), .int (iz rl), .int (iz p9), .int (iz 1), .int (iz s0), .int (iz s1), .ref (ad 197), .int (iz rm), .ref (ad 198), .ref (ad 199)]) fwX8_number_89 (by omega) hm9 (Nat.le_of_ble_eq_true rfl) rfl (gnar_z (by decide)) rfl dX8_number_116 (fun H locs G => ?_)
                  obtain ⟨g_83, hg_84⟩ : ∃ g9, g9 = va_up gv 192 (.inr (8, [.ref (ad 193), .int (iz ly), .int (iz th), .ref (ad 194), .int (iz mk), .ref (ad 195), .int (iz tx), .ref (ad 196), .int (iz rl), .int (iz p9), .int (iz 1), .int (iz s0), .int (iz s1), .ref (ad 197), .int (iz rm), .ref (ad 198), .ref (ad 199)])) := ⟨_, rfl⟩
                  rw [← hg_84] at G
                  have hc_85 : g_83 192 = .inr (8, [.ref (ad 193), .int (iz ly), .int (iz th), .ref (ad 194), .int (iz mk), .ref (ad 195), .int (iz tx), .ref (ad 196), .int (iz rl), .int (iz p9), .int (iz 1), .int (iz s0), .int (iz s1), .ref (ad 197), .int (iz rm), .ref (ad 198), .ref (ad 199)]) := by rw [hg_84]; exact gu_self _ _ _
                  have hc_86 : g_83 195 = aI κ 100 X9 := by rw [hg_84, gu_ne (by decide)]; exact ht9
                  refine g_goto (tgt := 142) C dX8_number_119 (by decide) ?_
                  refine lv_iinc (v := iz (k + 1)) (lv' := [(6, .int (iz (k + 1))), (8, .int (iz F_78)), (7, .int (iz ((X9 p9) - 48))), (5, .int (iz (un / 10))), (0, .ref (ad 192)), (1, .int (iz dg)), (2, .int (iz lo)), (3, .int (iz hi)), (4, .int (iz v9))]) C.1.1 C.1.2.1 dX8_number_142 hl (k := 8) rfl (g_inc (by omega)) (by decide) rfl (fun ls hl => ?_)
                  refine g_goto (tgt := 21) C dX8_number_145 (by decide) ?_
                  exact ih_lp_21_n_52 v9 (un / 10) (k + 1) p9 1 g_83 (by omega) (by omega) (by omega) (by omega) (by omega) (Or.inr rfl) (by rw [hg_84, hgv, gu_up]) (fun q => absurd q (by decide)) (fun _ => by have hR9 := hR0 (by omega); rw [rdN_no (by omega) (fun q => by have q1 := q.2.1; have q2 := q.2.2.1; have q3 := q.2.2.2.1; have q4 := q.2.2.2.2; rw [← hfm] at q3 q4; omega)] at hR9; exact hR9.symm) _ _ G _ (lv_sub hl [4, 5, 6, 7, 8, 3, 0] rfl)
                · refine g_iload C dX8_number_103 hl 0 rfl ?_
                  refine g_iload C dX8_number_105 hl 2 rfl ?_
                  refine g_iadd C dX8_number_107 ?_
                  refine g_iconst (a := 1) C dX8_number_108 rfl ?_
                  refine g_isub C dX8_number_109 ?_
                  refine g_iload_n C dX8_number_110 rfl hl 5 rfl ?_
                  refine g_icmp_ge (tgt := 122) C (by omega) (by omega) dX8_number_111 (by decide) (fun c_87 => ?_) (fun c_87 => ?_)
                  · refine g_bipush (a := 10) C dX8_number_122 (by decide) ?_
                    refine g_iload C dX8_number_124 hl 7 rfl ?_
                    refine g_imul C dX8_number_126 ?_
                    refine g_iload C dX8_number_127 hl 1 rfl ?_
                    refine g_iadd C dX8_number_129 ?_
                    refine lv_istore (lv' := [(4, .int (iz ((10 * v9) + ((X9 p9) - 48)))), (8, .int (iz F_78)), (7, .int (iz ((X9 p9) - 48))), (5, .int (iz (un / 10))), (0, .ref (ad 192)), (1, .int (iz dg)), (2, .int (iz lo)), (3, .int (iz hi)), (6, .int (iz k))]) C.1.1 C.1.2.1 dX8_number_130 hl (by decide) rfl (fun ls hl => ?_)
                    refine g_aload_n C dX8_number_132 rfl hl 4 rfl ?_
                    refine lv_dup C.1.1 C.1.2.1 dX8_number_133 rfl ?_
                    refine g_get C G (pos := 192) fX8_number_93 (by omega) hm9 rfl dX8_number_134 ?_
                    refine g_iconst (a := 1) C dX8_number_137 rfl ?_
                    refine g_iadd C dX8_number_138 ?_
                    refine g_put C G (pos := 192) (fs' := [.ref (ad 193), .int (iz ly), .int (iz th), .ref (ad 194), .int (iz mk), .ref (ad 195), .int (iz tx), .ref (ad 196), .int (iz rl), .int (iz (p9 + 1)), .int (iz w9), .int (iz s0), .int (iz s1), .ref (ad 197), .int (iz rm), .ref (ad 198), .ref (ad 199)]) fwX8_number_93 (by omega) hm9 (Nat.le_of_ble_eq_true rfl) rfl rfl rfl dX8_number_139 (fun H locs G => ?_)
                    obtain ⟨g_88, hg_89⟩ : ∃ g9, g9 = va_up gv 192 (.inr (8, [.ref (ad 193), .int (iz ly), .int (iz th), .ref (ad 194), .int (iz mk), .ref (ad 195), .int (iz tx), .ref (ad 196), .int (iz rl), .int (iz (p9 + 1)), .int (iz w9), .int (iz s0), .int (iz s1), .ref (ad 197), .int (iz rm), .ref (ad 198), .ref (ad 199)])) := ⟨_, rfl⟩
                    rw [← hg_89] at G
                    have hc_90 : g_88 192 = .inr (8, [.ref (ad 193), .int (iz ly), .int (iz th), .ref (ad 194), .int (iz mk), .ref (ad 195), .int (iz tx), .ref (ad 196), .int (iz rl), .int (iz (p9 + 1)), .int (iz w9), .int (iz s0), .int (iz s1), .ref (ad 197), .int (iz rm), .ref (ad 198), .ref (ad 199)]) := by rw [hg_89]; exact gu_self _ _ _
                    have hc_91 : g_88 195 = aI κ 100 X9 := by rw [hg_89, gu_ne (by decide)]; exact ht9
                    refine lv_iinc (v := iz (k + 1)) (lv' := [(6, .int (iz (k + 1))), (4, .int (iz ((10 * v9) + ((X9 p9) - 48)))), (8, .int (iz F_78)), (7, .int (iz ((X9 p9) - 48))), (5, .int (iz (un / 10))), (0, .ref (ad 192)), (1, .int (iz dg)), (2, .int (iz lo)), (3, .int (iz hi))]) C.1.1 C.1.2.1 dX8_number_142 hl (k := 8) rfl (g_inc (by omega)) (by decide) rfl (fun ls hl => ?_)
                    refine g_goto (tgt := 21) C dX8_number_145 (by decide) ?_
                    exact ih_lp_21_n_52 ((10 * v9) + ((X9 p9) - 48)) (un / 10) (k + 1) (p9 + 1) w9 g_88 (by omega) (by omega) (by omega) (by omega) (by omega) hw (by rw [hg_89, hgv, gu_up]) (fun q9 => by have hR9 := hR0 q9; rw [rdN_yes (by omega) ⟨by omega, by omega, by omega, by rw [← hfm]; omega, by rw [← hfm]; omega⟩, ← hfm, show dg - k - 1 = dg - (k + 1) by omega, eF_79] at hR9; exact hR9) (fun q9 => absurd q9 (by omega)) _ _ G _ (lv_sub hl [5, 6, 7, 8, 1, 4, 0] rfl)
                  · refine g_aload_n C dX8_number_114 rfl hl 3 rfl ?_
                    refine g_iconst (a := 1) C dX8_number_115 rfl ?_
                    refine g_put C G (pos := 192) (fs' := [.ref (ad 193), .int (iz ly), .int (iz th), .ref (ad 194), .int (iz mk), .ref (ad 195), .int (iz tx), .ref (ad 196), .int (iz rl), .int (iz p9), .int (iz 1), .int (iz s0), .int (iz s1), .ref (ad 197), .int (iz rm), .ref (ad 198), .ref (ad 199)]) fwX8_number_89 (by omega) hm9 (Nat.le_of_ble_eq_true rfl) rfl (gnar_z (by decide)) rfl dX8_number_116 (fun H locs G => ?_)
                    obtain ⟨g_92, hg_93⟩ : ∃ g9, g9 = va_up gv 192 (.inr (8, [.ref (ad 193), .int (iz ly), .int (iz th), .ref (ad 194), .int (iz mk), .ref (ad 195), .int (iz tx), .ref (ad 196), .int (iz rl), .int (iz p9), .int (iz 1), .int (iz s0), .int (iz s1), .ref (ad 197), .int (iz rm), .ref (ad 198), .ref (ad 199)])) := ⟨_, rfl⟩
                    rw [← hg_93] at G
                    have hc_94 : g_92 192 = .inr (8, [.ref (ad 193), .int (iz ly), .int (iz th), .ref (ad 194), .int (iz mk), .ref (ad 195), .int (iz tx), .ref (ad 196), .int (iz rl), .int (iz p9), .int (iz 1), .int (iz s0), .int (iz s1), .ref (ad 197), .int (iz rm), .ref (ad 198), .ref (ad 199)]) := by rw [hg_93]; exact gu_self _ _ _
                    have hc_95 : g_92 195 = aI κ 100 X9 := by rw [hg_93, gu_ne (by decide)]; exact ht9
                    refine g_goto (tgt := 142) C dX8_number_119 (by decide) ?_
                    refine lv_iinc (v := iz (k + 1)) (lv' := [(6, .int (iz (k + 1))), (8, .int (iz F_78)), (7, .int (iz ((X9 p9) - 48))), (5, .int (iz (un / 10))), (0, .ref (ad 192)), (1, .int (iz dg)), (2, .int (iz lo)), (3, .int (iz hi)), (4, .int (iz v9))]) C.1.1 C.1.2.1 dX8_number_142 hl (k := 8) rfl (g_inc (by omega)) (by decide) rfl (fun ls hl => ?_)
                    refine g_goto (tgt := 21) C dX8_number_145 (by decide) ?_
                    exact ih_lp_21_n_52 v9 (un / 10) (k + 1) p9 1 g_92 (by omega) (by omega) (by omega) (by omega) (by omega) (Or.inr rfl) (by rw [hg_93, hgv, gu_up]) (fun q => absurd q (by decide)) (fun _ => by have hR9 := hR0 (by omega); rw [rdN_no (by omega) (fun q => by have q1 := q.2.1; have q2 := q.2.2.1; have q3 := q.2.2.2.1; have q4 := q.2.2.2.2; rw [← hfm] at q3 q4; omega)] at hR9; exact hR9.symm) _ _ G _ (lv_sub hl [4, 5, 6, 7, 8, 3, 0] rfl)
              · refine g_if_eq (tgt := 114) C (by decide) dX8_number_94 (by decide) (fun _ => ?_) (fun c9 => absurd c9 (by decide))
                refine g_aload_n C dX8_number_114 rfl hl 3 rfl ?_
                refine g_iconst (a := 1) C dX8_number_115 rfl ?_
                refine g_put C G (pos := 192) (fs' := [.ref (ad 193), .int (iz ly), .int (iz th), .ref (ad 194), .int (iz mk), .ref (ad 195), .int (iz tx), .ref (ad 196), .int (iz rl), .int (iz p9), .int (iz 1), .int (iz s0), .int (iz s1), .ref (ad 197), .int (iz rm), .ref (ad 198), .ref (ad 199)]) fwX8_number_89 (by omega) hm9 (Nat.le_of_ble_eq_true rfl) rfl (gnar_z (by decide)) rfl dX8_number_116 (fun H locs G => ?_)
                obtain ⟨g_96, hg_97⟩ : ∃ g9, g9 = va_up gv 192 (.inr (8, [.ref (ad 193), .int (iz ly), .int (iz th), .ref (ad 194), .int (iz mk), .ref (ad 195), .int (iz tx), .ref (ad 196), .int (iz rl), .int (iz p9), .int (iz 1), .int (iz s0), .int (iz s1), .ref (ad 197), .int (iz rm), .ref (ad 198), .ref (ad 199)])) := ⟨_, rfl⟩
                rw [← hg_97] at G
                have hc_98 : g_96 192 = .inr (8, [.ref (ad 193), .int (iz ly), .int (iz th), .ref (ad 194), .int (iz mk), .ref (ad 195), .int (iz tx), .ref (ad 196), .int (iz rl), .int (iz p9), .int (iz 1), .int (iz s0), .int (iz s1), .ref (ad 197), .int (iz rm), .ref (ad 198), .ref (ad 199)]) := by rw [hg_97]; exact gu_self _ _ _
                have hc_99 : g_96 195 = aI κ 100 X9 := by rw [hg_97, gu_ne (by decide)]; exact ht9
                refine g_goto (tgt := 142) C dX8_number_119 (by decide) ?_
                refine lv_iinc (v := iz (k + 1)) (lv' := [(6, .int (iz (k + 1))), (8, .int (iz F_78)), (7, .int (iz ((X9 p9) - 48))), (5, .int (iz (un / 10))), (0, .ref (ad 192)), (1, .int (iz dg)), (2, .int (iz lo)), (3, .int (iz hi)), (4, .int (iz v9))]) C.1.1 C.1.2.1 dX8_number_142 hl (k := 8) rfl (g_inc (by omega)) (by decide) rfl (fun ls hl => ?_)
                refine g_goto (tgt := 21) C dX8_number_145 (by decide) ?_
                exact ih_lp_21_n_52 v9 (un / 10) (k + 1) p9 1 g_96 (by omega) (by omega) (by omega) (by omega) (by omega) (Or.inr rfl) (by rw [hg_97, hgv, gu_up]) (fun q => absurd q (by decide)) (fun _ => by have hR9 := hR0 (by omega); rw [rdN_no (by omega) (fun q => by have q1 := q.2.1; have q2 := q.2.2.1; have q3 := q.2.2.2.1; have q4 := q.2.2.2.2; rw [← hfm] at q3 q4; omega)] at hR9; exact hR9.symm) _ _ G _ (lv_sub hl [4, 5, 6, 7, 8, 3, 0] rfl)
    exact lp_21_n_52 _ 0 100 0 a0 wr g (Nat.lt_succ_self _) (by omega) (by omega) (by omega) (by omega) (by omega) (by funext q; by_cases hq : q = 192 <;> simp [va_up, hq, hM]) (fun _ => by rw [Int.zero_mul]; exact nu_start hdg (by omega)) (fun q => absurd q (by omega)) _ _ G _ (lv_sub hl [3, 4, 5, 6, 2, 1, 0] rfl)
set_option maxHeartbeats 4000000 in
set_option maxRecDepth 100000 in
theorem c_X8_number1 (l : Launch) (κ : gKap) (B n : Nat) (ad : Nat → Nat) (g : Nat → va_E) (ly : Int) (th : Int) (mk : Int) (tx : Int) (rl : Int) (a0 : Int) (wr : Int) (s0 : Int) (s1 : Int) (rm : Int) (dg : Int) (lo : Int) (hi : Int) (hn8 : 200 ≤ n) (hM : g 192 = oM ad ly th mk tx rl a0 wr s0 s1 rm) (hwr : wr = 1) (hdg : dg = 2 ∨ dg = 3) : Met l yX8_number wsX8_number ({ frames := 0, cells := 0, slots := 0, locals := 0 }) (gPre κ B n ad g [.ref (ad 192), .int (iz dg), .int (iz lo), .int (iz hi)]) (gQi κ B n ad (fun z g' => g' = g ∧ (z = 0))) 0 0 (gFree B) := by
  refine g_met RX8 (cc := cX8_number) (maxL := 9) (ret := (some .int)) (by decide) rfl rfl (Nat.le_of_ble_eq_true rfl) ?_
  intro p e s m args below meth c C hr hlk hnm G ls hl
  have hl : lv_has ls 9 [(0, .ref (ad 192)), (1, .int (iz dg)), (2, .int (iz lo)), (3, .int (iz hi))] := hl
  refine g_iconst (a := 0) C dX8_number_0 rfl ?_
  refine lv_istore (lv' := [(4, .int (iz 0)), (0, .ref (ad 192)), (1, .int (iz dg)), (2, .int (iz lo)), (3, .int (iz hi))]) C.1.1 C.1.2.1 dX8_number_1 hl (by decide) rfl (fun ls hl => ?_)
  refine g_iload_n C dX8_number_3 rfl hl 2 rfl ?_
  refine g_iconst (a := 2) C dX8_number_4 rfl ?_
  refine g_icmp_ne (tgt := 13) C (by omega) (by decide) dX8_number_5 (by decide) (fun c_1 => ?_) (fun c_1 => ?_)
  · refine g_sipush (a := 1000) C dX8_number_13 (by decide) ?_
    refine lv_istore (lv' := [(5, .int (iz 1000)), (4, .int (iz 0)), (0, .ref (ad 192)), (1, .int (iz dg)), (2, .int (iz lo)), (3, .int (iz hi))]) C.1.1 C.1.2.1 dX8_number_16 hl (by decide) rfl (fun ls hl => ?_)
    refine g_iconst (a := 0) C dX8_number_18 rfl ?_
    refine lv_istore (lv' := [(6, .int (iz 0)), (5, .int (iz 1000)), (4, .int (iz 0)), (0, .ref (ad 192)), (1, .int (iz dg)), (2, .int (iz lo)), (3, .int (iz hi))]) C.1.1 C.1.2.1 dX8_number_19 hl (by decide) rfl (fun ls hl => ?_)
    refine g_iload C dX8_number_21 hl 0 rfl ?_
    refine g_iload_n C dX8_number_23 rfl hl 4 rfl ?_
    refine g_icmp_ge (tgt := 148) C (by decide) (by omega) dX8_number_24 (by decide) (fun c_2 => absurd c_2 (by omega)) (fun c_2 => ?_)
    refine g_aload_n C dX8_number_27 rfl hl 3 rfl ?_
    refine g_get C G (pos := 192) fX8_number_89 (by omega) hM rfl dX8_number_28 ?_
    refine g_if_ne (tgt := 148) C (by omega) dX8_number_31 (by decide) (fun c_3 => ?_) (fun c_3 => absurd c_3 (by omega))
    refine g_iload C dX8_number_148 hl 2 rfl ?_
    refine g_iret C G hr hlk (Nat.le_of_ble_eq_true rfl) (Nat.le_of_ble_eq_true rfl) dX8_number_150 ?_
    exact ⟨rfl, rfl⟩
  · refine g_bipush (a := 100) C dX8_number_8 (by decide) ?_
    refine g_goto (tgt := 16) C dX8_number_10 (by decide) ?_
    refine lv_istore (lv' := [(5, .int (iz 100)), (4, .int (iz 0)), (0, .ref (ad 192)), (1, .int (iz dg)), (2, .int (iz lo)), (3, .int (iz hi))]) C.1.1 C.1.2.1 dX8_number_16 hl (by decide) rfl (fun ls hl => ?_)
    refine g_iconst (a := 0) C dX8_number_18 rfl ?_
    refine lv_istore (lv' := [(6, .int (iz 0)), (5, .int (iz 100)), (4, .int (iz 0)), (0, .ref (ad 192)), (1, .int (iz dg)), (2, .int (iz lo)), (3, .int (iz hi))]) C.1.1 C.1.2.1 dX8_number_19 hl (by decide) rfl (fun ls hl => ?_)
    refine g_iload C dX8_number_21 hl 0 rfl ?_
    refine g_iload_n C dX8_number_23 rfl hl 4 rfl ?_
    refine g_icmp_ge (tgt := 148) C (by decide) (by omega) dX8_number_24 (by decide) (fun c_4 => absurd c_4 (by omega)) (fun c_4 => ?_)
    refine g_aload_n C dX8_number_27 rfl hl 3 rfl ?_
    refine g_get C G (pos := 192) fX8_number_89 (by omega) hM rfl dX8_number_28 ?_
    refine g_if_ne (tgt := 148) C (by omega) dX8_number_31 (by decide) (fun c_5 => ?_) (fun c_5 => absurd c_5 (by omega))
    refine g_iload C dX8_number_148 hl 2 rfl ?_
    refine g_iret C G hr hlk (Nat.le_of_ble_eq_true rfl) (Nat.le_of_ble_eq_true rfl) dX8_number_150 ?_
    exact ⟨rfl, rfl⟩
