/-! ROSETTEPLATEMODEL (X8): questions -/
theorem tgA_one {v : Int → Int} {k : Int} (hk : k = 0) : tgA v (k + 1).toNat = pd (v 0) (v (4 * k + 1)) := by
  subst hk
  rw [tgA_step v (by omega)]
  have h1 : tgA v (0 : Int).toNat = 1 := rfl
  have h2 : ∀ b : Int, gd 1 b = 1 := fun b => by unfold gd; rw [Int.one_gcd]; rfl
  rw [h1, h2, Int.ediv_one, Int.one_mul]
theorem fwX8_blank_31 : gFldW wsX8_blank RX8 31 8 2 .int false := ⟨RX8, TX8, 17, tyX8, rfl, by decide, by decide +kernel, by decide +kernel, tyX8_ok, nmX8, rfl, by decide +kernel, by decide +kernel⟩
theorem fX8_blank_35 : gFld wsX8_blank RX8 35 8 1 := ⟨RX8, TX8, 17, rfl, by decide, by decide +kernel, by decide +kernel⟩
set_option maxHeartbeats 4000000 in
set_option maxRecDepth 100000 in
theorem c_X8_blank (l : Launch) (κ : gKap) (B n : Nat) (ad : Nat → Nat) (g : Nat → va_E) (ly : Int) (th : Int) (mk : Int) (tx : Int) (rl : Int) (a0 : Int) (wr : Int) (s0 : Int) (s1 : Int) (rm : Int) (f : Int → Int) (M9 : Int → Int) (X9 : Int → Int) (q9 : Int → Int) (pa : Int → Int) (be : Int → Int) (sv : Int → Int) (hn8 : 200 ≤ n) (hM : g 192 = oM ad ly th mk tx rl a0 wr s0 s1 rm) (hN : g 193 = aI κ 42 f) (hK : g 194 = aI κ 28896 M9) (hT : g 195 = aI κ 100 X9) (hRd : g 196 = aI κ 42 q9) (hPa : g 197 = aI κ 602 pa) (hBe : g 198 = aI κ 43 be) (hSv : g 199 = aI κ 86 sv) (hok : okPl ly f) (hmk : 0 ≤ mk ∧ mk ≤ 800000000) (hMr : ∀ i, 0 ≤ i → i < 28896 → 0 ≤ M9 i ∧ M9 i ≤ mk) (hinq : inV q9) : Met l yX8_blank wsX8_blank ({ frames := 5, cells := 0, slots := 0, locals := 119 }) (gPre κ B n ad g [.ref (ad 192)]) (gQi κ B n ad (fun z g' => ∃ t9, (t9 = 0 ∧ ((ly = 0 ∧ z = -9) ∨ (0 < ly ∧ z = (gpf (fun q9 => 0 < (cntR (fun x y => ∃ l9, 0 ≤ l9 ∧ l9 < ly ∧ PTl f l9 x y) q9 : Int)) 301).1))) ∧ jkM κ ad g' ly t9 tx s0 s1 rm (mk + 1000) f X9 pa sv ∧ frM g g')) 0 0 (gFree B) := by
  refine g_met RX8 (cc := cX8_blank) (maxL := 5) (ret := (some .int)) (by decide) rfl rfl (Nat.le_of_ble_eq_true rfl) ?_
  intro p e s m args below meth c C hr hlk hnm G ls hl
  have hl : lv_has ls 5 [(0, .ref (ad 192))] := hl
  obtain ⟨hn6, hv0, hv25, hlay, hsee⟩ := id hok
  refine g_aload_n C dX8_blank_0 rfl hl 0 rfl ?_
  refine g_iconst (a := 0) C dX8_blank_1 rfl ?_
  refine g_put C G (pos := 192) (fs' := [.ref (ad 193), .int (iz ly), .int (iz 0), .ref (ad 194), .int (iz mk), .ref (ad 195), .int (iz tx), .ref (ad 196), .int (iz rl), .int (iz a0), .int (iz wr), .int (iz s0), .int (iz s1), .ref (ad 197), .int (iz rm), .ref (ad 198), .ref (ad 199)]) fwX8_blank_31 (by omega) hM (Nat.le_of_ble_eq_true rfl) rfl rfl rfl dX8_blank_2 (fun H locs G => ?_)
  obtain ⟨g_1, hg_2⟩ : ∃ g9, g9 = va_up g 192 (.inr (8, [.ref (ad 193), .int (iz ly), .int (iz 0), .ref (ad 194), .int (iz mk), .ref (ad 195), .int (iz tx), .ref (ad 196), .int (iz rl), .int (iz a0), .int (iz wr), .int (iz s0), .int (iz s1), .ref (ad 197), .int (iz rm), .ref (ad 198), .ref (ad 199)])) := ⟨_, rfl⟩
  rw [← hg_2] at G
  have hc_3 : g_1 192 = .inr (8, [.ref (ad 193), .int (iz ly), .int (iz 0), .ref (ad 194), .int (iz mk), .ref (ad 195), .int (iz tx), .ref (ad 196), .int (iz rl), .int (iz a0), .int (iz wr), .int (iz s0), .int (iz s1), .ref (ad 197), .int (iz rm), .ref (ad 198), .ref (ad 199)]) := by rw [hg_2]; exact gu_self _ _ _
  have hc_4 : g_1 193 = aI κ 42 f := by rw [hg_2, gu_ne (by decide)]; exact hN
  have hc_5 : g_1 194 = aI κ 28896 M9 := by rw [hg_2, gu_ne (by decide)]; exact hK
  have hc_6 : g_1 195 = aI κ 100 X9 := by rw [hg_2, gu_ne (by decide)]; exact hT
  have hc_7 : g_1 196 = aI κ 42 q9 := by rw [hg_2, gu_ne (by decide)]; exact hRd
  have hc_8 : g_1 197 = aI κ 602 pa := by rw [hg_2, gu_ne (by decide)]; exact hPa
  have hc_9 : g_1 198 = aI κ 43 be := by rw [hg_2, gu_ne (by decide)]; exact hBe
  have hc_10 : g_1 199 = aI κ 86 sv := by rw [hg_2, gu_ne (by decide)]; exact hSv
  refine g_aload_n C dX8_blank_5 rfl hl 0 rfl ?_
  refine g_get C G (pos := 192) fX8_blank_35 (by omega) hc_3 rfl dX8_blank_6 ?_
  refine g_if_ne (tgt := 15) C (by omega) dX8_blank_9 (by decide) (fun c_11 => ?_) (fun c_11 => ?_)
  · refine g_aload_n C dX8_blank_15 rfl hl 0 rfl ?_
    refine g_ci C G (g_runV (As := []) (rest := []) (pos := 192) C G (c_X8_markAll l κ B n ad g_1 ly 0 mk tx rl a0 wr s0 s1 rm f M9 hn8 hc_3 hc_4 hc_5 hok (by omega) hMr) (cwV 0 C.1.2.2.2.2 gX8_blank_X8_markAll rfl rfl rfl (by decide +kernel) ⟨Nat.le_of_ble_eq_true rfl, Nat.le_of_ble_eq_true rfl⟩) (by omega) hc_3 (T := TX8) (N := 17) rfl rfl hl rfl (Nat.le_of_ble_eq_true rfl) dX8_blank_16 ⟨Nat.le_of_ble_eq_true rfl, Nat.le_of_ble_eq_true rfl⟩) (fun z_14 g_17 H locs hw9 G => ?_)
    obtain ⟨V_12, hgs_16, hS_13, h_15⟩ := hw9
    have hc_18 : g_17 192 = .inr (8, [.ref (ad 193), .int (iz ly), .int (iz 0), .ref (ad 194), .int (iz (mk + 1)), .ref (ad 195), .int (iz tx), .ref (ad 196), .int (iz rl), .int (iz a0), .int (iz wr), .int (iz s0), .int (iz s1), .ref (ad 197), .int (iz rm), .ref (ad 198), .ref (ad 199)]) := by rw [hgs_16, gu_ne (by decide)]; exact gu_self _ _ _
    have hc_19 : g_17 193 = aI κ 42 f := by rw [hgs_16, gu_ne (by decide), gu_ne (by decide)]; exact hc_4
    have hc_20 : g_17 194 = aI κ 28896 V_12 := by rw [hgs_16]; exact gu_self _ _ _
    have hc_21 : g_17 195 = aI κ 100 X9 := by rw [hgs_16, gu_ne (by decide), gu_ne (by decide)]; exact hc_6
    have hc_22 : g_17 196 = aI κ 42 q9 := by rw [hgs_16, gu_ne (by decide), gu_ne (by decide)]; exact hc_7
    have hc_23 : g_17 197 = aI κ 602 pa := by rw [hgs_16, gu_ne (by decide), gu_ne (by decide)]; exact hc_8
    have hc_24 : g_17 198 = aI κ 43 be := by rw [hgs_16, gu_ne (by decide), gu_ne (by decide)]; exact hc_9
    have hc_25 : g_17 199 = aI κ 86 sv := by rw [hgs_16, gu_ne (by decide), gu_ne (by decide)]; exact hc_10
    refine lv_pop C.1.1 C.1.2.1 dX8_blank_19 rfl ?_
    refine g_iconst (a := 0) C dX8_blank_20 rfl ?_
    refine lv_istore_n (lv' := [(1, .int (iz 0)), (0, .ref (ad 192))]) C.1.1 C.1.2.1 dX8_blank_21 rfl hl (by decide) rfl (fun ls hl => ?_)
    refine g_bipush (a := (-9)) C dX8_blank_22 (by decide) ?_
    refine lv_istore_n (lv' := [(2, .int (iz (-9))), (1, .int (iz 0)), (0, .ref (ad 192))]) C.1.1 C.1.2.1 dX8_blank_24 rfl hl (by decide) rfl (fun ls hl => ?_)
    refine g_iconst (a := 0) C dX8_blank_25 rfl ?_
    refine lv_istore_n (lv' := [(3, .int (iz 0)), (2, .int (iz (-9))), (1, .int (iz 0)), (0, .ref (ad 192))]) C.1.1 C.1.2.1 dX8_blank_26 rfl hl (by decide) rfl (fun ls hl => ?_)
    have lp_27_n_27 : ∀ (k_26 : Nat) (wi : Int) (la : Int) (r : Int), (301 - r).toNat < k_26 → (0 ≤ r ∧ r ≤ 301) → (la = -9 ∨ (0 ≤ la ∧ la < r)) → (0 ≤ wi ∧ wi ≤ 300) → (gpf (fun q9 => 0 < (cntR (fun x y => ∃ l9, 0 ≤ l9 ∧ l9 < ly ∧ PTl f l9 x y) q9 : Int)) r.toNat = (wi, la)) → ∀ (H : Heap) (locs : List Loc), gG κ B n ad s g_17 H locs → ∀ (ls : Array Slot), lv_has ls 5 [(0, .ref (ad 192)), (1, .int (iz wi)), (2, .int (iz la)), (3, .int (iz r))] → W p l e ({ frames := 5, cells := 0, slots := 0, locals := 119 }) s m args below meth c H locs 0 0 (MQ below (gQi κ B n ad (fun z g' => ∃ t9, (t9 = 0 ∧ ((ly = 0 ∧ z = -9) ∨ (0 < ly ∧ z = (gpf (fun q9 => 0 < (cntR (fun x y => ∃ l9, 0 ≤ l9 ∧ l9 < ly ∧ PTl f l9 x y) q9 : Int)) 301).1))) ∧ jkM κ ad g' ly t9 tx s0 s1 rm (mk + 1000) f X9 pa sv ∧ frM g g')) args s 0 0 (gFree B)) (F0 m 27 ls []) := by
      intro k_26
      induction k_26 with
      | zero => intro wi la r hm; exact absurd hm (Nat.not_lt_zero _)
      | succ k_26 ih_lp_27_n_27 =>
        intro wi la r hm hrk hla hwi hg H locs G ls hl
        refine g_iload_n C dX8_blank_27 rfl hl 3 rfl ?_
        refine g_sipush (a := 301) C dX8_blank_28 (by decide) ?_
        refine g_icmp_ge (tgt := 78) C (by omega) (by decide) dX8_blank_31 (by decide) (fun c_28 => ?_) (fun c_28 => ?_)
        · refine g_iload_n C dX8_blank_78 rfl hl 1 rfl ?_
          refine g_iret C G hr hlk (Nat.le_of_ble_eq_true rfl) (Nat.le_of_ble_eq_true rfl) dX8_blank_79 ?_
          have hr9 : r = 301 := by omega
          rw [hr9] at hg
          exact ⟨0, ⟨rfl, Or.inr ⟨by omega, (congrArg Prod.fst hg).symm⟩⟩, ⟨_, _, _, _, _, _, _, hc_18, hc_19, hc_20, hc_21, hc_22, hc_23, hc_24, hc_25, by omega, hS_13.1, hinq⟩, fun q hq => (((congrFun hgs_16 q).trans ((gu_ne (by omega)).trans (gu_ne (by omega)))).trans ((congrFun hg_2 q).trans (gu_ne (by omega))))⟩
        · refine g_aload_n C dX8_blank_34 rfl hl 0 rfl ?_
          refine g_iload_n C dX8_blank_35 rfl hl 3 rfl ?_
          refine g_ci C G (g_runV (As := [.int (iz r)]) (rest := []) (pos := 192) C G (c_X8_markedAt l κ B n ad g_17 ly 0 (mk + 1) tx rl a0 wr s0 s1 rm f V_12 r (fun x y => ∃ l9, 0 ≤ l9 ∧ l9 < ly ∧ PTl f l9 x y) hn8 hc_18 hc_19 hc_20 hok (by omega) hS_13 (by omega) (fun x y ⟨l9, _, _, q⟩ => q.lt hv0)) (cwV 1 C.1.2.2.2.2 gX8_blank_X8_markedAt rfl rfl rfl (by decide +kernel) ⟨Nat.le_of_ble_eq_true rfl, Nat.le_of_ble_eq_true rfl⟩) (by omega) hc_18 (T := TX8) (N := 17) rfl rfl hl rfl (Nat.le_of_ble_eq_true rfl) dX8_blank_36 ⟨Nat.le_of_ble_eq_true rfl, Nat.le_of_ble_eq_true rfl⟩) (fun z_29 g9 H locs hw G => ?_)
          obtain ⟨hg9, h_30⟩ := hw
          replace hg9 := hg9.symm
          subst hg9
          have hz9 := h_30.1
          refine g_if_le (tgt := 72) C (by omega) dX8_blank_39 (by decide) (fun c_31 => ?_) (fun c_31 => ?_)
          · refine lv_iinc (v := iz (r + 1)) (lv' := [(3, .int (iz (r + 1))), (0, .ref (ad 192)), (1, .int (iz wi)), (2, .int (iz la))]) C.1.1 C.1.2.1 dX8_blank_72 hl (k := 3) rfl (g_inc (by omega)) (by decide) rfl (fun ls hl => ?_)
            refine g_goto (tgt := 27) C dX8_blank_75 (by decide) ?_
            exact ih_lp_27_n_27 wi la (r + 1) (by omega) (by omega) (by omega) (by omega) (by rw [gpf_out hrk.1 (fun q => by have q2 : 0 < (cntR (fun x y => ∃ l9, 0 ≤ l9 ∧ l9 < ly ∧ PTl f l9 x y) r : Int) := q; omega)]; exact hg) _ _ G _ (lv_sub hl [1, 2, 3, 0] rfl)
          · refine g_iload_n C dX8_blank_42 rfl hl 2 rfl ?_
            refine g_bipush (a := (-9)) C dX8_blank_43 (by decide) ?_
            refine g_icmp_ne (tgt := 52) C (by omega) (by omega) dX8_blank_45 (by decide) (fun c_32 => ?_) (fun c_32 => ?_)
            · refine g_iload_n C dX8_blank_52 rfl hl 3 rfl ?_
              refine g_iload_n C dX8_blank_53 rfl hl 2 rfl ?_
              refine g_isub C dX8_blank_54 ?_
              refine lv_istore (lv' := [(4, .int (iz (r - la))), (0, .ref (ad 192)), (1, .int (iz wi)), (2, .int (iz la)), (3, .int (iz r))]) C.1.1 C.1.2.1 dX8_blank_55 hl (by decide) rfl (fun ls hl => ?_)
              refine g_iload C dX8_blank_57 hl 0 rfl ?_
              refine g_iload_n C dX8_blank_59 rfl hl 2 rfl ?_
              refine g_icmp_le (tgt := 68) C (by omega) (by omega) dX8_blank_60 (by decide) (fun c_33 => ?_) (fun c_33 => ?_)
              · refine g_iload_n C dX8_blank_68 rfl hl 2 rfl ?_
                refine lv_istore_n (lv' := [(1, .int (iz wi)), (4, .int (iz (r - la))), (0, .ref (ad 192)), (2, .int (iz la)), (3, .int (iz r))]) C.1.1 C.1.2.1 dX8_blank_69 rfl hl (by decide) rfl (fun ls hl => ?_)
                refine g_iload_n C dX8_blank_70 rfl hl 4 rfl ?_
                refine lv_istore_n (lv' := [(2, .int (iz r)), (1, .int (iz wi)), (4, .int (iz (r - la))), (0, .ref (ad 192)), (3, .int (iz r))]) C.1.1 C.1.2.1 dX8_blank_71 rfl hl (by decide) rfl (fun ls hl => ?_)
                refine lv_iinc (v := iz (r + 1)) (lv' := [(3, .int (iz (r + 1))), (2, .int (iz r)), (1, .int (iz wi)), (4, .int (iz (r - la))), (0, .ref (ad 192))]) C.1.1 C.1.2.1 dX8_blank_72 hl (k := 4) rfl (g_inc (by omega)) (by decide) rfl (fun ls hl => ?_)
                refine g_goto (tgt := 27) C dX8_blank_75 (by decide) ?_
                exact ih_lp_27_n_27 wi r (r + 1) (by omega) (by omega) (by omega) (by omega) (by rw [gpf_in hrk.1 (show 0 < (cntR (fun x y => ∃ l9, 0 ≤ l9 ∧ l9 < ly ∧ PTl f l9 x y) r : Int) by omega), hg]; exact Prod.ext (by dsimp only; split <;> omega) rfl) _ _ G _ (lv_sub hl [4, 2, 1, 0] rfl)
              · refine g_iload C dX8_blank_63 hl 0 rfl ?_
                refine g_goto (tgt := 69) C dX8_blank_65 (by decide) ?_
                refine lv_istore_n (lv' := [(1, .int (iz (r - la))), (4, .int (iz (r - la))), (0, .ref (ad 192)), (2, .int (iz la)), (3, .int (iz r))]) C.1.1 C.1.2.1 dX8_blank_69 rfl hl (by decide) rfl (fun ls hl => ?_)
                refine g_iload_n C dX8_blank_70 rfl hl 4 rfl ?_
                refine lv_istore_n (lv' := [(2, .int (iz r)), (1, .int (iz (r - la))), (4, .int (iz (r - la))), (0, .ref (ad 192)), (3, .int (iz r))]) C.1.1 C.1.2.1 dX8_blank_71 rfl hl (by decide) rfl (fun ls hl => ?_)
                refine lv_iinc (v := iz (r + 1)) (lv' := [(3, .int (iz (r + 1))), (2, .int (iz r)), (1, .int (iz (r - la))), (4, .int (iz (r - la))), (0, .ref (ad 192))]) C.1.1 C.1.2.1 dX8_blank_72 hl (k := 4) rfl (g_inc (by omega)) (by decide) rfl (fun ls hl => ?_)
                refine g_goto (tgt := 27) C dX8_blank_75 (by decide) ?_
                exact ih_lp_27_n_27 (r - la) r (r + 1) (by omega) (by omega) (by omega) (by omega) (by rw [gpf_in hrk.1 (show 0 < (cntR (fun x y => ∃ l9, 0 ≤ l9 ∧ l9 < ly ∧ PTl f l9 x y) r : Int) by omega), hg]; exact Prod.ext (by dsimp only; split <;> omega) rfl) _ _ G _ (lv_sub hl [4, 2, 1, 0] rfl)
            · refine g_iconst (a := 0) C dX8_blank_48 rfl ?_
              refine g_goto (tgt := 55) C dX8_blank_49 (by decide) ?_
              refine lv_istore (lv' := [(4, .int (iz 0)), (0, .ref (ad 192)), (1, .int (iz wi)), (2, .int (iz la)), (3, .int (iz r))]) C.1.1 C.1.2.1 dX8_blank_55 hl (by decide) rfl (fun ls hl => ?_)
              refine g_iload C dX8_blank_57 hl 0 rfl ?_
              refine g_iload_n C dX8_blank_59 rfl hl 2 rfl ?_
              refine g_icmp_le (tgt := 68) C (by decide) (by omega) dX8_blank_60 (by decide) (fun c_34 => ?_) (fun c_34 => ?_)
              · refine g_iload_n C dX8_blank_68 rfl hl 2 rfl ?_
                refine lv_istore_n (lv' := [(1, .int (iz wi)), (4, .int (iz 0)), (0, .ref (ad 192)), (2, .int (iz la)), (3, .int (iz r))]) C.1.1 C.1.2.1 dX8_blank_69 rfl hl (by decide) rfl (fun ls hl => ?_)
                refine g_iload_n C dX8_blank_70 rfl hl 4 rfl ?_
                refine lv_istore_n (lv' := [(2, .int (iz r)), (1, .int (iz wi)), (4, .int (iz 0)), (0, .ref (ad 192)), (3, .int (iz r))]) C.1.1 C.1.2.1 dX8_blank_71 rfl hl (by decide) rfl (fun ls hl => ?_)
                refine lv_iinc (v := iz (r + 1)) (lv' := [(3, .int (iz (r + 1))), (2, .int (iz r)), (1, .int (iz wi)), (4, .int (iz 0)), (0, .ref (ad 192))]) C.1.1 C.1.2.1 dX8_blank_72 hl (k := 4) rfl (g_inc (by omega)) (by decide) rfl (fun ls hl => ?_)
                refine g_goto (tgt := 27) C dX8_blank_75 (by decide) ?_
                exact ih_lp_27_n_27 wi r (r + 1) (by omega) (by omega) (by omega) (by omega) (by rw [gpf_in hrk.1 (show 0 < (cntR (fun x y => ∃ l9, 0 ≤ l9 ∧ l9 < ly ∧ PTl f l9 x y) r : Int) by omega), hg]; exact Prod.ext (by dsimp only; split <;> omega) rfl) _ _ G _ (lv_sub hl [4, 2, 1, 0] rfl)
              · refine g_iload C dX8_blank_63 hl 0 rfl ?_
                refine g_goto (tgt := 69) C dX8_blank_65 (by decide) ?_
                refine lv_istore_n (lv' := [(1, .int (iz 0)), (4, .int (iz 0)), (0, .ref (ad 192)), (2, .int (iz la)), (3, .int (iz r))]) C.1.1 C.1.2.1 dX8_blank_69 rfl hl (by decide) rfl (fun ls hl => ?_)
                refine g_iload_n C dX8_blank_70 rfl hl 4 rfl ?_
                refine lv_istore_n (lv' := [(2, .int (iz r)), (1, .int (iz 0)), (4, .int (iz 0)), (0, .ref (ad 192)), (3, .int (iz r))]) C.1.1 C.1.2.1 dX8_blank_71 rfl hl (by decide) rfl (fun ls hl => ?_)
                refine lv_iinc (v := iz (r + 1)) (lv' := [(3, .int (iz (r + 1))), (2, .int (iz r)), (1, .int (iz 0)), (4, .int (iz 0)), (0, .ref (ad 192))]) C.1.1 C.1.2.1 dX8_blank_72 hl (k := 4) rfl (g_inc (by omega)) (by decide) rfl (fun ls hl => ?_)
                refine g_goto (tgt := 27) C dX8_blank_75 (by decide) ?_
                exact ih_lp_27_n_27 0 r (r + 1) (by omega) (by omega) (by omega) (by omega) (by rw [gpf_in hrk.1 (show 0 < (cntR (fun x y => ∃ l9, 0 ≤ l9 ∧ l9 < ly ∧ PTl f l9 x y) r : Int) by omega), hg]; exact Prod.ext (by dsimp only; split <;> omega) rfl) _ _ G _ (lv_sub hl [4, 2, 1, 0] rfl)
    exact lp_27_n_27 _ 0 (-9) 0 (Nat.lt_succ_self _) (by omega) (by omega) (by omega) rfl _ _ G _ (lv_sub hl [3, 2, 1, 0] rfl)
  · refine g_bipush (a := (-9)) C dX8_blank_12 (by decide) ?_
    refine g_iret C G hr hlk (Nat.le_of_ble_eq_true rfl) (Nat.le_of_ble_eq_true rfl) dX8_blank_14 ?_
    exact ⟨0, ⟨rfl, Or.inl ⟨by omega, rfl⟩⟩, ⟨_, _, _, _, _, _, _, hc_3, hc_4, hc_5, hc_6, hc_7, hc_8, hc_9, hc_10, by omega, hMr, hinq⟩, fun q hq => ((congrFun hg_2 q).trans (gu_ne (by omega)))⟩
set_option maxHeartbeats 4000000 in
set_option maxRecDepth 100000 in
theorem c_X8_common (l : Launch) (κ : gKap) (B n : Nat) (ad : Nat → Nat) (g : Nat → va_E) (a : Int) (b : Int) (ha : 0 < a ∧ a ≤ 9223372036854775807) (hb : 0 ≤ b ∧ b ≤ 9223372036854775807) : Met l yX8_common wsX8_common ({ frames := 0, cells := 0, slots := 0, locals := 0 }) (gPre κ B n ad g [.long (jz a), .long (jz b)]) (gQl κ B n ad (fun z g' => g' = g ∧ (z = gd a b ∧ 1 ≤ z ∧ z ≤ a))) 0 0 (gFree B) := by
  refine g_met RX8 (cc := cX8_common) (maxL := 10) (ret := (some .long)) (by decide) rfl rfl (Nat.le_of_ble_eq_true rfl) ?_
  intro p e s m args below meth c C hr hlk hnm G ls hl
  have hl : lv_has ls 10 [(0, .long (jz a)), (2, .long (jz b))] := hl
  refine g_lload_n C dX8_common_0 rfl hl 0 rfl ?_
  refine lv_lstore (lv' := [(4, .long (jz a)), (0, .long (jz a)), (2, .long (jz b))]) C.1.1 C.1.2.1 dX8_common_1 hl (by decide) rfl (fun ls hl => ?_)
  refine g_lload_n C dX8_common_3 rfl hl 2 rfl ?_
  refine lv_lstore (lv' := [(6, .long (jz b)), (4, .long (jz a)), (0, .long (jz a)), (2, .long (jz b))]) C.1.1 C.1.2.1 dX8_common_4 hl (by decide) rfl (fun ls hl => ?_)
  have lp_6_n_2 : ∀ (k_1 : Nat) (x : Int) (y : Int), y.toNat < k_1 → (0 < x ∧ x ≤ 9223372036854775807) → (0 ≤ y ∧ y ≤ 9223372036854775807) → (Int.gcd x y = Int.gcd a b) → ∀ (H : Heap) (locs : List Loc), gG κ B n ad s g H locs → ∀ (ls : Array Slot), lv_has ls 10 [(0, .long (jz a)), (2, .long (jz b)), (4, .long (jz x)), (6, .long (jz y))] → W p l e ({ frames := 0, cells := 0, slots := 0, locals := 0 }) s m args below meth c H locs 0 0 (MQ below (gQl κ B n ad (fun z g' => g' = g ∧ (z = gd a b ∧ 1 ≤ z ∧ z ≤ a))) args s 0 0 (gFree B)) (F0 m 6 ls []) := by
    intro k_1
    induction k_1 with
    | zero => intro x y hm; exact absurd hm (Nat.not_lt_zero _)
    | succ k_1 ih_lp_6_n_2 =>
      intro x y hm hx hy hg H locs G ls hl
      refine g_lload C dX8_common_6 hl 3 rfl ?_
      refine g_lconst (a := 0) C dX8_common_8 (by decide) ?_
      refine g_lcmp C (by omega) (by decide) dX8_common_9 (fun z_3 h_4 => ?_)
      refine g_if_eq (tgt := 31) C (by omega) dX8_common_10 (by decide) (fun c_5 => ?_) (fun c_5 => ?_)
      · refine g_lload C dX8_common_31 hl 2 rfl ?_
        refine g_lret C G hr hlk (Nat.le_of_ble_eq_true rfl) (Nat.le_of_ble_eq_true rfl) dX8_common_33 ?_
        have hy9 : y = 0 := by omega
        subst hy9
        have hz9 : x = gd a b := by unfold gd; rw [← hg, Int.gcd_zero_right]; omega
        have hgp := gd_pos (b := b) ha.1
        have hgl := gd_le (b := b) ha.1
        exact ⟨rfl, hz9, by omega, by omega⟩
      · refine g_lload C dX8_common_13 hl 2 rfl ?_
        refine g_lload C dX8_common_15 hl 3 rfl ?_
        refine g_lrem C (by omega) (by omega) (by omega) dX8_common_17 ?_
        rw [show (Int.tmod x y : Int) = x % y from (tmod_pos (by omega))]
        have hxy0 := Int.emod_nonneg x (show y ≠ 0 by omega)
        have hxy1 := Int.emod_lt_of_pos x (show 0 < y by omega)
        refine lv_lstore (lv' := [(8, .long (jz (x % y))), (0, .long (jz a)), (2, .long (jz b)), (4, .long (jz x)), (6, .long (jz y))]) C.1.1 C.1.2.1 dX8_common_18 hl (by decide) rfl (fun ls hl => ?_)
        refine g_lload C dX8_common_20 hl 4 rfl ?_
        refine lv_lstore (lv' := [(4, .long (jz y)), (8, .long (jz (x % y))), (0, .long (jz a)), (2, .long (jz b)), (6, .long (jz y))]) C.1.1 C.1.2.1 dX8_common_22 hl (by decide) rfl (fun ls hl => ?_)
        refine g_lload C dX8_common_24 hl 1 rfl ?_
        refine lv_lstore (lv' := [(6, .long (jz (x % y))), (4, .long (jz y)), (8, .long (jz (x % y))), (0, .long (jz a)), (2, .long (jz b))]) C.1.1 C.1.2.1 dX8_common_26 hl (by decide) rfl (fun ls hl => ?_)
        refine g_goto (tgt := 6) C dX8_common_28 (by decide) ?_
        exact ih_lp_6_n_2 y (x % y) (by omega) (by omega) (by omega) (by rw [eu_gcd (by omega) (by omega), hg]) _ _ G _ (lv_sub hl [3, 4, 1, 0] rfl)
  exact lp_6_n_2 _ a b (Nat.lt_succ_self _) (by omega) (by omega) rfl _ _ G _ (lv_sub hl [2, 3, 1, 0] rfl)
theorem fwX8_together_31 : gFldW wsX8_together RX8 31 8 2 .int false := ⟨RX8, TX8, 17, tyX8, rfl, by decide, by decide +kernel, by decide +kernel, tyX8_ok, nmX8, rfl, by decide +kernel, by decide +kernel⟩
theorem fX8_together_35 : gFld wsX8_together RX8 35 8 1 := ⟨RX8, TX8, 17, rfl, by decide, by decide +kernel, by decide +kernel⟩
set_option maxHeartbeats 4000000 in
set_option maxRecDepth 100000 in
theorem c_X8_together (l : Launch) (κ : gKap) (B n : Nat) (ad : Nat → Nat) (g : Nat → va_E) (ly : Int) (th : Int) (mk : Int) (tx : Int) (rl : Int) (a0 : Int) (wr : Int) (s0 : Int) (s1 : Int) (rm : Int) (f : Int → Int) (M9 : Int → Int) (X9 : Int → Int) (q9 : Int → Int) (pa : Int → Int) (be : Int → Int) (sv : Int → Int) (hn8 : 200 ≤ n) (hM : g 192 = oM ad ly th mk tx rl a0 wr s0 s1 rm) (hN : g 193 = aI κ 42 f) (hK : g 194 = aI κ 28896 M9) (hT : g 195 = aI κ 100 X9) (hRd : g 196 = aI κ 42 q9) (hPa : g 197 = aI κ 602 pa) (hBe : g 198 = aI κ 43 be) (hSv : g 199 = aI κ 86 sv) (hok : okPl ly f) (hmk : 0 ≤ mk ∧ mk ≤ 800000000) (hMr : ∀ i, 0 ≤ i → i < 28896 → 0 ≤ M9 i ∧ M9 i ≤ mk) (hinq : inV q9) : Met l yX8_together wsX8_together ({ frames := 2, cells := 0, slots := 0, locals := 45 }) (gPre κ B n ad g [.ref (ad 192)]) (gQl κ B n ad (fun z g' => ∃ t9, (t9 = 0 ∧ ((ly = 0 ∧ z = 0) ∨ (0 < ly ∧ z = tgA f ly.toNat))) ∧ jkM κ ad g' ly t9 tx s0 s1 rm (mk + 1000) f X9 pa sv ∧ frM g g')) 0 0 (gFree B) := by
  refine g_met RX8 (cc := cX8_together) (maxL := 6) (ret := (some .long)) (by decide) rfl rfl (Nat.le_of_ble_eq_true rfl) ?_
  intro p e s m args below meth c C hr hlk hnm G ls hl
  have hl : lv_has ls 6 [(0, .ref (ad 192))] := hl
  obtain ⟨hn6, hv0, hv25, hlay, hsee⟩ := id hok
  refine g_aload_n C dX8_together_0 rfl hl 0 rfl ?_
  refine g_iconst (a := 0) C dX8_together_1 rfl ?_
  refine g_put C G (pos := 192) (fs' := [.ref (ad 193), .int (iz ly), .int (iz 0), .ref (ad 194), .int (iz mk), .ref (ad 195), .int (iz tx), .ref (ad 196), .int (iz rl), .int (iz a0), .int (iz wr), .int (iz s0), .int (iz s1), .ref (ad 197), .int (iz rm), .ref (ad 198), .ref (ad 199)]) fwX8_together_31 (by omega) hM (Nat.le_of_ble_eq_true rfl) rfl rfl rfl dX8_together_2 (fun H locs G => ?_)
  obtain ⟨g_1, hg_2⟩ : ∃ g9, g9 = va_up g 192 (.inr (8, [.ref (ad 193), .int (iz ly), .int (iz 0), .ref (ad 194), .int (iz mk), .ref (ad 195), .int (iz tx), .ref (ad 196), .int (iz rl), .int (iz a0), .int (iz wr), .int (iz s0), .int (iz s1), .ref (ad 197), .int (iz rm), .ref (ad 198), .ref (ad 199)])) := ⟨_, rfl⟩
  rw [← hg_2] at G
  have hc_3 : g_1 192 = .inr (8, [.ref (ad 193), .int (iz ly), .int (iz 0), .ref (ad 194), .int (iz mk), .ref (ad 195), .int (iz tx), .ref (ad 196), .int (iz rl), .int (iz a0), .int (iz wr), .int (iz s0), .int (iz s1), .ref (ad 197), .int (iz rm), .ref (ad 198), .ref (ad 199)]) := by rw [hg_2]; exact gu_self _ _ _
  have hc_4 : g_1 193 = aI κ 42 f := by rw [hg_2, gu_ne (by decide)]; exact hN
  have hc_5 : g_1 194 = aI κ 28896 M9 := by rw [hg_2, gu_ne (by decide)]; exact hK
  have hc_6 : g_1 195 = aI κ 100 X9 := by rw [hg_2, gu_ne (by decide)]; exact hT
  have hc_7 : g_1 196 = aI κ 42 q9 := by rw [hg_2, gu_ne (by decide)]; exact hRd
  have hc_8 : g_1 197 = aI κ 602 pa := by rw [hg_2, gu_ne (by decide)]; exact hPa
  have hc_9 : g_1 198 = aI κ 43 be := by rw [hg_2, gu_ne (by decide)]; exact hBe
  have hc_10 : g_1 199 = aI κ 86 sv := by rw [hg_2, gu_ne (by decide)]; exact hSv
  refine g_lconst (a := 0) C dX8_together_5 (by decide) ?_
  refine lv_lstore_n (lv' := [(1, .long (jz 0)), (0, .ref (ad 192))]) C.1.1 C.1.2.1 dX8_together_6 rfl hl (by decide) rfl (fun ls hl => ?_)
  refine g_iconst (a := 0) C dX8_together_7 rfl ?_
  refine lv_istore_n (lv' := [(3, .int (iz 0)), (1, .long (jz 0)), (0, .ref (ad 192))]) C.1.1 C.1.2.1 dX8_together_8 rfl hl (by decide) rfl (fun ls hl => ?_)
  have lp_9_n_12 : ∀ (k_11 : Nat) (al : Int) (k : Int), (ly - k).toNat < k_11 → (0 ≤ k ∧ k ≤ ly) → ((k = 0 ∧ al = 0) ∨ (0 < k ∧ al = tgA f k.toNat)) → ∀ (H : Heap) (locs : List Loc), gG κ B n ad s g_1 H locs → ∀ (ls : Array Slot), lv_has ls 6 [(0, .ref (ad 192)), (1, .long (jz al)), (3, .int (iz k))] → W p l e ({ frames := 2, cells := 0, slots := 0, locals := 45 }) s m args below meth c H locs 0 0 (MQ below (gQl κ B n ad (fun z g' => ∃ t9, (t9 = 0 ∧ ((ly = 0 ∧ z = 0) ∨ (0 < ly ∧ z = tgA f ly.toNat))) ∧ jkM κ ad g' ly t9 tx s0 s1 rm (mk + 1000) f X9 pa sv ∧ frM g g')) args s 0 0 (gFree B)) (F0 m 9 ls []) := by
    intro k_11
    induction k_11 with
    | zero => intro al k hm; exact absurd hm (Nat.not_lt_zero _)
    | succ k_11 ih_lp_9_n_12 =>
      intro al k hm hk hal H locs G ls hl
      refine g_iload_n C dX8_together_9 rfl hl 2 rfl ?_
      refine g_aload_n C dX8_together_10 rfl hl 0 rfl ?_
      refine g_get C G (pos := 192) fX8_together_35 (by omega) hc_3 rfl dX8_together_11 ?_
      refine g_icmp_ge (tgt := 52) C (by omega) (by omega) dX8_together_14 (by decide) (fun c_13 => ?_) (fun c_13 => ?_)
      · refine g_lload_n C dX8_together_52 rfl hl 1 rfl ?_
        refine g_lret C G hr hlk (Nat.le_of_ble_eq_true rfl) (Nat.le_of_ble_eq_true rfl) dX8_together_53 ?_
        have hk9 : k = ly := by omega
        rw [hk9] at hal
        exact ⟨0, ⟨rfl, hal⟩, ⟨_, _, _, _, _, _, _, hc_3, hc_4, hc_5, hc_6, hc_7, hc_8, hc_9, hc_10, by omega, hMr, hinq⟩, fun q hq => ((congrFun hg_2 q).trans (gu_ne (by omega)))⟩
      · refine g_aload_n C dX8_together_17 rfl hl 0 rfl ?_
        refine g_iload_n C dX8_together_18 rfl hl 2 rfl ?_
        refine g_ci C G (g_runV (As := [.int (iz k)]) (rest := []) (pos := 192) C G (c_X8_period l κ B n ad g_1 ly 0 mk tx rl a0 wr s0 s1 rm f k hn8 hc_3 hc_4 hok (by omega)) (cwV 1 C.1.2.2.2.2 gX8_together_X8_period rfl rfl rfl (by decide +kernel) ⟨Nat.le_of_ble_eq_true rfl, Nat.le_of_ble_eq_true rfl⟩) (by omega) hc_3 (T := TX8) (N := 17) rfl rfl hl rfl (Nat.le_of_ble_eq_true rfl) dX8_together_19 ⟨Nat.le_of_ble_eq_true rfl, Nat.le_of_ble_eq_true rfl⟩) (fun z_14 g9 H locs hw G => ?_)
        obtain ⟨hg9, h_15⟩ := hw
        replace hg9 := hg9.symm
        subst hg9
        refine g_i2l C (by omega) dX8_together_22 ?_
        refine lv_lstore (lv' := [(4, .long (jz z_14)), (0, .ref (ad 192)), (1, .long (jz al)), (3, .int (iz k))]) C.1.1 C.1.2.1 dX8_together_23 hl (by decide) rfl (fun ls hl => ?_)
        refine g_iload_n C dX8_together_25 rfl hl 3 rfl ?_
        refine g_if_ne (tgt := 34) C (by omega) dX8_together_26 (by decide) (fun c_16 => ?_) (fun c_16 => ?_)
        · refine g_lload_n C dX8_together_34 rfl hl 2 rfl ?_
          refine g_lload_n C dX8_together_35 rfl hl 2 rfl ?_
          refine g_lload C dX8_together_36 hl 0 rfl ?_
          have htg := tgA_ok hok k.toNat (by omega)
          have hal2 : al = tgA f k.toNat := by omega
          rw [← hal2] at htg
          refine g_cl C G (g_runS (As := [.long (jz al), .long (jz z_14)]) (rest := [.long (jz al)]) C G (c_X8_common l κ B n ad g_1 al z_14 (by omega) (by omega)) (va_cwS 2 C.1.2.2.2.2 gX8_together_X8_common rfl rfl rfl (by decide +kernel) ⟨Nat.le_of_ble_eq_true rfl, Nat.le_of_ble_eq_true rfl⟩) rfl hl rfl (Nat.le_of_ble_eq_true rfl) dX8_together_38 ⟨Nat.le_of_ble_eq_true rfl, Nat.le_of_ble_eq_true rfl⟩) (fun z_17 g9 H locs hw G => ?_)
          obtain ⟨hg9, h_18⟩ := hw
          replace hg9 := hg9.symm
          subst hg9
          refine g_ldiv C (by omega) (by omega) (by omega) dX8_together_41 ?_
          rw [show (Int.tdiv al z_17 : Int) = al / z_17 from (tdiv_pos (by omega))]
          refine g_lload C dX8_together_42 hl 0 rfl ?_
          refine g_lmul C dX8_together_44 ?_
          refine lv_lstore_n (lv' := [(1, .long (jz ((al / z_17) * z_14))), (4, .long (jz z_14)), (0, .ref (ad 192)), (3, .int (iz k))]) C.1.1 C.1.2.1 dX8_together_45 rfl hl (by decide) rfl (fun ls hl => ?_)
          refine lv_iinc (v := iz (k + 1)) (lv' := [(3, .int (iz (k + 1))), (1, .long (jz ((al / z_17) * z_14))), (4, .long (jz z_14)), (0, .ref (ad 192))]) C.1.1 C.1.2.1 dX8_together_46 hl (k := 3) rfl (g_inc (by omega)) (by decide) rfl (fun ls hl => ?_)
          refine g_goto (tgt := 9) C dX8_together_49 (by decide) ?_
          exact ih_lp_9_n_12 ((al / z_17) * z_14) (k + 1) (by omega) (by omega) (Or.inr ⟨by omega, by rw [tgA_step f hk.1, ← hal2, ← h_15.1, ← h_18.1]⟩) _ _ G _ (lv_sub hl [3, 1, 0] rfl)
        · refine g_lload C dX8_together_29 hl 0 rfl ?_
          refine g_goto (tgt := 45) C dX8_together_31 (by decide) ?_
          refine lv_lstore_n (lv' := [(1, .long (jz z_14)), (4, .long (jz z_14)), (0, .ref (ad 192)), (3, .int (iz k))]) C.1.1 C.1.2.1 dX8_together_45 rfl hl (by decide) rfl (fun ls hl => ?_)
          refine lv_iinc (v := iz (k + 1)) (lv' := [(3, .int (iz (k + 1))), (1, .long (jz z_14)), (4, .long (jz z_14)), (0, .ref (ad 192))]) C.1.1 C.1.2.1 dX8_together_46 hl (k := 3) rfl (g_inc (by omega)) (by decide) rfl (fun ls hl => ?_)
          refine g_goto (tgt := 9) C dX8_together_49 (by decide) ?_
          exact ih_lp_9_n_12 z_14 (k + 1) (by omega) (by omega) (Or.inr ⟨by omega, by rw [tgA_one (by omega), ← h_15.1]⟩) _ _ G _ (lv_sub hl [3, 1, 0] rfl)
  exact lp_9_n_12 _ 0 0 (Nat.lt_succ_self _) (by omega) (Or.inl ⟨rfl, rfl⟩) _ _ G _ (lv_sub hl [2, 1, 0] rfl)
theorem fwX8_order_31 : gFldW wsX8_order RX8 31 8 2 .int false := ⟨RX8, TX8, 17, tyX8, rfl, by decide, by decide +kernel, by decide +kernel, tyX8_ok, nmX8, rfl, by decide +kernel, by decide +kernel⟩
theorem fX8_order_35 : gFld wsX8_order RX8 35 8 1 := ⟨RX8, TX8, 17, rfl, by decide, by decide +kernel, by decide +kernel⟩
set_option maxHeartbeats 4000000 in
set_option maxRecDepth 100000 in
theorem c_X8_order (l : Launch) (κ : gKap) (B n : Nat) (ad : Nat → Nat) (g : Nat → va_E) (ly : Int) (th : Int) (mk : Int) (tx : Int) (rl : Int) (a0 : Int) (wr : Int) (s0 : Int) (s1 : Int) (rm : Int) (f : Int → Int) (M9 : Int → Int) (X9 : Int → Int) (q9 : Int → Int) (pa : Int → Int) (be : Int → Int) (sv : Int → Int) (pl : Int) (hn8 : 200 ≤ n) (hM : g 192 = oM ad ly th mk tx rl a0 wr s0 s1 rm) (hN : g 193 = aI κ 42 f) (hK : g 194 = aI κ 28896 M9) (hT : g 195 = aI κ 100 X9) (hRd : g 196 = aI κ 42 q9) (hPa : g 197 = aI κ 602 pa) (hBe : g 198 = aI κ 43 be) (hSv : g 199 = aI κ 86 sv) (hok : okPl ly f) (hmk : 0 ≤ mk ∧ mk ≤ 800000000) (hMr : ∀ i, 0 ≤ i → i < 28896 → 0 ≤ M9 i ∧ M9 i ≤ mk) (hinq : inV q9) (hpl9 : inI pl) : Met l yX8_order wsX8_order ({ frames := 4, cells := 0, slots := 0, locals := 88 }) (gPre κ B n ad g [.ref (ad 192), .int (iz pl)]) (gQi κ B n ad (fun z g' => ∃ t9, ((t9 = 1 ∧ pl < 0) ∨ (t9 = 0 ∧ 0 ≤ pl ∧ isFirst (fun l9 => cutN ly f l9 = pl) ly z)) ∧ jkM κ ad g' ly t9 tx s0 s1 rm (mk + 1000) f X9 pa sv ∧ frM g g')) 0 0 (gFree B) := by
  refine g_met RX8 (cc := cX8_order) (maxL := 5) (ret := (some .int)) (by decide) rfl rfl (Nat.le_of_ble_eq_true rfl) ?_
  intro p e s m args below meth c C hr hlk hnm G ls hl
  have hl : lv_has ls 5 [(0, .ref (ad 192)), (1, .int (iz pl))] := hl
  obtain ⟨hn6, hv0, hv25, hlay, hsee⟩ := id hok
  refine g_aload_n C dX8_order_0 rfl hl 0 rfl ?_
  refine g_iconst (a := 0) C dX8_order_1 rfl ?_
  refine g_put C G (pos := 192) (fs' := [.ref (ad 193), .int (iz ly), .int (iz 0), .ref (ad 194), .int (iz mk), .ref (ad 195), .int (iz tx), .ref (ad 196), .int (iz rl), .int (iz a0), .int (iz wr), .int (iz s0), .int (iz s1), .ref (ad 197), .int (iz rm), .ref (ad 198), .ref (ad 199)]) fwX8_order_31 (by omega) hM (Nat.le_of_ble_eq_true rfl) rfl rfl rfl dX8_order_2 (fun H locs G => ?_)
  obtain ⟨g_1, hg_2⟩ : ∃ g9, g9 = va_up g 192 (.inr (8, [.ref (ad 193), .int (iz ly), .int (iz 0), .ref (ad 194), .int (iz mk), .ref (ad 195), .int (iz tx), .ref (ad 196), .int (iz rl), .int (iz a0), .int (iz wr), .int (iz s0), .int (iz s1), .ref (ad 197), .int (iz rm), .ref (ad 198), .ref (ad 199)])) := ⟨_, rfl⟩
  rw [← hg_2] at G
  have hc_3 : g_1 192 = .inr (8, [.ref (ad 193), .int (iz ly), .int (iz 0), .ref (ad 194), .int (iz mk), .ref (ad 195), .int (iz tx), .ref (ad 196), .int (iz rl), .int (iz a0), .int (iz wr), .int (iz s0), .int (iz s1), .ref (ad 197), .int (iz rm), .ref (ad 198), .ref (ad 199)]) := by rw [hg_2]; exact gu_self _ _ _
  have hc_4 : g_1 193 = aI κ 42 f := by rw [hg_2, gu_ne (by decide)]; exact hN
  have hc_5 : g_1 194 = aI κ 28896 M9 := by rw [hg_2, gu_ne (by decide)]; exact hK
  have hc_6 : g_1 195 = aI κ 100 X9 := by rw [hg_2, gu_ne (by decide)]; exact hT
  have hc_7 : g_1 196 = aI κ 42 q9 := by rw [hg_2, gu_ne (by decide)]; exact hRd
  have hc_8 : g_1 197 = aI κ 602 pa := by rw [hg_2, gu_ne (by decide)]; exact hPa
  have hc_9 : g_1 198 = aI κ 43 be := by rw [hg_2, gu_ne (by decide)]; exact hBe
  have hc_10 : g_1 199 = aI κ 86 sv := by rw [hg_2, gu_ne (by decide)]; exact hSv
  refine g_iload_n C dX8_order_5 rfl hl 1 rfl ?_
  refine g_if_ge (tgt := 15) C (by omega) dX8_order_6 (by decide) (fun c_11 => ?_) (fun c_11 => ?_)
  · refine g_iconst (a := 0) C dX8_order_15 rfl ?_
    refine lv_istore_n (lv' := [(2, .int (iz 0)), (0, .ref (ad 192)), (1, .int (iz pl))]) C.1.1 C.1.2.1 dX8_order_16 rfl hl (by decide) rfl (fun ls hl => ?_)
    have lp_17_n_13 : ∀ (k_12 : Nat) (k : Int), (ly - k).toNat < k_12 → (0 ≤ k ∧ k ≤ ly) → (∀ j, 0 ≤ j → j < k → ¬ cutN ly f j = pl) → ∀ (H : Heap) (locs : List Loc), gG κ B n ad s g_1 H locs → ∀ (ls : Array Slot), lv_has ls 5 [(0, .ref (ad 192)), (1, .int (iz pl)), (2, .int (iz k))] → W p l e ({ frames := 4, cells := 0, slots := 0, locals := 88 }) s m args below meth c H locs 0 0 (MQ below (gQi κ B n ad (fun z g' => ∃ t9, ((t9 = 1 ∧ pl < 0) ∨ (t9 = 0 ∧ 0 ≤ pl ∧ isFirst (fun l9 => cutN ly f l9 = pl) ly z)) ∧ jkM κ ad g' ly t9 tx s0 s1 rm (mk + 1000) f X9 pa sv ∧ frM g g')) args s 0 0 (gFree B)) (F0 m 17 ls []) := by
      intro k_12
      induction k_12 with
      | zero => intro k hm; exact absurd hm (Nat.not_lt_zero _)
      | succ k_12 ih_lp_17_n_13 =>
        intro k hm hk hno H locs G ls hl
        refine g_iload_n C dX8_order_17 rfl hl 2 rfl ?_
        refine g_aload_n C dX8_order_18 rfl hl 0 rfl ?_
        refine g_get C G (pos := 192) fX8_order_35 (by omega) hc_3 rfl dX8_order_19 ?_
        refine g_icmp_ge (tgt := 82) C (by omega) (by omega) dX8_order_22 (by decide) (fun c_14 => ?_) (fun c_14 => ?_)
        · refine g_bipush (a := (-9)) C dX8_order_82 (by decide) ?_
          refine g_iret C G hr hlk (Nat.le_of_ble_eq_true rfl) (Nat.le_of_ble_eq_true rfl) dX8_order_84 ?_
          exact ⟨0, Or.inr ⟨rfl, by omega, Or.inr ⟨rfl, fun j j0 j1 => hno j j0 (by omega)⟩⟩, ⟨_, _, _, _, _, _, _, hc_3, hc_4, hc_5, hc_6, hc_7, hc_8, hc_9, hc_10, by omega, hMr, hinq⟩, fun q hq => ((congrFun hg_2 q).trans (gu_ne (by omega)))⟩
        · refine g_iconst (a := 0) C dX8_order_25 rfl ?_
          refine lv_istore_n (lv' := [(3, .int (iz 0)), (0, .ref (ad 192)), (1, .int (iz pl)), (2, .int (iz k))]) C.1.1 C.1.2.1 dX8_order_26 rfl hl (by decide) rfl (fun ls hl => ?_)
          refine g_iconst (a := 0) C dX8_order_27 rfl ?_
          refine lv_istore (lv' := [(4, .int (iz 0)), (3, .int (iz 0)), (0, .ref (ad 192)), (1, .int (iz pl)), (2, .int (iz k))]) C.1.1 C.1.2.1 dX8_order_28 hl (by decide) rfl (fun ls hl => ?_)
          have lp_30_n_16 : ∀ (k_15 : Nat) (ah : Int) (mm9 : Int), (ly - mm9).toNat < k_15 → (0 ≤ mm9 ∧ mm9 ≤ ly) → (0 ≤ ah ∧ ah ≤ mm9) → (ah = (fb_ct (fun k9 => dB ((k9 : Int) ≠ k ∧ CBf f (k9 : Int) k)) mm9.toNat : Int)) → ∀ (H : Heap) (locs : List Loc), gG κ B n ad s g_1 H locs → ∀ (ls : Array Slot), lv_has ls 5 [(0, .ref (ad 192)), (1, .int (iz pl)), (2, .int (iz k)), (3, .int (iz ah)), (4, .int (iz mm9))] → W p l e ({ frames := 4, cells := 0, slots := 0, locals := 88 }) s m args below meth c H locs 0 0 (MQ below (gQi κ B n ad (fun z g' => ∃ t9, ((t9 = 1 ∧ pl < 0) ∨ (t9 = 0 ∧ 0 ≤ pl ∧ isFirst (fun l9 => cutN ly f l9 = pl) ly z)) ∧ jkM κ ad g' ly t9 tx s0 s1 rm (mk + 1000) f X9 pa sv ∧ frM g g')) args s 0 0 (gFree B)) (F0 m 30 ls []) := by
            intro k_15
            induction k_15 with
            | zero => intro ah mm9 hm; exact absurd hm (Nat.not_lt_zero _)
            | succ k_15 ih_lp_30_n_16 =>
              intro ah mm9 hm hm hb hah H locs G ls hl
              refine g_iload C dX8_order_30 hl 4 rfl ?_
              refine g_aload_n C dX8_order_32 rfl hl 0 rfl ?_
              refine g_get C G (pos := 192) fX8_order_35 (by omega) hc_3 rfl dX8_order_33 ?_
              refine g_icmp_ge (tgt := 69) C (by omega) (by omega) dX8_order_36 (by decide) (fun c_17 => ?_) (fun c_17 => ?_)
              · have hcut : ah = cutN ly f k := by rw [hah, show mm9 = ly by omega]; rfl
                refine g_iload_n C dX8_order_69 rfl hl 3 rfl ?_
                refine g_iload_n C dX8_order_70 rfl hl 1 rfl ?_
                refine g_icmp_ne (tgt := 76) C (by omega) (by omega) dX8_order_71 (by decide) (fun c_18 => ?_) (fun c_18 => ?_)
                · refine lv_iinc (v := iz (k + 1)) (lv' := [(2, .int (iz (k + 1))), (0, .ref (ad 192)), (1, .int (iz pl)), (3, .int (iz ah)), (4, .int (iz mm9))]) C.1.1 C.1.2.1 dX8_order_76 hl (k := 2) rfl (g_inc (by omega)) (by decide) rfl (fun ls hl => ?_)
                  refine g_goto (tgt := 17) C dX8_order_79 (by decide) ?_
                  exact ih_lp_17_n_13 (k + 1) (by omega) (by omega) (fun j j0 j1 => by
                      by_cases hj : j = k
                      · rw [hj, ← hcut]; omega
                      · exact hno j j0 (by omega)) _ _ G _ (lv_sub hl [1, 2, 0] rfl)
                · refine g_iload_n C dX8_order_74 rfl hl 2 rfl ?_
                  refine g_iret C G hr hlk (Nat.le_of_ble_eq_true rfl) (Nat.le_of_ble_eq_true rfl) dX8_order_75 ?_
                  exact ⟨0, Or.inr ⟨rfl, by omega, Or.inl ⟨hk.1, by omega, by show cutN ly f k = pl; omega, hno⟩⟩, ⟨_, _, _, _, _, _, _, hc_3, hc_4, hc_5, hc_6, hc_7, hc_8, hc_9, hc_10, by omega, hMr, hinq⟩, fun q hq => ((congrFun hg_2 q).trans (gu_ne (by omega)))⟩
              · refine g_iload_n C dX8_order_39 rfl hl 3 rfl ?_
                refine g_iload C dX8_order_40 hl 4 rfl ?_
                refine g_iload_n C dX8_order_42 rfl hl 2 rfl ?_
                refine g_icmp_eq (tgt := 60) C (by omega) (by omega) dX8_order_43 (by decide) (fun c_19 => ?_) (fun c_19 => ?_)
                · refine g_iconst (a := 0) C dX8_order_60 rfl ?_
                  refine g_iadd C dX8_order_61 ?_
                  rw [show (ah + 0 : Int) = ah from (by omega)]
                  refine lv_istore_n (lv' := [(3, .int (iz ah)), (0, .ref (ad 192)), (1, .int (iz pl)), (2, .int (iz k)), (4, .int (iz mm9))]) C.1.1 C.1.2.1 dX8_order_62 rfl hl (by decide) rfl (fun ls hl => ?_)
                  refine lv_iinc (v := iz (mm9 + 1)) (lv' := [(4, .int (iz (mm9 + 1))), (3, .int (iz ah)), (0, .ref (ad 192)), (1, .int (iz pl)), (2, .int (iz k))]) C.1.1 C.1.2.1 dX8_order_63 hl (k := 4) rfl (g_inc (by omega)) (by decide) rfl (fun ls hl => ?_)
                  refine g_goto (tgt := 30) C dX8_order_66 (by decide) ?_
                  exact ih_lp_30_n_16 ah (mm9 + 1) (by omega) (by omega) (by omega) (ct_out (P := (fun k9 => k9 ≠ k ∧ CBf f k9 k)) hm.1 hah (fun q => q.1 (by omega))) _ _ G _ (lv_sub hl [2, 3, 4, 1, 0] rfl)
                · refine g_aload_n C dX8_order_46 rfl hl 0 rfl ?_
                  refine g_iload C dX8_order_47 hl 4 rfl ?_
                  refine g_iload_n C dX8_order_49 rfl hl 2 rfl ?_
                  refine g_ci C G (g_runV (As := [.int (iz mm9), .int (iz k)]) (rest := [.int (iz ah)]) (pos := 192) C G (c_X8_isAhead l κ B n ad g_1 ly 0 mk tx rl a0 wr s0 s1 rm f mm9 k hn8 hc_3 hc_4 hok (by omega) (by omega)) (cwV 2 C.1.2.2.2.2 gX8_order_X8_isAhead rfl rfl rfl (by decide +kernel) ⟨Nat.le_of_ble_eq_true rfl, Nat.le_of_ble_eq_true rfl⟩) (by omega) hc_3 (T := TX8) (N := 17) rfl rfl hl rfl (Nat.le_of_ble_eq_true rfl) dX8_order_50 ⟨Nat.le_of_ble_eq_true rfl, Nat.le_of_ble_eq_true rfl⟩) (fun z_21 g9 H locs hw G => ?_)
                  obtain ⟨hg9, hw⟩ := hw
                  replace hg9 := hg9.symm
                  subst hg9
                  rcases hw with ⟨b_20, rfl⟩ | ⟨b_20, rfl⟩
                  · refine g_if_eq (tgt := 60) C (by decide) dX8_order_53 (by decide) (fun c9 => absurd c9 (by decide)) (fun _ => ?_)
                    refine g_iconst (a := 1) C dX8_order_56 rfl ?_
                    refine g_goto (tgt := 61) C dX8_order_57 (by decide) ?_
                    refine g_iadd C dX8_order_61 ?_
                    refine lv_istore_n (lv' := [(3, .int (iz (ah + 1))), (0, .ref (ad 192)), (1, .int (iz pl)), (2, .int (iz k)), (4, .int (iz mm9))]) C.1.1 C.1.2.1 dX8_order_62 rfl hl (by decide) rfl (fun ls hl => ?_)
                    refine lv_iinc (v := iz (mm9 + 1)) (lv' := [(4, .int (iz (mm9 + 1))), (3, .int (iz (ah + 1))), (0, .ref (ad 192)), (1, .int (iz pl)), (2, .int (iz k))]) C.1.1 C.1.2.1 dX8_order_63 hl (k := 4) rfl (g_inc (by omega)) (by decide) rfl (fun ls hl => ?_)
                    refine g_goto (tgt := 30) C dX8_order_66 (by decide) ?_
                    exact ih_lp_30_n_16 (ah + 1) (mm9 + 1) (by omega) (by omega) (by omega) (ct_in (P := (fun k9 => k9 ≠ k ∧ CBf f k9 k)) hm.1 hah ⟨by omega, b_20⟩) _ _ G _ (lv_sub hl [2, 3, 4, 1, 0] rfl)
                  · refine g_if_eq (tgt := 60) C (by decide) dX8_order_53 (by decide) (fun _ => ?_) (fun c9 => absurd c9 (by decide))
                    refine g_iconst (a := 0) C dX8_order_60 rfl ?_
                    refine g_iadd C dX8_order_61 ?_
                    rw [show (ah + 0 : Int) = ah from (by omega)]
                    refine lv_istore_n (lv' := [(3, .int (iz ah)), (0, .ref (ad 192)), (1, .int (iz pl)), (2, .int (iz k)), (4, .int (iz mm9))]) C.1.1 C.1.2.1 dX8_order_62 rfl hl (by decide) rfl (fun ls hl => ?_)
                    refine lv_iinc (v := iz (mm9 + 1)) (lv' := [(4, .int (iz (mm9 + 1))), (3, .int (iz ah)), (0, .ref (ad 192)), (1, .int (iz pl)), (2, .int (iz k))]) C.1.1 C.1.2.1 dX8_order_63 hl (k := 4) rfl (g_inc (by omega)) (by decide) rfl (fun ls hl => ?_)
                    refine g_goto (tgt := 30) C dX8_order_66 (by decide) ?_
                    exact ih_lp_30_n_16 ah (mm9 + 1) (by omega) (by omega) (by omega) (ct_out (P := (fun k9 => k9 ≠ k ∧ CBf f k9 k)) hm.1 hah (fun q => b_20 q.2)) _ _ G _ (lv_sub hl [2, 3, 4, 1, 0] rfl)
          exact lp_30_n_16 _ 0 0 (Nat.lt_succ_self _) (by omega) (by omega) rfl _ _ G _ (lv_sub hl [2, 3, 4, 1, 0] rfl)
    exact lp_17_n_13 _ 0 (Nat.lt_succ_self _) (by omega) (fun j j0 j1 => absurd j1 (by omega)) _ _ G _ (lv_sub hl [1, 2, 0] rfl)
  · refine g_aload_n C dX8_order_9 rfl hl 0 rfl ?_
    refine g_iconst (a := 1) C dX8_order_10 rfl ?_
    refine g_ci C G (g_runV (As := [.int (iz 1)]) (rest := []) (pos := 192) C G (c_X8_refused l κ B n ad g_1 ly 0 mk tx rl a0 wr s0 s1 rm 1 hn8 hc_3) (cwV 1 C.1.2.2.2.2 gX8_order_X8_refused rfl rfl rfl (by decide +kernel) ⟨Nat.le_of_ble_eq_true rfl, Nat.le_of_ble_eq_true rfl⟩) (by omega) hc_3 (T := TX8) (N := 17) rfl rfl hl rfl (Nat.le_of_ble_eq_true rfl) dX8_order_11 ⟨Nat.le_of_ble_eq_true rfl, Nat.le_of_ble_eq_true rfl⟩) (fun z_22 g9 H locs hw G => ?_)
    obtain ⟨hw, h_23⟩ := hw
    subst hw
    obtain ⟨g_24, hg_25⟩ : ∃ g9, g9 = va_up g_1 192 (.inr (8, [.ref (ad 193), .int (iz ly), .int (iz 1), .ref (ad 194), .int (iz mk), .ref (ad 195), .int (iz tx), .ref (ad 196), .int (iz rl), .int (iz a0), .int (iz wr), .int (iz s0), .int (iz s1), .ref (ad 197), .int (iz rm), .ref (ad 198), .ref (ad 199)])) := ⟨_, rfl⟩
    rw [← hg_25] at G
    have hc_26 : g_24 192 = .inr (8, [.ref (ad 193), .int (iz ly), .int (iz 1), .ref (ad 194), .int (iz mk), .ref (ad 195), .int (iz tx), .ref (ad 196), .int (iz rl), .int (iz a0), .int (iz wr), .int (iz s0), .int (iz s1), .ref (ad 197), .int (iz rm), .ref (ad 198), .ref (ad 199)]) := by rw [hg_25]; exact gu_self _ _ _
    have hc_27 : g_24 193 = aI κ 42 f := by rw [hg_25, gu_ne (by decide)]; exact hc_4
    have hc_28 : g_24 194 = aI κ 28896 M9 := by rw [hg_25, gu_ne (by decide)]; exact hc_5
    have hc_29 : g_24 195 = aI κ 100 X9 := by rw [hg_25, gu_ne (by decide)]; exact hc_6
    have hc_30 : g_24 196 = aI κ 42 q9 := by rw [hg_25, gu_ne (by decide)]; exact hc_7
    have hc_31 : g_24 197 = aI κ 602 pa := by rw [hg_25, gu_ne (by decide)]; exact hc_8
    have hc_32 : g_24 198 = aI κ 43 be := by rw [hg_25, gu_ne (by decide)]; exact hc_9
    have hc_33 : g_24 199 = aI κ 86 sv := by rw [hg_25, gu_ne (by decide)]; exact hc_10
    refine g_iret C G hr hlk (Nat.le_of_ble_eq_true rfl) (Nat.le_of_ble_eq_true rfl) dX8_order_14 ?_
    exact ⟨1, Or.inl ⟨rfl, by omega⟩, ⟨_, _, _, _, _, _, _, hc_26, hc_27, hc_28, hc_29, hc_30, hc_31, hc_32, hc_33, by omega, hMr, hinq⟩, fun q hq => (((congrFun hg_25 q).trans (gu_ne (by omega))).trans ((congrFun hg_2 q).trans (gu_ne (by omega))))⟩
theorem fwX8_sighting_31 : gFldW wsX8_sighting RX8 31 8 2 .int false := ⟨RX8, TX8, 17, tyX8, rfl, by decide, by decide +kernel, by decide +kernel, tyX8_ok, nmX8, rfl, by decide +kernel, by decide +kernel⟩
theorem fX8_sighting_7 : gFld wsX8_sighting RX8 7 8 0 := ⟨RX8, TX8, 17, rfl, by decide, by decide +kernel, by decide +kernel⟩
theorem fX8_sighting_35 : gFld wsX8_sighting RX8 35 8 1 := ⟨RX8, TX8, 17, rfl, by decide, by decide +kernel, by decide +kernel⟩
set_option maxHeartbeats 4000000 in
set_option maxRecDepth 100000 in
theorem c_X8_sighting (l : Launch) (κ : gKap) (B n : Nat) (ad : Nat → Nat) (g : Nat → va_E) (ly : Int) (th : Int) (mk : Int) (tx : Int) (rl : Int) (a0 : Int) (wr : Int) (s0 : Int) (s1 : Int) (rm : Int) (f : Int → Int) (M9 : Int → Int) (X9 : Int → Int) (q9 : Int → Int) (pa : Int → Int) (be : Int → Int) (sv : Int → Int) (i : Int) (wh : Int) (hn8 : 200 ≤ n) (hM : g 192 = oM ad ly th mk tx rl a0 wr s0 s1 rm) (hN : g 193 = aI κ 42 f) (hK : g 194 = aI κ 28896 M9) (hT : g 195 = aI κ 100 X9) (hRd : g 196 = aI κ 42 q9) (hPa : g 197 = aI κ 602 pa) (hBe : g 198 = aI κ 43 be) (hSv : g 199 = aI κ 86 sv) (hok : okPl ly f) (hmk : 0 ≤ mk ∧ mk ≤ 800000000) (hMr : ∀ i, 0 ≤ i → i < 28896 → 0 ≤ M9 i ∧ M9 i ≤ mk) (hinq : inV q9) (hi : inI i) (hwh : inI wh) : Met l yX8_sighting wsX8_sighting ({ frames := 4, cells := 0, slots := 0, locals := 98 }) (gPre κ B n ad g [.ref (ad 192), .int (iz i), .int (iz wh)]) (gQi κ B n ad (fun z g' => ∃ t9, ((t9 = 1 ∧ ¬ (0 ≤ i ∧ i < f 25)) ∨ (t9 = 2 ∧ (0 ≤ i ∧ i < f 25) ∧ ¬ (0 ≤ wh ∧ wh ≤ 2)) ∨ (t9 = 0 ∧ (0 ≤ i ∧ i < f 25) ∧ ((wh = 0 ∧ z = f (26 + 2 * i)) ∨ (wh = 1 ∧ z = f (27 + 2 * i)) ∨ (wh = 2 ∧ z = thrN ly f (f (26 + 2 * i)) (f (27 + 2 * i)))))) ∧ jkM κ ad g' ly t9 tx s0 s1 rm (mk + 1000) f X9 pa sv ∧ frM g g')) 0 0 (gFree B) := by
  refine g_met RX8 (cc := cX8_sighting) (maxL := 7) (ret := (some .int)) (by decide) rfl rfl (Nat.le_of_ble_eq_true rfl) ?_
  intro p e s m args below meth c C hr hlk hnm G ls hl
  have hl : lv_has ls 7 [(0, .ref (ad 192)), (1, .int (iz i)), (2, .int (iz wh))] := hl
  obtain ⟨hn6, hv0, hv25, hlay, hsee⟩ := id hok
  refine g_aload_n C dX8_sighting_0 rfl hl 0 rfl ?_
  refine g_iconst (a := 0) C dX8_sighting_1 rfl ?_
  refine g_put C G (pos := 192) (fs' := [.ref (ad 193), .int (iz ly), .int (iz 0), .ref (ad 194), .int (iz mk), .ref (ad 195), .int (iz tx), .ref (ad 196), .int (iz rl), .int (iz a0), .int (iz wr), .int (iz s0), .int (iz s1), .ref (ad 197), .int (iz rm), .ref (ad 198), .ref (ad 199)]) fwX8_sighting_31 (by omega) hM (Nat.le_of_ble_eq_true rfl) rfl rfl rfl dX8_sighting_2 (fun H locs G => ?_)
  obtain ⟨g_1, hg_2⟩ : ∃ g9, g9 = va_up g 192 (.inr (8, [.ref (ad 193), .int (iz ly), .int (iz 0), .ref (ad 194), .int (iz mk), .ref (ad 195), .int (iz tx), .ref (ad 196), .int (iz rl), .int (iz a0), .int (iz wr), .int (iz s0), .int (iz s1), .ref (ad 197), .int (iz rm), .ref (ad 198), .ref (ad 199)])) := ⟨_, rfl⟩
  rw [← hg_2] at G
  have hc_3 : g_1 192 = .inr (8, [.ref (ad 193), .int (iz ly), .int (iz 0), .ref (ad 194), .int (iz mk), .ref (ad 195), .int (iz tx), .ref (ad 196), .int (iz rl), .int (iz a0), .int (iz wr), .int (iz s0), .int (iz s1), .ref (ad 197), .int (iz rm), .ref (ad 198), .ref (ad 199)]) := by rw [hg_2]; exact gu_self _ _ _
  have hc_4 : g_1 193 = aI κ 42 f := by rw [hg_2, gu_ne (by decide)]; exact hN
  have hc_5 : g_1 194 = aI κ 28896 M9 := by rw [hg_2, gu_ne (by decide)]; exact hK
  have hc_6 : g_1 195 = aI κ 100 X9 := by rw [hg_2, gu_ne (by decide)]; exact hT
  have hc_7 : g_1 196 = aI κ 42 q9 := by rw [hg_2, gu_ne (by decide)]; exact hRd
  have hc_8 : g_1 197 = aI κ 602 pa := by rw [hg_2, gu_ne (by decide)]; exact hPa
  have hc_9 : g_1 198 = aI κ 43 be := by rw [hg_2, gu_ne (by decide)]; exact hBe
  have hc_10 : g_1 199 = aI κ 86 sv := by rw [hg_2, gu_ne (by decide)]; exact hSv
  refine g_iload_n C dX8_sighting_5 rfl hl 1 rfl ?_
  refine g_i2l C (by omega) dX8_sighting_6 ?_
  refine g_lconst (a := 0) C dX8_sighting_7 (by decide) ?_
  refine g_aload_n C dX8_sighting_8 rfl hl 0 rfl ?_
  refine g_get C G (pos := 192) fX8_sighting_7 (by omega) hc_3 rfl dX8_sighting_9 ?_
  refine g_bipush (a := 25) C dX8_sighting_12 (by decide) ?_
  refine g_iaload C G (pos := 193) (by omega) hc_4 (by omega) (by omega) (by omega) dX8_sighting_14 ?_
  refine g_iconst (a := 1) C dX8_sighting_15 rfl ?_
  refine g_isub C dX8_sighting_16 ?_
  refine g_i2l C (by omega) dX8_sighting_17 ?_
  refine g_ci C G (g_runS (As := [.long (jz i), .long (jz 0), .long (jz ((f 25) - 1))]) (rest := []) C G (c_X8_in l κ B n ad g_1 i 0 ((f 25) - 1) (by omega) (by omega) (by omega)) (va_cwS 3 C.1.2.2.2.2 gX8_sighting_X8_in rfl rfl rfl (by decide +kernel) ⟨Nat.le_of_ble_eq_true rfl, Nat.le_of_ble_eq_true rfl⟩) rfl hl rfl (Nat.le_of_ble_eq_true rfl) dX8_sighting_18 ⟨Nat.le_of_ble_eq_true rfl, Nat.le_of_ble_eq_true rfl⟩) (fun z_12 g9 H locs hw G => ?_)
  obtain ⟨hg9, hw⟩ := hw
  replace hg9 := hg9.symm
  subst hg9
  rcases hw with ⟨b_11, rfl⟩ | ⟨b_11, rfl⟩
  · refine g_if_ne (tgt := 30) C (by decide) dX8_sighting_21 (by decide) (fun _ => ?_) (fun c9 => absurd c9 (by decide))
    refine g_iload_n C dX8_sighting_30 rfl hl 2 rfl ?_
    refine g_i2l C (by omega) dX8_sighting_31 ?_
    refine g_lconst (a := 0) C dX8_sighting_32 (by decide) ?_
    refine g_ldc2 (a := 2) C (by decide +kernel) dX8_sighting_33 ?_
    refine g_ci C G (g_runS (As := [.long (jz wh), .long (jz 0), .long (jz 2)]) (rest := []) C G (c_X8_in l κ B n ad g_1 wh 0 2 (by omega) (by omega) (by omega)) (va_cwS 3 C.1.2.2.2.2 gX8_sighting_X8_in rfl rfl rfl (by decide +kernel) ⟨Nat.le_of_ble_eq_true rfl, Nat.le_of_ble_eq_true rfl⟩) rfl hl rfl (Nat.le_of_ble_eq_true rfl) dX8_sighting_36 ⟨Nat.le_of_ble_eq_true rfl, Nat.le_of_ble_eq_true rfl⟩) (fun z_14 g9 H locs hw G => ?_)
    obtain ⟨hg9, hw⟩ := hw
    replace hg9 := hg9.symm
    subst hg9
    rcases hw with ⟨b_13, rfl⟩ | ⟨b_13, rfl⟩
    · refine g_if_ne (tgt := 48) C (by decide) dX8_sighting_39 (by decide) (fun _ => ?_) (fun c9 => absurd c9 (by decide))
      refine g_aload_n C dX8_sighting_48 rfl hl 0 rfl ?_
      refine g_get C G (pos := 192) fX8_sighting_7 (by omega) hc_3 rfl dX8_sighting_49 ?_
      refine g_bipush (a := 26) C dX8_sighting_52 (by decide) ?_
      refine g_iconst (a := 2) C dX8_sighting_54 rfl ?_
      refine g_iload_n C dX8_sighting_55 rfl hl 1 rfl ?_
      refine g_imul C dX8_sighting_56 ?_
      refine g_iadd C dX8_sighting_57 ?_
      refine g_iaload C G (pos := 193) (by omega) hc_4 (by omega) (by omega) (by omega) dX8_sighting_58 ?_
      refine lv_istore_n (lv' := [(3, .int (iz (f (26 + (2 * i))))), (0, .ref (ad 192)), (1, .int (iz i)), (2, .int (iz wh))]) C.1.1 C.1.2.1 dX8_sighting_59 rfl hl (by decide) rfl (fun ls hl => ?_)
      refine g_aload_n C dX8_sighting_60 rfl hl 1 rfl ?_
      refine g_get C G (pos := 192) fX8_sighting_7 (by omega) hc_3 rfl dX8_sighting_61 ?_
      refine g_bipush (a := 27) C dX8_sighting_64 (by decide) ?_
      refine g_iconst (a := 2) C dX8_sighting_66 rfl ?_
      refine g_iload_n C dX8_sighting_67 rfl hl 2 rfl ?_
      refine g_imul C dX8_sighting_68 ?_
      refine g_iadd C dX8_sighting_69 ?_
      have hse := hsee i (by omega) (by omega)
      refine g_iaload C G (pos := 193) (by omega) hc_4 (by omega) (by omega) (by omega) dX8_sighting_70 ?_
      refine lv_istore (lv' := [(4, .int (iz (f (27 + (2 * i))))), (3, .int (iz (f (26 + (2 * i))))), (0, .ref (ad 192)), (1, .int (iz i)), (2, .int (iz wh))]) C.1.1 C.1.2.1 dX8_sighting_71 hl (by decide) rfl (fun ls hl => ?_)
      refine g_iconst (a := 0) C dX8_sighting_73 rfl ?_
      refine lv_istore (lv' := [(5, .int (iz 0)), (4, .int (iz (f (27 + (2 * i))))), (3, .int (iz (f (26 + (2 * i))))), (0, .ref (ad 192)), (1, .int (iz i)), (2, .int (iz wh))]) C.1.1 C.1.2.1 dX8_sighting_74 hl (by decide) rfl (fun ls hl => ?_)
      refine g_iconst (a := 0) C dX8_sighting_76 rfl ?_
      refine lv_istore (lv' := [(6, .int (iz 0)), (5, .int (iz 0)), (4, .int (iz (f (27 + (2 * i))))), (3, .int (iz (f (26 + (2 * i))))), (0, .ref (ad 192)), (1, .int (iz i)), (2, .int (iz wh))]) C.1.1 C.1.2.1 dX8_sighting_77 hl (by decide) rfl (fun ls hl => ?_)
      have lp_79_n_16 : ∀ (k_15 : Nat) (nu : Int) (k : Int), (ly - k).toNat < k_15 → (0 ≤ k ∧ k ≤ ly) → (0 ≤ nu ∧ nu ≤ k) → (nu = (fb_ct (fun l => dB (PTl f (l : Int) (f (26 + 2 * i)) (f (27 + 2 * i)))) k.toNat : Int)) → ∀ (H : Heap) (locs : List Loc), gG κ B n ad s g_1 H locs → ∀ (ls : Array Slot), lv_has ls 7 [(0, .ref (ad 192)), (1, .int (iz i)), (2, .int (iz wh)), (3, .int (iz (f (26 + (2 * i))))), (4, .int (iz (f (27 + (2 * i))))), (5, .int (iz nu)), (6, .int (iz k))] → W p l e ({ frames := 4, cells := 0, slots := 0, locals := 98 }) s m args below meth c H locs 0 0 (MQ below (gQi κ B n ad (fun z g' => ∃ t9, ((t9 = 1 ∧ ¬ (0 ≤ i ∧ i < f 25)) ∨ (t9 = 2 ∧ (0 ≤ i ∧ i < f 25) ∧ ¬ (0 ≤ wh ∧ wh ≤ 2)) ∨ (t9 = 0 ∧ (0 ≤ i ∧ i < f 25) ∧ ((wh = 0 ∧ z = f (26 + 2 * i)) ∨ (wh = 1 ∧ z = f (27 + 2 * i)) ∨ (wh = 2 ∧ z = thrN ly f (f (26 + 2 * i)) (f (27 + 2 * i)))))) ∧ jkM κ ad g' ly t9 tx s0 s1 rm (mk + 1000) f X9 pa sv ∧ frM g g')) args s 0 0 (gFree B)) (F0 m 79 ls []) := by
        intro k_15
        induction k_15 with
        | zero => intro nu k hm; exact absurd hm (Nat.not_lt_zero _)
        | succ k_15 ih_lp_79_n_16 =>
          intro nu k hm hk hb hnu H locs G ls hl
          refine g_iload C dX8_sighting_79 hl 6 rfl ?_
          refine g_aload_n C dX8_sighting_81 rfl hl 0 rfl ?_
          refine g_get C G (pos := 192) fX8_sighting_35 (by omega) hc_3 rfl dX8_sighting_82 ?_
          refine g_icmp_ge (tgt := 116) C (by omega) (by omega) dX8_sighting_85 (by decide) (fun c_17 => ?_) (fun c_17 => ?_)
          · refine g_iload_n C dX8_sighting_116 rfl hl 2 rfl ?_
            refine g_if_ne (tgt := 124) C (by omega) dX8_sighting_117 (by decide) (fun c_18 => ?_) (fun c_18 => ?_)
            · refine g_iload_n C dX8_sighting_124 rfl hl 2 rfl ?_
              refine g_iconst (a := 1) C dX8_sighting_125 rfl ?_
              refine g_icmp_ne (tgt := 134) C (by omega) (by decide) dX8_sighting_126 (by decide) (fun c_19 => ?_) (fun c_19 => ?_)
              · refine g_iload C dX8_sighting_134 hl 5 rfl ?_
                refine g_iret C G hr hlk (Nat.le_of_ble_eq_true rfl) (Nat.le_of_ble_eq_true rfl) dX8_sighting_136 ?_
                exact ⟨0, Or.inr (Or.inr ⟨rfl, by omega, Or.inr (Or.inr (⟨by omega, (by rw [hnu, show k = ly by omega]; rfl)⟩))⟩), ⟨_, _, _, _, _, _, _, hc_3, hc_4, hc_5, hc_6, hc_7, hc_8, hc_9, hc_10, by omega, hMr, hinq⟩, fun q hq => ((congrFun hg_2 q).trans (gu_ne (by omega)))⟩
              · refine g_iload C dX8_sighting_129 hl 4 rfl ?_
                refine g_goto (tgt := 136) C dX8_sighting_131 (by decide) ?_
                refine g_iret C G hr hlk (Nat.le_of_ble_eq_true rfl) (Nat.le_of_ble_eq_true rfl) dX8_sighting_136 ?_
                exact ⟨0, Or.inr (Or.inr ⟨rfl, by omega, Or.inr (Or.inl ⟨by omega, rfl⟩)⟩), ⟨_, _, _, _, _, _, _, hc_3, hc_4, hc_5, hc_6, hc_7, hc_8, hc_9, hc_10, by omega, hMr, hinq⟩, fun q hq => ((congrFun hg_2 q).trans (gu_ne (by omega)))⟩
            · refine g_iload_n C dX8_sighting_120 rfl hl 3 rfl ?_
              refine g_goto (tgt := 136) C dX8_sighting_121 (by decide) ?_
              refine g_iret C G hr hlk (Nat.le_of_ble_eq_true rfl) (Nat.le_of_ble_eq_true rfl) dX8_sighting_136 ?_
              exact ⟨0, Or.inr (Or.inr ⟨rfl, by omega, Or.inl ⟨by omega, rfl⟩⟩), ⟨_, _, _, _, _, _, _, hc_3, hc_4, hc_5, hc_6, hc_7, hc_8, hc_9, hc_10, by omega, hMr, hinq⟩, fun q hq => ((congrFun hg_2 q).trans (gu_ne (by omega)))⟩
          · refine g_iload C dX8_sighting_88 hl 5 rfl ?_
            refine g_aload_n C dX8_sighting_90 rfl hl 0 rfl ?_
            refine g_iload C dX8_sighting_91 hl 6 rfl ?_
            refine g_iload_n C dX8_sighting_93 rfl hl 3 rfl ?_
            refine g_iload C dX8_sighting_94 hl 4 rfl ?_
            refine g_ci C G (g_runV (As := [.int (iz k), .int (iz (f (26 + (2 * i)))), .int (iz (f (27 + (2 * i))))]) (rest := [.int (iz nu)]) (pos := 192) C G (c_X8_comesTo l κ B n ad g_1 ly 0 mk tx rl a0 wr s0 s1 rm f k (f (26 + (2 * i))) (f (27 + (2 * i))) hn8 hc_3 hc_4 hok (by omega) (by omega) (by omega)) (cwV 3 C.1.2.2.2.2 gX8_sighting_X8_comesTo rfl rfl rfl (by decide +kernel) ⟨Nat.le_of_ble_eq_true rfl, Nat.le_of_ble_eq_true rfl⟩) (by omega) hc_3 (T := TX8) (N := 17) rfl rfl hl rfl (Nat.le_of_ble_eq_true rfl) dX8_sighting_96 ⟨Nat.le_of_ble_eq_true rfl, Nat.le_of_ble_eq_true rfl⟩) (fun z_20 g9 H locs hw G => ?_)
            obtain ⟨hg9, h_21⟩ := hw
            replace hg9 := hg9.symm
            subst hg9
            have hrg9 := h_21.pt.2
            have hla := hlay k (by omega) (by omega)
            have hpd := pd_range (ring := f 0) (w := f (4 * k + 1)) hv0 (by omega) (by omega)
            have hrg8 := h_21.rg
            refine g_if_lt (tgt := 106) C (by omega) dX8_sighting_99 (by decide) (fun c_22 => ?_) (fun c_22 => ?_)
            · refine g_iconst (a := 0) C dX8_sighting_106 rfl ?_
              refine g_iadd C dX8_sighting_107 ?_
              rw [show (nu + 0 : Int) = nu from (by omega)]
              refine lv_istore (lv' := [(5, .int (iz nu)), (0, .ref (ad 192)), (1, .int (iz i)), (2, .int (iz wh)), (3, .int (iz (f (26 + (2 * i))))), (4, .int (iz (f (27 + (2 * i))))), (6, .int (iz k))]) C.1.1 C.1.2.1 dX8_sighting_108 hl (by decide) rfl (fun ls hl => ?_)
              refine lv_iinc (v := iz (k + 1)) (lv' := [(6, .int (iz (k + 1))), (5, .int (iz nu)), (0, .ref (ad 192)), (1, .int (iz i)), (2, .int (iz wh)), (3, .int (iz (f (26 + (2 * i))))), (4, .int (iz (f (27 + (2 * i)))))]) C.1.1 C.1.2.1 dX8_sighting_110 hl (k := 6) rfl (g_inc (by omega)) (by decide) rfl (fun ls hl => ?_)
              refine g_goto (tgt := 79) C dX8_sighting_113 (by decide) ?_
              exact ih_lp_79_n_16 nu (k + 1) (by omega) (by omega) (by omega) (ct_out (P := (fun l9 => PTl f l9 (f (26 + 2 * i)) (f (27 + 2 * i)))) hk.1 hnu (h_21.pt.1.mp (by omega))) _ _ G _ (lv_sub hl [2, 3, 4, 5, 6, 1, 0] rfl)
            · refine g_iconst (a := 1) C dX8_sighting_102 rfl ?_
              refine g_goto (tgt := 107) C dX8_sighting_103 (by decide) ?_
              refine g_iadd C dX8_sighting_107 ?_
              refine lv_istore (lv' := [(5, .int (iz (nu + 1))), (0, .ref (ad 192)), (1, .int (iz i)), (2, .int (iz wh)), (3, .int (iz (f (26 + (2 * i))))), (4, .int (iz (f (27 + (2 * i))))), (6, .int (iz k))]) C.1.1 C.1.2.1 dX8_sighting_108 hl (by decide) rfl (fun ls hl => ?_)
              refine lv_iinc (v := iz (k + 1)) (lv' := [(6, .int (iz (k + 1))), (5, .int (iz (nu + 1))), (0, .ref (ad 192)), (1, .int (iz i)), (2, .int (iz wh)), (3, .int (iz (f (26 + (2 * i))))), (4, .int (iz (f (27 + (2 * i)))))]) C.1.1 C.1.2.1 dX8_sighting_110 hl (k := 6) rfl (g_inc (by omega)) (by decide) rfl (fun ls hl => ?_)
              refine g_goto (tgt := 79) C dX8_sighting_113 (by decide) ?_
              exact ih_lp_79_n_16 (nu + 1) (k + 1) (by omega) (by omega) (by omega) (ct_in (P := (fun l9 => PTl f l9 (f (26 + 2 * i)) (f (27 + 2 * i)))) hk.1 hnu (Classical.byContradiction (fun q => absurd (h_21.pt.1.mpr q) (by omega)))) _ _ G _ (lv_sub hl [2, 3, 4, 5, 6, 1, 0] rfl)
      exact lp_79_n_16 _ 0 0 (Nat.lt_succ_self _) (by omega) (by omega) rfl _ _ G _ (lv_sub hl [4, 5, 6, 3, 2, 1, 0] rfl)
    · refine g_if_ne (tgt := 48) C (by decide) dX8_sighting_39 (by decide) (fun c9 => absurd c9 (by decide)) (fun _ => ?_)
      refine g_aload_n C dX8_sighting_42 rfl hl 0 rfl ?_
      refine g_iconst (a := 2) C dX8_sighting_43 rfl ?_
      refine g_ci C G (g_runV (As := [.int (iz 2)]) (rest := []) (pos := 192) C G (c_X8_refused l κ B n ad g_1 ly 0 mk tx rl a0 wr s0 s1 rm 2 hn8 hc_3) (cwV 1 C.1.2.2.2.2 gX8_sighting_X8_refused rfl rfl rfl (by decide +kernel) ⟨Nat.le_of_ble_eq_true rfl, Nat.le_of_ble_eq_true rfl⟩) (by omega) hc_3 (T := TX8) (N := 17) rfl rfl hl rfl (Nat.le_of_ble_eq_true rfl) dX8_sighting_44 ⟨Nat.le_of_ble_eq_true rfl, Nat.le_of_ble_eq_true rfl⟩) (fun z_23 g9 H locs hw G => ?_)
      obtain ⟨hw, h_24⟩ := hw
      subst hw
      obtain ⟨g_25, hg_26⟩ : ∃ g9, g9 = va_up g_1 192 (.inr (8, [.ref (ad 193), .int (iz ly), .int (iz 2), .ref (ad 194), .int (iz mk), .ref (ad 195), .int (iz tx), .ref (ad 196), .int (iz rl), .int (iz a0), .int (iz wr), .int (iz s0), .int (iz s1), .ref (ad 197), .int (iz rm), .ref (ad 198), .ref (ad 199)])) := ⟨_, rfl⟩
      rw [← hg_26] at G
      have hc_27 : g_25 192 = .inr (8, [.ref (ad 193), .int (iz ly), .int (iz 2), .ref (ad 194), .int (iz mk), .ref (ad 195), .int (iz tx), .ref (ad 196), .int (iz rl), .int (iz a0), .int (iz wr), .int (iz s0), .int (iz s1), .ref (ad 197), .int (iz rm), .ref (ad 198), .ref (ad 199)]) := by rw [hg_26]; exact gu_self _ _ _
      have hc_28 : g_25 193 = aI κ 42 f := by rw [hg_26, gu_ne (by decide)]; exact hc_4
      have hc_29 : g_25 194 = aI κ 28896 M9 := by rw [hg_26, gu_ne (by decide)]; exact hc_5
      have hc_30 : g_25 195 = aI κ 100 X9 := by rw [hg_26, gu_ne (by decide)]; exact hc_6
      have hc_31 : g_25 196 = aI κ 42 q9 := by rw [hg_26, gu_ne (by decide)]; exact hc_7
      have hc_32 : g_25 197 = aI κ 602 pa := by rw [hg_26, gu_ne (by decide)]; exact hc_8
      have hc_33 : g_25 198 = aI κ 43 be := by rw [hg_26, gu_ne (by decide)]; exact hc_9
      have hc_34 : g_25 199 = aI κ 86 sv := by rw [hg_26, gu_ne (by decide)]; exact hc_10
      refine g_iret C G hr hlk (Nat.le_of_ble_eq_true rfl) (Nat.le_of_ble_eq_true rfl) dX8_sighting_47 ?_
      exact ⟨2, Or.inr (Or.inl ⟨rfl, by omega, by omega⟩), ⟨_, _, _, _, _, _, _, hc_27, hc_28, hc_29, hc_30, hc_31, hc_32, hc_33, hc_34, by omega, hMr, hinq⟩, fun q hq => (((congrFun hg_26 q).trans (gu_ne (by omega))).trans ((congrFun hg_2 q).trans (gu_ne (by omega))))⟩
  · refine g_if_ne (tgt := 30) C (by decide) dX8_sighting_21 (by decide) (fun c9 => absurd c9 (by decide)) (fun _ => ?_)
    refine g_aload_n C dX8_sighting_24 rfl hl 0 rfl ?_
    refine g_iconst (a := 1) C dX8_sighting_25 rfl ?_
    refine g_ci C G (g_runV (As := [.int (iz 1)]) (rest := []) (pos := 192) C G (c_X8_refused l κ B n ad g_1 ly 0 mk tx rl a0 wr s0 s1 rm 1 hn8 hc_3) (cwV 1 C.1.2.2.2.2 gX8_sighting_X8_refused rfl rfl rfl (by decide +kernel) ⟨Nat.le_of_ble_eq_true rfl, Nat.le_of_ble_eq_true rfl⟩) (by omega) hc_3 (T := TX8) (N := 17) rfl rfl hl rfl (Nat.le_of_ble_eq_true rfl) dX8_sighting_26 ⟨Nat.le_of_ble_eq_true rfl, Nat.le_of_ble_eq_true rfl⟩) (fun z_35 g9 H locs hw G => ?_)
    obtain ⟨hw, h_36⟩ := hw
    subst hw
    obtain ⟨g_37, hg_38⟩ : ∃ g9, g9 = va_up g_1 192 (.inr (8, [.ref (ad 193), .int (iz ly), .int (iz 1), .ref (ad 194), .int (iz mk), .ref (ad 195), .int (iz tx), .ref (ad 196), .int (iz rl), .int (iz a0), .int (iz wr), .int (iz s0), .int (iz s1), .ref (ad 197), .int (iz rm), .ref (ad 198), .ref (ad 199)])) := ⟨_, rfl⟩
    rw [← hg_38] at G
    have hc_39 : g_37 192 = .inr (8, [.ref (ad 193), .int (iz ly), .int (iz 1), .ref (ad 194), .int (iz mk), .ref (ad 195), .int (iz tx), .ref (ad 196), .int (iz rl), .int (iz a0), .int (iz wr), .int (iz s0), .int (iz s1), .ref (ad 197), .int (iz rm), .ref (ad 198), .ref (ad 199)]) := by rw [hg_38]; exact gu_self _ _ _
    have hc_40 : g_37 193 = aI κ 42 f := by rw [hg_38, gu_ne (by decide)]; exact hc_4
    have hc_41 : g_37 194 = aI κ 28896 M9 := by rw [hg_38, gu_ne (by decide)]; exact hc_5
    have hc_42 : g_37 195 = aI κ 100 X9 := by rw [hg_38, gu_ne (by decide)]; exact hc_6
    have hc_43 : g_37 196 = aI κ 42 q9 := by rw [hg_38, gu_ne (by decide)]; exact hc_7
    have hc_44 : g_37 197 = aI κ 602 pa := by rw [hg_38, gu_ne (by decide)]; exact hc_8
    have hc_45 : g_37 198 = aI κ 43 be := by rw [hg_38, gu_ne (by decide)]; exact hc_9
    have hc_46 : g_37 199 = aI κ 86 sv := by rw [hg_38, gu_ne (by decide)]; exact hc_10
    refine g_iret C G hr hlk (Nat.le_of_ble_eq_true rfl) (Nat.le_of_ble_eq_true rfl) dX8_sighting_29 ?_
    exact ⟨1, Or.inl ⟨rfl, by omega⟩, ⟨_, _, _, _, _, _, _, hc_39, hc_40, hc_41, hc_42, hc_43, hc_44, hc_45, hc_46, by omega, hMr, hinq⟩, fun q hq => (((congrFun hg_38 q).trans (gu_ne (by omega))).trans ((congrFun hg_2 q).trans (gu_ne (by omega))))⟩
