/-! THE LAW: isOrder -/
theorem or_bit {nl p z : Int} {f : Int → Int} {S9 : Nat} (hz : 0 ≤ z ∧ z < nl) (hc : cutN nl f z = p) (hb : ∀ j : Nat, S9.testBit j = true ↔ ((j : Int) < nl ∧ cutN nl f (j : Int) < p)) : ∀ j : Nat, (S9 ||| 2 ^ z.toNat).testBit j = true ↔ ((j : Int) < nl ∧ cutN nl f (j : Int) < p + 1) := by
  intro j
  rw [fb_bit_set, Bool.or_eq_true, hb, decide_eq_true_eq]
  constructor
  · intro h
    rcases h with ⟨h1, h2⟩ | h
    · exact ⟨h1, by omega⟩
    · have e : (j : Int) = z := by omega
      rw [e, hc]
      exact ⟨hz.2, by omega⟩
  · intro h
    by_cases q : cutN nl f (j : Int) < p
    · exact Or.inl ⟨h.1, q⟩
    · have e := cut_inj (f := f) (nl := nl) (i := (j : Int)) (j := z) (by omega) hz (by omega)
      exact Or.inr (by omega)
theorem or_full {nl : Int} {f : Int → Int} {S9 : Nat} (hn : 0 ≤ nl ∧ nl ≤ 6) (hb : ∀ j : Nat, S9.testBit j = true ↔ ((j : Int) < nl ∧ cutN nl f (j : Int) < nl)) : ((S9 : Nat) : Int) = ((2 ^ nl.toNat : Nat) : Int) - 1 ∧ 1 ≤ ((2 ^ nl.toNat : Nat) : Int) ∧ ((2 ^ nl.toNat : Nat) : Int) ≤ 64 := by
  have h1 : 2 ^ nl.toNat ≤ 2 ^ 6 := Nat.pow_le_pow_right (by decide) (by omega)
  have h0 : 0 < 2 ^ nl.toNat := Nat.two_pow_pos _
  have e : S9 = 2 ^ nl.toNat - 1 := by
    apply Nat.eq_of_testBit_eq
    intro i
    rw [Nat.testBit_two_pow_sub_one, Bool.eq_iff_iff, hb, decide_eq_true_eq]
    refine ⟨fun h => by omega, fun h => ⟨by omega, ?_⟩⟩
    exact (cut_rg (f := f) (nl := nl) (i := (i : Int)) (by omega)).2
  rw [e]
  omega
set_option maxHeartbeats 4000000 in
set_option maxRecDepth 100000 in
theorem c_L_isOrder (l : Launch) (hlf : l.stackTraces = false) (κ : gKap) (B n : Nat) (ad : Nat → Nat) (g : Nat → va_E) (HP : gHP) (nl : Int) (f : Int → Int) (F9 : Int → Int) (M9 : Int → Int × (Int → Int)) (hnn : 192 ≤ n) (h : XI κ ad g HP nl f F9 M9) : Met l yL_isOrder wsL_isOrder ({ frames := 7, cells := 70, slots := 420, locals := 144 }) (gPreX κ B n ad g [.ref (ad 0)]) (gQi κ B n ad (fun z g' => XI κ ad g' HP nl f F9 M9 ∧ frX n g g' ∧ z = 1)) 70 420 (gFree B) := by
  refine g_metP RL (cc := cL_isOrder) (maxL := 9) (ret := (some .boolean)) (by decide) rfl rfl (Nat.le_of_ble_eq_true rfl) ?_
  intro p e s m args below meth c C hr hlk X G ls hl
  have hl : lv_has ls 9 [(0, .ref (ad 0))] := hl
  have hok := h.ok
  have hn6 := hok.1
  refine g_aload_n C dL_isOrder_0 rfl hl 0 rfl ?_
  refine g_iconst (a := 1) C dL_isOrder_1 rfl ?_
  refine g_ci C G (g_runVP (As := [.int (iz 1)]) (rest := []) (pos := 0) C G X (q_about l hlf κ B n ad g HP nl f F9 M9 1 hnn h (by decide)) (cwV 1 C.1.2.2.2.2 gL_isOrder_X7_about rfl rfl rfl (by decide +kernel) ⟨Nat.le_of_ble_eq_true rfl, Nat.le_of_ble_eq_true rfl⟩) (by omega) h.he (T := TX7) (N := 8) rfl rfl hl rfl (Nat.le_of_ble_eq_true rfl) dL_isOrder_2 ⟨Nat.le_of_ble_eq_true rfl, Nat.le_of_ble_eq_true rfl⟩) (fun z_1 g_2 H locs hw G => ?_)
  obtain ⟨x_3, f_4, e_5⟩ := hw
  replace e_5 : z_1 = nl := e_5.trans abF_1
  replace e_5 := e_5.symm
  subst e_5
  refine lv_istore_n (lv' := [(1, .int (iz nl)), (0, .ref (ad 0))]) C.1.1 C.1.2.1 dL_isOrder_5 rfl hl (by decide) rfl (fun ls hl => ?_)
  refine g_iconst (a := 0) C dL_isOrder_6 rfl ?_
  refine lv_istore_n (lv' := [(2, .int (iz 0)), (1, .int (iz nl)), (0, .ref (ad 0))]) C.1.1 C.1.2.1 dL_isOrder_7 rfl hl (by decide) rfl (fun ls hl => ?_)
  refine g_aload_n C dL_isOrder_8 rfl hl 2 rfl ?_
  refine g_iload_n C dL_isOrder_9 rfl hl 1 rfl ?_
  refine g_ci C G (g_runVP (As := [.int (iz nl)]) (rest := []) (pos := 0) C G X (q_order l hlf κ B n ad g_2 HP nl f F9 M9 nl hnn x_3 (by omega)) (cwV 1 C.1.2.2.2.2 gL_isOrder_X7_order rfl rfl rfl (by decide +kernel) ⟨Nat.le_of_ble_eq_true rfl, Nat.le_of_ble_eq_true rfl⟩) (by omega) x_3.he (T := TX7) (N := 8) rfl rfl hl rfl (Nat.le_of_ble_eq_true rfl) dL_isOrder_10 ⟨Nat.le_of_ble_eq_true rfl, Nat.le_of_ble_eq_true rfl⟩) (fun z_6 g_7 H locs hw G => ?_)
  obtain ⟨x_8, f_9, e_10⟩ := hw
  have f_11 := frX.tr f_4 f_9
  have e9 := or_out e_10
  subst e9
  refine g_bipush (a := (-9)) C dL_isOrder_13 (by decide) ?_
  refine g_icmp_ne (tgt := 22) C (by omega) (by omega) dL_isOrder_15 (by decide) (fun c9 => absurd c9 (by decide)) (fun _ => ?_)
  refine g_iconst (a := 1) C dL_isOrder_18 rfl ?_
  refine g_goto (tgt := 23) C dL_isOrder_19 (by decide) ?_
  refine lv_istore_n (lv' := [(3, .int (iz 1)), (2, .int (iz 0)), (1, .int (iz nl)), (0, .ref (ad 0))]) C.1.1 C.1.2.1 dL_isOrder_23 rfl hl (by decide) rfl (fun ls hl => ?_)
  refine g_iconst (a := 0) C dL_isOrder_24 rfl ?_
  refine lv_istore (lv' := [(4, .int (iz 0)), (3, .int (iz 1)), (2, .int (iz 0)), (1, .int (iz nl)), (0, .ref (ad 0))]) C.1.1 C.1.2.1 dL_isOrder_25 hl (by decide) rfl (fun ls hl => ?_)
  have lp_27_n_13 : ∀ (k_12 : Nat) (p9 : Int) (S9 : Nat) (gv : Nat → va_E), (nl - p9).toNat < k_12 → (XI κ ad gv HP nl f F9 M9) → (frX n g gv) → (0 ≤ p9 ∧ p9 ≤ nl) → (S9 < 2 ^ 6) → (∀ j : Nat, S9.testBit j = true ↔ ((j : Int) < nl ∧ cutN nl f (j : Int) < p9)) → ∀ (H : Heap) (locs : List Loc), gG κ B n ad s gv H locs → ∀ (ls : Array Slot), lv_has ls 9 [(0, .ref (ad 0)), (1, .int (iz nl)), (2, .int (iz ((S9 : Nat) : Int))), (3, .int (iz 1)), (4, .int (iz p9))] → W p l e ({ frames := 7, cells := 70, slots := 420, locals := 144 }) s m args below meth c H locs (2 + 8 * ((p9 : Int)).toNat) (12 + 48 * ((p9 : Int)).toNat) (MQ below (gQi κ B n ad (fun z g' => XI κ ad g' HP nl f F9 M9 ∧ frX n g g' ∧ z = 1)) args s 70 420 (gFree B)) (F0 m 27 ls []) := by
    intro k_12
    induction k_12 with
    | zero => intro p9 S9 gv hm; exact absurd hm (Nat.not_lt_zero _)
    | succ k_12 ih_lp_27_n_13 =>
      intro p9 S9 gv hm hx hf hp hS hb H locs G ls hl
      refine g_iload C dL_isOrder_27 hl 4 rfl ?_
      refine g_iload_n C dL_isOrder_29 rfl hl 1 rfl ?_
      refine g_icmp_ge (tgt := 142) C (by omega) (by omega) dL_isOrder_30 (by decide) (fun c_14 => ?_) (fun c_14 => ?_)
      · have hpe : p9 = nl := by omega
        rw [hpe] at hb
        have hSe := or_full hn6 hb
        refine g_iload_n C dL_isOrder_142 rfl hl 3 rfl ?_
        refine g_if_eq (tgt := 159) C (by decide) dL_isOrder_143 (by decide) (fun c9 => absurd c9 (by decide)) (fun _ => ?_)
        refine g_iload_n C dL_isOrder_146 rfl hl 2 rfl ?_
        refine g_iconst (a := 1) C dL_isOrder_147 rfl ?_
        refine g_iload_n C dL_isOrder_148 rfl hl 1 rfl ?_
        refine g_ishl1 C (by omega) dL_isOrder_149 ?_
        refine g_iconst (a := 1) C dL_isOrder_150 rfl ?_
        refine g_isub C dL_isOrder_151 ?_
        refine g_icmp_ne (tgt := 159) C (by omega) (by omega) dL_isOrder_152 (by decide) (fun c_15 => absurd c_15 (by omega)) (fun c_15 => ?_)
        refine g_iconst (a := 1) C dL_isOrder_155 rfl ?_
        refine g_goto (tgt := 160) C dL_isOrder_156 (by decide) ?_
        refine g_zret C G hr hlk (by decide) (by omega) (by omega) dL_isOrder_160 ?_
        exact ⟨hx, hf, rfl⟩
      · refine g_aload_n C dL_isOrder_33 rfl hl 0 rfl ?_
        refine g_iload C dL_isOrder_34 hl 4 rfl ?_
        refine g_ci C G (g_runVP (As := [.int (iz p9)]) (rest := []) (pos := 0) C G X (q_order l hlf κ B n ad gv HP nl f F9 M9 p9 hnn hx (by omega)) (cwV 1 C.1.2.2.2.2 gL_isOrder_X7_order rfl rfl rfl (by decide +kernel) ⟨Nat.le_of_ble_eq_true rfl, Nat.le_of_ble_eq_true rfl⟩) (by omega) hx.he (T := TX7) (N := 8) rfl rfl hl rfl (Nat.le_of_ble_eq_true rfl) dL_isOrder_36 ⟨by show 2 + 8 * ((p9 : Int)).toNat + 1 ≤ 70; omega, by show 12 + 48 * ((p9 : Int)).toNat + 6 ≤ 420; omega⟩) (fun z_16 g_17 H locs hw G => ?_)
        obtain ⟨x_18, f_19, e_20⟩ := hw
        have f_21 := frX.tr hf f_19
        obtain ⟨hz5, hc5⟩ := or_in (f := f) (pl := p9) ⟨by omega, by omega⟩ e_20
        have hy5 := ly_per hok hz5
        refine lv_istore (lv' := [(5, .int (iz z_16)), (0, .ref (ad 0)), (1, .int (iz nl)), (2, .int (iz ((S9 : Nat) : Int))), (3, .int (iz 1)), (4, .int (iz p9))]) C.1.1 C.1.2.1 dL_isOrder_39 hl (by decide) rfl (fun ls hl => ?_)
        refine g_iload_n C dL_isOrder_41 rfl hl 3 rfl ?_
        refine g_iconst (a := 1) C dL_isOrder_42 rfl ?_
        refine g_iload C dL_isOrder_43 hl 0 rfl ?_
        refine g_ishl1 C (by omega) dL_isOrder_45 ?_
        refine g_iorN C dL_isOrder_46 ?_
        refine lv_istore_n (lv' := [(2, .int (iz ((S9 ||| 2 ^ (z_16).toNat : Nat) : Int))), (5, .int (iz z_16)), (0, .ref (ad 0)), (1, .int (iz nl)), (3, .int (iz 1)), (4, .int (iz p9))]) C.1.1 C.1.2.1 dL_isOrder_47 rfl hl (by decide) rfl (fun ls hl => ?_)
        refine g_iload C dL_isOrder_48 hl 5 rfl ?_
        refine g_if_le (tgt := 136) C (by omega) dL_isOrder_50 (by decide) (fun c_22 => ?_) (fun c_22 => ?_)
        · refine lv_iinc (v := iz (p9 + 1)) (lv' := [(4, .int (iz (p9 + 1))), (2, .int (iz ((S9 ||| 2 ^ (z_16).toNat : Nat) : Int))), (5, .int (iz z_16)), (0, .ref (ad 0)), (1, .int (iz nl)), (3, .int (iz 1))]) C.1.1 C.1.2.1 dL_isOrder_136 hl (k := 5) rfl (g_inc (by omega)) (by decide) rfl (fun ls hl => ?_)
          refine g_goto (tgt := 27) C dL_isOrder_139 (by decide) ?_
          refine W.widen (k := 2 + 8 * ((p9 + 1 : Int)).toNat) (n := 12 + 48 * ((p9 + 1 : Int)).toNat) (by omega) (by omega) ?_
          exact ih_lp_27_n_13 (p9 + 1) (S9 ||| 2 ^ (z_16).toNat) g_17 (by omega) x_18 f_21 (by omega) (Nat.or_lt_two_pow hS (Nat.pow_lt_pow_right (by decide) (by omega))) (or_bit hz5 hc5 hb) _ _ G _ (lv_sub hl [3, 4, 1, 5, 0] rfl)
        · refine g_aload_n C dL_isOrder_53 rfl hl 2 rfl ?_
          refine g_iload C dL_isOrder_54 hl 5 rfl ?_
          refine g_iconst (a := 1) C dL_isOrder_56 rfl ?_
          refine g_isub C dL_isOrder_57 ?_
          refine g_ci C G (g_runVP (As := [.int (iz (p9 - 1))]) (rest := []) (pos := 0) C G X (q_order l hlf κ B n ad g_17 HP nl f F9 M9 (p9 - 1) hnn x_18 (by omega)) (cwV 1 C.1.2.2.2.2 gL_isOrder_X7_order rfl rfl rfl (by decide +kernel) ⟨Nat.le_of_ble_eq_true rfl, Nat.le_of_ble_eq_true rfl⟩) (by omega) x_18.he (T := TX7) (N := 8) rfl rfl hl rfl (Nat.le_of_ble_eq_true rfl) dL_isOrder_58 ⟨by show 2 + 8 * ((p9 : Int)).toNat + 1 + 1 ≤ 70; omega, by show 12 + 48 * ((p9 : Int)).toNat + 6 + 6 ≤ 420; omega⟩) (fun z_23 g_24 H locs hw G => ?_)
          obtain ⟨x_25, f_26, e_27⟩ := hw
          have f_28 := frX.tr f_21 f_26
          obtain ⟨hz6, hc6⟩ := or_in (f := f) (pl := p9 - 1) ⟨by omega, by omega⟩ e_27
          have hy6 := ly_per hok hz6
          have hnx := or_next hz6 hz5 hc6 hc5
          refine lv_istore (lv' := [(6, .int (iz z_23)), (2, .int (iz ((S9 ||| 2 ^ (z_16).toNat : Nat) : Int))), (5, .int (iz z_16)), (0, .ref (ad 0)), (1, .int (iz nl)), (3, .int (iz 1)), (4, .int (iz p9))]) C.1.1 C.1.2.1 dL_isOrder_61 hl (by decide) rfl (fun ls hl => ?_)
          refine g_aload_n C dL_isOrder_63 rfl hl 3 rfl ?_
          refine g_iload C dL_isOrder_64 hl 2 rfl ?_
          refine g_iconst (a := 5) C dL_isOrder_66 rfl ?_
          refine g_ci C G (g_runVP (As := [.int (iz z_16), .int (iz 5)]) (rest := []) (pos := 0) C G X (q_layer l hlf κ B n ad g_24 HP nl f F9 M9 z_16 5 hnn x_25 hz5 (by decide)) (cwV 2 C.1.2.2.2.2 gL_isOrder_X7_layer rfl rfl rfl (by decide +kernel) ⟨Nat.le_of_ble_eq_true rfl, Nat.le_of_ble_eq_true rfl⟩) (by omega) x_25.he (T := TX7) (N := 8) rfl rfl hl rfl (Nat.le_of_ble_eq_true rfl) dL_isOrder_67 ⟨by show 2 + 8 * ((p9 : Int)).toNat + 2 + 1 ≤ 70; omega, by show 12 + 48 * ((p9 : Int)).toNat + 12 + 6 ≤ 420; omega⟩) (fun z_29 g_30 H locs hw G => ?_)
          obtain ⟨x_31, f_32, e_33⟩ := hw
          have f_34 := frX.tr f_28 f_32
          replace e_33 : z_29 = tn (f 0) (f (4 * z_16 + 1)) := e_33.trans lyF_5
          replace e_33 := e_33.symm
          subst e_33
          refine g_aload_n C dL_isOrder_70 rfl hl 3 rfl ?_
          refine g_iload C dL_isOrder_71 hl 0 rfl ?_
          refine g_iconst (a := 5) C dL_isOrder_73 rfl ?_
          refine g_ci C G (g_runVP (As := [.int (iz z_23), .int (iz 5)]) (rest := [.int (iz (tn (f 0) (f (4 * z_16 + 1))))]) (pos := 0) C G X (q_layer l hlf κ B n ad g_30 HP nl f F9 M9 z_23 5 hnn x_31 hz6 (by decide)) (cwV 2 C.1.2.2.2.2 gL_isOrder_X7_layer rfl rfl rfl (by decide +kernel) ⟨Nat.le_of_ble_eq_true rfl, Nat.le_of_ble_eq_true rfl⟩) (by omega) x_31.he (T := TX7) (N := 8) rfl rfl hl rfl (Nat.le_of_ble_eq_true rfl) dL_isOrder_74 ⟨by show 2 + 8 * ((p9 : Int)).toNat + 3 + 1 ≤ 70; omega, by show 12 + 48 * ((p9 : Int)).toNat + 18 + 6 ≤ 420; omega⟩) (fun z_35 g_36 H locs hw G => ?_)
          obtain ⟨x_37, f_38, e_39⟩ := hw
          have f_40 := frX.tr f_34 f_38
          replace e_39 : z_35 = tn (f 0) (f (4 * z_23 + 1)) := e_39.trans lyF_5
          replace e_39 := e_39.symm
          subst e_39
          refine g_isub C dL_isOrder_77 ?_
          refine lv_istore (lv' := [(7, .int (iz ((tn (f 0) (f (4 * z_16 + 1))) - (tn (f 0) (f (4 * z_23 + 1)))))), (6, .int (iz z_23)), (2, .int (iz ((S9 ||| 2 ^ (z_16).toNat : Nat) : Int))), (5, .int (iz z_16)), (0, .ref (ad 0)), (1, .int (iz nl)), (3, .int (iz 1)), (4, .int (iz p9))]) C.1.1 C.1.2.1 dL_isOrder_78 hl (by decide) rfl (fun ls hl => ?_)
          refine g_aload_n C dL_isOrder_80 rfl hl 4 rfl ?_
          refine g_iload C dL_isOrder_81 hl 1 rfl ?_
          refine g_bipush (a := 6) C dL_isOrder_83 (by decide) ?_
          refine g_ci C G (g_runVP (As := [.int (iz z_23), .int (iz 6)]) (rest := []) (pos := 0) C G X (q_layer l hlf κ B n ad g_36 HP nl f F9 M9 z_23 6 hnn x_37 hz6 (by decide)) (cwV 2 C.1.2.2.2.2 gL_isOrder_X7_layer rfl rfl rfl (by decide +kernel) ⟨Nat.le_of_ble_eq_true rfl, Nat.le_of_ble_eq_true rfl⟩) (by omega) x_37.he (T := TX7) (N := 8) rfl rfl hl rfl (Nat.le_of_ble_eq_true rfl) dL_isOrder_85 ⟨by show 2 + 8 * ((p9 : Int)).toNat + 4 + 1 ≤ 70; omega, by show 12 + 48 * ((p9 : Int)).toNat + 24 + 6 ≤ 420; omega⟩) (fun z_41 g_42 H locs hw G => ?_)
          obtain ⟨x_43, f_44, e_45⟩ := hw
          have f_46 := frX.tr f_40 f_44
          replace e_45 : z_41 = lb (f 0) (f (4 * z_23 + 1)) := e_45.trans lyF_6
          replace e_45 := e_45.symm
          subst e_45
          refine g_aload_n C dL_isOrder_88 rfl hl 4 rfl ?_
          refine g_iload C dL_isOrder_89 hl 3 rfl ?_
          refine g_bipush (a := 6) C dL_isOrder_91 (by decide) ?_
          refine g_ci C G (g_runVP (As := [.int (iz z_16), .int (iz 6)]) (rest := [.int (iz (lb (f 0) (f (4 * z_23 + 1))))]) (pos := 0) C G X (q_layer l hlf κ B n ad g_42 HP nl f F9 M9 z_16 6 hnn x_43 hz5 (by decide)) (cwV 2 C.1.2.2.2.2 gL_isOrder_X7_layer rfl rfl rfl (by decide +kernel) ⟨Nat.le_of_ble_eq_true rfl, Nat.le_of_ble_eq_true rfl⟩) (by omega) x_43.he (T := TX7) (N := 8) rfl rfl hl rfl (Nat.le_of_ble_eq_true rfl) dL_isOrder_93 ⟨by show 2 + 8 * ((p9 : Int)).toNat + 5 + 1 ≤ 70; omega, by show 12 + 48 * ((p9 : Int)).toNat + 30 + 6 ≤ 420; omega⟩) (fun z_47 g_48 H locs hw G => ?_)
          obtain ⟨x_49, f_50, e_51⟩ := hw
          have f_52 := frX.tr f_46 f_50
          replace e_51 : z_47 = lb (f 0) (f (4 * z_16 + 1)) := e_51.trans lyF_6
          replace e_51 := e_51.symm
          subst e_51
          refine g_isub C dL_isOrder_96 ?_
          refine lv_istore (lv' := [(8, .int (iz ((lb (f 0) (f (4 * z_23 + 1))) - (lb (f 0) (f (4 * z_16 + 1)))))), (7, .int (iz ((tn (f 0) (f (4 * z_16 + 1))) - (tn (f 0) (f (4 * z_23 + 1)))))), (6, .int (iz z_23)), (2, .int (iz ((S9 ||| 2 ^ (z_16).toNat : Nat) : Int))), (5, .int (iz z_16)), (0, .ref (ad 0)), (1, .int (iz nl)), (3, .int (iz 1)), (4, .int (iz p9))]) C.1.1 C.1.2.1 dL_isOrder_97 hl (by decide) rfl (fun ls hl => ?_)
          refine g_iload_n C dL_isOrder_99 rfl hl 7 rfl ?_
          refine g_if_eq (tgt := 134) C (by decide) dL_isOrder_100 (by decide) (fun c9 => absurd c9 (by decide)) (fun _ => ?_)
          refine g_iload C dL_isOrder_103 hl 1 rfl ?_
          refine g_if_gt (tgt := 130) C (by omega) dL_isOrder_105 (by decide) (fun c_53 => ?_) (fun c_53 => ?_)
          · refine g_iconst (a := 1) C dL_isOrder_130 rfl ?_
            refine g_goto (tgt := 135) C dL_isOrder_131 (by decide) ?_
            refine lv_istore_n (lv' := [(3, .int (iz 1)), (8, .int (iz ((lb (f 0) (f (4 * z_23 + 1))) - (lb (f 0) (f (4 * z_16 + 1)))))), (7, .int (iz ((tn (f 0) (f (4 * z_16 + 1))) - (tn (f 0) (f (4 * z_23 + 1)))))), (6, .int (iz z_23)), (2, .int (iz ((S9 ||| 2 ^ (z_16).toNat : Nat) : Int))), (5, .int (iz z_16)), (0, .ref (ad 0)), (1, .int (iz nl)), (4, .int (iz p9))]) C.1.1 C.1.2.1 dL_isOrder_135 rfl hl (by decide) rfl (fun ls hl => ?_)
            refine lv_iinc (v := iz (p9 + 1)) (lv' := [(4, .int (iz (p9 + 1))), (3, .int (iz 1)), (8, .int (iz ((lb (f 0) (f (4 * z_23 + 1))) - (lb (f 0) (f (4 * z_16 + 1)))))), (7, .int (iz ((tn (f 0) (f (4 * z_16 + 1))) - (tn (f 0) (f (4 * z_23 + 1)))))), (6, .int (iz z_23)), (2, .int (iz ((S9 ||| 2 ^ (z_16).toNat : Nat) : Int))), (5, .int (iz z_16)), (0, .ref (ad 0)), (1, .int (iz nl))]) C.1.1 C.1.2.1 dL_isOrder_136 hl (k := 8) rfl (g_inc (by omega)) (by decide) rfl (fun ls hl => ?_)
            refine g_goto (tgt := 27) C dL_isOrder_139 (by decide) ?_
            refine W.widen (k := 2 + 8 * ((p9 + 1 : Int)).toNat) (n := 12 + 48 * ((p9 + 1 : Int)).toNat) (by omega) (by omega) ?_
            exact ih_lp_27_n_13 (p9 + 1) (S9 ||| 2 ^ (z_16).toNat) g_48 (by omega) x_49 f_52 (by omega) (Nat.or_lt_two_pow hS (Nat.pow_lt_pow_right (by decide) (by omega))) (or_bit hz5 hc5 hb) _ _ G _ (lv_sub hl [7, 8, 5, 1, 0] rfl)
          · refine g_iload C dL_isOrder_108 hl 1 rfl ?_
            refine g_if_ne (tgt := 134) C (by omega) dL_isOrder_110 (by decide) (fun c_54 => absurd c_54 (by omega)) (fun c_54 => ?_)
            refine g_iload C dL_isOrder_113 hl 0 rfl ?_
            refine g_if_gt (tgt := 130) C (by omega) dL_isOrder_115 (by decide) (fun c_55 => ?_) (fun c_55 => ?_)
            · refine g_iconst (a := 1) C dL_isOrder_130 rfl ?_
              refine g_goto (tgt := 135) C dL_isOrder_131 (by decide) ?_
              refine lv_istore_n (lv' := [(3, .int (iz 1)), (8, .int (iz ((lb (f 0) (f (4 * z_23 + 1))) - (lb (f 0) (f (4 * z_16 + 1)))))), (7, .int (iz ((tn (f 0) (f (4 * z_16 + 1))) - (tn (f 0) (f (4 * z_23 + 1)))))), (6, .int (iz z_23)), (2, .int (iz ((S9 ||| 2 ^ (z_16).toNat : Nat) : Int))), (5, .int (iz z_16)), (0, .ref (ad 0)), (1, .int (iz nl)), (4, .int (iz p9))]) C.1.1 C.1.2.1 dL_isOrder_135 rfl hl (by decide) rfl (fun ls hl => ?_)
              refine lv_iinc (v := iz (p9 + 1)) (lv' := [(4, .int (iz (p9 + 1))), (3, .int (iz 1)), (8, .int (iz ((lb (f 0) (f (4 * z_23 + 1))) - (lb (f 0) (f (4 * z_16 + 1)))))), (7, .int (iz ((tn (f 0) (f (4 * z_16 + 1))) - (tn (f 0) (f (4 * z_23 + 1)))))), (6, .int (iz z_23)), (2, .int (iz ((S9 ||| 2 ^ (z_16).toNat : Nat) : Int))), (5, .int (iz z_16)), (0, .ref (ad 0)), (1, .int (iz nl))]) C.1.1 C.1.2.1 dL_isOrder_136 hl (k := 8) rfl (g_inc (by omega)) (by decide) rfl (fun ls hl => ?_)
              refine g_goto (tgt := 27) C dL_isOrder_139 (by decide) ?_
              refine W.widen (k := 2 + 8 * ((p9 + 1 : Int)).toNat) (n := 12 + 48 * ((p9 + 1 : Int)).toNat) (by omega) (by omega) ?_
              exact ih_lp_27_n_13 (p9 + 1) (S9 ||| 2 ^ (z_16).toNat) g_48 (by omega) x_49 f_52 (by omega) (Nat.or_lt_two_pow hS (Nat.pow_lt_pow_right (by decide) (by omega))) (or_bit hz5 hc5 hb) _ _ G _ (lv_sub hl [7, 8, 5, 1, 0] rfl)
            · refine g_iload C dL_isOrder_118 hl 0 rfl ?_
              refine g_if_ne (tgt := 134) C (by omega) dL_isOrder_120 (by decide) (fun c_56 => absurd c_56 (by omega)) (fun c_56 => ?_)
              refine g_iload C dL_isOrder_123 hl 2 rfl ?_
              refine g_iload C dL_isOrder_125 hl 4 rfl ?_
              refine g_icmp_ge (tgt := 134) C (by omega) (by omega) dL_isOrder_127 (by decide) (fun c_57 => absurd c_57 (by omega)) (fun c_57 => ?_)
              refine g_iconst (a := 1) C dL_isOrder_130 rfl ?_
              refine g_goto (tgt := 135) C dL_isOrder_131 (by decide) ?_
              refine lv_istore_n (lv' := [(3, .int (iz 1)), (8, .int (iz ((lb (f 0) (f (4 * z_23 + 1))) - (lb (f 0) (f (4 * z_16 + 1)))))), (7, .int (iz ((tn (f 0) (f (4 * z_16 + 1))) - (tn (f 0) (f (4 * z_23 + 1)))))), (6, .int (iz z_23)), (2, .int (iz ((S9 ||| 2 ^ (z_16).toNat : Nat) : Int))), (5, .int (iz z_16)), (0, .ref (ad 0)), (1, .int (iz nl)), (4, .int (iz p9))]) C.1.1 C.1.2.1 dL_isOrder_135 rfl hl (by decide) rfl (fun ls hl => ?_)
              refine lv_iinc (v := iz (p9 + 1)) (lv' := [(4, .int (iz (p9 + 1))), (3, .int (iz 1)), (8, .int (iz ((lb (f 0) (f (4 * z_23 + 1))) - (lb (f 0) (f (4 * z_16 + 1)))))), (7, .int (iz ((tn (f 0) (f (4 * z_16 + 1))) - (tn (f 0) (f (4 * z_23 + 1)))))), (6, .int (iz z_23)), (2, .int (iz ((S9 ||| 2 ^ (z_16).toNat : Nat) : Int))), (5, .int (iz z_16)), (0, .ref (ad 0)), (1, .int (iz nl))]) C.1.1 C.1.2.1 dL_isOrder_136 hl (k := 8) rfl (g_inc (by omega)) (by decide) rfl (fun ls hl => ?_)
              refine g_goto (tgt := 27) C dL_isOrder_139 (by decide) ?_
              refine W.widen (k := 2 + 8 * ((p9 + 1 : Int)).toNat) (n := 12 + 48 * ((p9 + 1 : Int)).toNat) (by omega) (by omega) ?_
              exact ih_lp_27_n_13 (p9 + 1) (S9 ||| 2 ^ (z_16).toNat) g_48 (by omega) x_49 f_52 (by omega) (Nat.or_lt_two_pow hS (Nat.pow_lt_pow_right (by decide) (by omega))) (or_bit hz5 hc5 hb) _ _ G _ (lv_sub hl [7, 8, 5, 1, 0] rfl)
  refine W.widen (k := 2 + 8 * ((0 : Int)).toNat) (n := 12 + 48 * ((0 : Int)).toNat) (by omega) (by omega) ?_
  exact lp_27_n_13 _ 0 0 g_7 (Nat.lt_succ_self _) x_8 f_11 (by omega) (by decide) (fun j => by rw [Nat.zero_testBit]; exact ⟨fun q => absurd q (by decide), fun q => absurd q.2 (by have := cut_rg (f := f) (nl := nl) (i := (j : Int)) ⟨by omega, q.1⟩; omega)⟩) _ _ G _ (lv_sub hl [4, 3, 2, 1, 0] rfl)
