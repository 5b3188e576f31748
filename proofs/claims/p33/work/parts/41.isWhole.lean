/-! THE LAW: isWhole -/
theorem ends_st {nl k : Int} {f : Int → Int} (hok : okPl nl f) (hk : 0 ≤ k ∧ k < nl) : (k = 0 → lsA f (k + 1).toNat = lsr f k) ∧ (0 < k → (120 ≤ lsA f k.toNat ∧ lsA f k.toNat ≤ 280) ∧ (lsr f k < lsA f k.toNat → lsA f (k + 1).toNat = lsr f k) ∧ (lsA f k.toNat ≤ lsr f k → lsA f (k + 1).toNat = lsA f k.toNat)) ∧ (grA f k.toNat < grr f k → grA f (k + 1).toNat = grr f k) ∧ (grr f k ≤ grA f k.toNat → grA f (k + 1).toNat = grA f k.toNat) ∧ -9 ≤ grA f k.toNat ∧ grA f k.toNat ≤ 280 := by
  obtain ⟨h0, h1⟩ := ends_A hok k.toNat (by omega)
  have e1 := lsA_step f (k := k) hk.1
  have e2 := grA_step f (k := k) hk.1
  refine ⟨fun q => ?_, fun q => ?_, fun q => ?_, fun q => ?_, ?_⟩
  · rw [e1, if_pos (Or.inl (h0 (by omega)).1)]
  · have h2 := h1 (by omega)
    refine ⟨by omega, fun z => ?_, fun z => ?_⟩
    · rw [e1, if_pos (Or.inr z)]
    · rw [e1, if_neg (by omega)]
  · rw [e2, if_pos q]
  · rw [e2, if_neg (by omega)]
  · by_cases q : k = 0
    · have := h0 (by omega)
      omega
    · have := h1 (by omega)
      omega
set_option maxHeartbeats 4000000 in
set_option maxRecDepth 100000 in
theorem c_L_isWhole (l : Launch) (hlf : l.stackTraces = false) (κ : gKap) (B n : Nat) (ad : Nat → Nat) (g : Nat → va_E) (HP : gHP) (nl : Int) (f : Int → Int) (F9 : Int → Int) (M9 : Int → Int × (Int → Int)) (more : Int) (hnn : 192 ≤ n) (h : XI κ ad g HP nl f F9 M9) (hmo : inI more) : Met l yL_isWhole wsL_isWhole ({ frames := 8, cells := 420, slots := 2520, locals := 175 }) (gPreX κ B n ad g [.ref (ad 0), .int (iz more)]) (gQi κ B n ad (fun z g' => XI κ ad g' HP nl f F9 M9 ∧ frX n g g' ∧ z = 1)) 420 2520 (gFree B) := by
  refine g_metP RL (cc := cL_isWhole) (maxL := 12) (ret := (some .boolean)) (by decide) rfl rfl (Nat.le_of_ble_eq_true rfl) ?_
  intro p e s m args below meth c C hr hlk X G ls hl
  have hl : lv_has ls 12 [(0, .ref (ad 0)), (1, .int (iz more))] := hl
  have hok := h.ok
  have hn6 := hok.1
  refine g_aload_n C dL_isWhole_0 rfl hl 0 rfl ?_
  refine g_iconst (a := 1) C dL_isWhole_1 rfl ?_
  refine g_ci C G (g_runVP (As := [.int (iz 1)]) (rest := []) (pos := 0) C G X (q_about l hlf κ B n ad g HP nl f F9 M9 1 hnn h (by decide)) (cwV 1 C.1.2.2.2.2 gL_isWhole_X7_about rfl rfl rfl (by decide +kernel) ⟨Nat.le_of_ble_eq_true rfl, Nat.le_of_ble_eq_true rfl⟩) (by omega) h.he (T := TX7) (N := 8) rfl rfl hl rfl (Nat.le_of_ble_eq_true rfl) dL_isWhole_2 ⟨Nat.le_of_ble_eq_true rfl, Nat.le_of_ble_eq_true rfl⟩) (fun z_1 g_2 H locs hw G => ?_)
  obtain ⟨x_3, f_4, e_5⟩ := hw
  replace e_5 : z_1 = nl := e_5.trans abF_1
  replace e_5 := e_5.symm
  subst e_5
  refine lv_istore_n (lv' := [(2, .int (iz nl)), (0, .ref (ad 0)), (1, .int (iz more))]) C.1.1 C.1.2.1 dL_isWhole_5 rfl hl (by decide) rfl (fun ls hl => ?_)
  refine g_iconst (a := 0) C dL_isWhole_6 rfl ?_
  refine lv_istore_n (lv' := [(3, .int (iz 0)), (2, .int (iz nl)), (0, .ref (ad 0)), (1, .int (iz more))]) C.1.1 C.1.2.1 dL_isWhole_7 rfl hl (by decide) rfl (fun ls hl => ?_)
  refine g_iconst (a := 0) C dL_isWhole_8 rfl ?_
  refine lv_istore (lv' := [(4, .int (iz 0)), (3, .int (iz 0)), (2, .int (iz nl)), (0, .ref (ad 0)), (1, .int (iz more))]) C.1.1 C.1.2.1 dL_isWhole_9 hl (by decide) rfl (fun ls hl => ?_)
  refine g_iload_n C dL_isWhole_11 rfl hl 2 rfl ?_
  refine g_if_ne (tgt := 20) C (by omega) dL_isWhole_12 (by decide) (fun c_6 => ?_) (fun c_6 => ?_)
  · have hz : 0 < nl := by omega
    have hbk := blank_le hok hz
    have htg := tg_mod hok (l := 0) ⟨by omega, hz⟩
    have hAA := (ends_A hok nl.toNat (by omega)).2 (by omega)
    have hcA := cntS_le (ALLp nl f)
    refine g_sipush (a := 1000) C dL_isWhole_20 (by decide) ?_
    refine lv_istore (lv' := [(5, .int (iz 1000)), (4, .int (iz 0)), (3, .int (iz 0)), (2, .int (iz nl)), (0, .ref (ad 0)), (1, .int (iz more))]) C.1.1 C.1.2.1 dL_isWhole_23 hl (by decide) rfl (fun ls hl => ?_)
    refine g_bipush (a := (-9)) C dL_isWhole_25 (by decide) ?_
    refine lv_istore (lv' := [(6, .int (iz (-9))), (5, .int (iz 1000)), (4, .int (iz 0)), (3, .int (iz 0)), (2, .int (iz nl)), (0, .ref (ad 0)), (1, .int (iz more))]) C.1.1 C.1.2.1 dL_isWhole_27 hl (by decide) rfl (fun ls hl => ?_)
    refine g_aload_n C dL_isWhole_29 rfl hl 5 rfl ?_
    refine g_cl C G (g_runVP (As := []) (rest := []) (pos := 0) C G X (q_together l hlf κ B n ad g_2 HP nl f F9 M9 hnn x_3) (cwV 0 C.1.2.2.2.2 gL_isWhole_X7_together rfl rfl rfl (by decide +kernel) ⟨Nat.le_of_ble_eq_true rfl, Nat.le_of_ble_eq_true rfl⟩) (by omega) x_3.he (T := TX7) (N := 8) rfl rfl hl rfl (Nat.le_of_ble_eq_true rfl) dL_isWhole_30 ⟨Nat.le_of_ble_eq_true rfl, Nat.le_of_ble_eq_true rfl⟩) (fun z_7 g_8 H locs hw G => ?_)
    obtain ⟨x_9, f_10, e_11⟩ := hw
    have f_12 := frX.tr f_4 f_10
    subst e_11
    refine lv_lstore (lv' := [(7, .long (jz (tgF nl f))), (6, .int (iz (-9))), (5, .int (iz 1000)), (4, .int (iz 0)), (3, .int (iz 0)), (2, .int (iz nl)), (0, .ref (ad 0)), (1, .int (iz more))]) C.1.1 C.1.2.1 dL_isWhole_33 hl (by decide) rfl (fun ls hl => ?_)
    refine g_iload_n C dL_isWhole_35 rfl hl 5 rfl ?_
    refine g_if_gt (tgt := 55) C (by omega) dL_isWhole_36 (by decide) (fun c_13 => ?_) (fun c_13 => absurd c_13 (by omega))
    refine g_iconst (a := 1) C dL_isWhole_55 rfl ?_
    refine g_goto (tgt := 60) C dL_isWhole_56 (by decide) ?_
    refine lv_istore (lv' := [(9, .int (iz 1)), (7, .long (jz (tgF nl f))), (6, .int (iz (-9))), (5, .int (iz 1000)), (4, .int (iz 0)), (3, .int (iz 0)), (2, .int (iz nl)), (0, .ref (ad 0)), (1, .int (iz more))]) C.1.1 C.1.2.1 dL_isWhole_60 hl (by decide) rfl (fun ls hl => ?_)
    refine g_iconst (a := 0) C dL_isWhole_62 rfl ?_
    refine lv_istore (lv' := [(10, .int (iz 0)), (9, .int (iz 1)), (7, .long (jz (tgF nl f))), (6, .int (iz (-9))), (5, .int (iz 1000)), (4, .int (iz 0)), (3, .int (iz 0)), (2, .int (iz nl)), (0, .ref (ad 0)), (1, .int (iz more))]) C.1.1 C.1.2.1 dL_isWhole_63 hl (by decide) rfl (fun ls hl => ?_)
    have lp_65_n_15 : ∀ (k_14 : Nat) (k : Int) (s9 : Int) (m9 : Int) (l9 : Int) (g9 : Int) (gv : Nat → va_E), (nl - k).toNat < k_14 → (XI κ ad gv HP nl f F9 M9) → (frX n g gv) → (0 ≤ k ∧ k ≤ nl) → (((cntS (ALLp k f) : Nat) : Int) ≤ s9 ∧ s9 ≤ 38528 * k) → (0 ≤ m9 ∧ m9 ≤ ((cntS (ALLp nl f) : Nat) : Int)) → ((k = 0 → l9 = 1000) ∧ (0 < k → l9 = lsA f k.toNat)) → (g9 = grA f k.toNat) → ∀ (H : Heap) (locs : List Loc), gG κ B n ad s gv H locs → ∀ (ls : Array Slot), lv_has ls 12 [(0, .ref (ad 0)), (1, .int (iz more)), (2, .int (iz nl)), (3, .int (iz s9)), (4, .int (iz m9)), (5, .int (iz l9)), (6, .int (iz g9)), (7, .long (jz (tgF nl f))), (9, .int (iz 1)), (10, .int (iz k))] → W p l e ({ frames := 8, cells := 420, slots := 2520, locals := 175 }) s m args below meth c H locs (1 + 60 * ((k : Int)).toNat) (6 + 360 * ((k : Int)).toNat) (MQ below (gQi κ B n ad (fun z g' => XI κ ad g' HP nl f F9 M9 ∧ frX n g g' ∧ z = 1)) args s 420 2520 (gFree B)) (F0 m 65 ls []) := by
      intro k_14
      induction k_14 with
      | zero => intro k s9 m9 l9 g9 gv hm; exact absurd hm (Nat.not_lt_zero _)
      | succ k_14 ih_lp_65_n_15 =>
        intro k s9 m9 l9 g9 gv hm hx hf hk hs hm hle hg H locs G ls hl
        refine g_iload C dL_isWhole_65 hl 9 rfl ?_
        refine g_iload_n C dL_isWhole_67 rfl hl 2 rfl ?_
        refine g_icmp_ge (tgt := 208) C (by omega) (by omega) dL_isWhole_68 (by decide) (fun c_16 => ?_) (fun c_16 => ?_)
        · have hkn : k = nl := by omega
          rw [hkn] at hs hle hg
          refine g_iload C dL_isWhole_208 hl 8 rfl ?_
          refine g_if_eq (tgt := 272) C (by decide) dL_isWhole_210 (by decide) (fun c9 => absurd c9 (by decide)) (fun _ => ?_)
          refine g_aload_n C dL_isWhole_213 rfl hl 0 rfl ?_
          refine g_iconst (a := 3) C dL_isWhole_214 rfl ?_
          refine g_ci C G (g_runVP (As := [.int (iz 3)]) (rest := []) (pos := 0) C G X (q_about l hlf κ B n ad gv HP nl f F9 M9 3 hnn hx (by decide)) (cwV 1 C.1.2.2.2.2 gL_isWhole_X7_about rfl rfl rfl (by decide +kernel) ⟨Nat.le_of_ble_eq_true rfl, Nat.le_of_ble_eq_true rfl⟩) (by omega) hx.he (T := TX7) (N := 8) rfl rfl hl rfl (Nat.le_of_ble_eq_true rfl) dL_isWhole_215 ⟨by show 1 + 60 * ((k : Int)).toNat + 1 ≤ 420; omega, by show 6 + 360 * ((k : Int)).toNat + 6 ≤ 2520; omega⟩) (fun z_17 g_18 H locs hw G => ?_)
          obtain ⟨x_19, f_20, e_21⟩ := hw
          have f_22 := frX.tr hf f_20
          replace e_21 : z_17 = ((cntS (ALLp nl f) : Nat) : Int) := e_21.trans abF_3
          replace e_21 := e_21.symm
          subst e_21
          refine g_iload_n C dL_isWhole_218 rfl hl 3 rfl ?_
          refine g_icmp_gt (tgt := 272) C (by omega) (by omega) dL_isWhole_219 (by decide) (fun c_23 => absurd c_23 (by omega)) (fun c_23 => ?_)
          refine g_aload_n C dL_isWhole_222 rfl hl 0 rfl ?_
          refine g_iconst (a := 3) C dL_isWhole_223 rfl ?_
          refine g_ci C G (g_runVP (As := [.int (iz 3)]) (rest := []) (pos := 0) C G X (q_about l hlf κ B n ad g_18 HP nl f F9 M9 3 hnn x_19 (by decide)) (cwV 1 C.1.2.2.2.2 gL_isWhole_X7_about rfl rfl rfl (by decide +kernel) ⟨Nat.le_of_ble_eq_true rfl, Nat.le_of_ble_eq_true rfl⟩) (by omega) x_19.he (T := TX7) (N := 8) rfl rfl hl rfl (Nat.le_of_ble_eq_true rfl) dL_isWhole_224 ⟨by show 1 + 60 * ((k : Int)).toNat + 1 + 1 ≤ 420; omega, by show 6 + 360 * ((k : Int)).toNat + 6 + 6 ≤ 2520; omega⟩) (fun z_24 g_25 H locs hw G => ?_)
          obtain ⟨x_26, f_27, e_28⟩ := hw
          have f_29 := frX.tr f_22 f_27
          replace e_28 : z_24 = ((cntS (ALLp nl f) : Nat) : Int) := e_28.trans abF_3
          replace e_28 := e_28.symm
          subst e_28
          refine g_iload C dL_isWhole_227 hl 4 rfl ?_
          refine g_icmp_lt (tgt := 272) C (by omega) (by omega) dL_isWhole_229 (by decide) (fun c_30 => absurd c_30 (by omega)) (fun c_30 => ?_)
          refine g_aload_n C dL_isWhole_232 rfl hl 0 rfl ?_
          refine g_iconst (a := 4) C dL_isWhole_233 rfl ?_
          refine g_ci C G (g_runVP (As := [.int (iz 4)]) (rest := []) (pos := 0) C G X (q_about l hlf κ B n ad g_25 HP nl f F9 M9 4 hnn x_26 (by decide)) (cwV 1 C.1.2.2.2.2 gL_isWhole_X7_about rfl rfl rfl (by decide +kernel) ⟨Nat.le_of_ble_eq_true rfl, Nat.le_of_ble_eq_true rfl⟩) (by omega) x_26.he (T := TX7) (N := 8) rfl rfl hl rfl (Nat.le_of_ble_eq_true rfl) dL_isWhole_234 ⟨by show 1 + 60 * ((k : Int)).toNat + 2 + 1 ≤ 420; omega, by show 6 + 360 * ((k : Int)).toNat + 12 + 6 ≤ 2520; omega⟩) (fun z_31 g_32 H locs hw G => ?_)
          obtain ⟨x_33, f_34, e_35⟩ := hw
          have f_36 := frX.tr f_29 f_34
          replace e_35 : z_31 = lsA f nl.toNat := e_35.trans abF_4
          replace e_35 := e_35.symm
          subst e_35
          refine g_iload C dL_isWhole_237 hl 5 rfl ?_
          refine g_icmp_ne (tgt := 272) C (by omega) (by omega) dL_isWhole_239 (by decide) (fun c_37 => absurd c_37 (by omega)) (fun c_37 => ?_)
          refine g_aload_n C dL_isWhole_242 rfl hl 0 rfl ?_
          refine g_iconst (a := 5) C dL_isWhole_243 rfl ?_
          refine g_ci C G (g_runVP (As := [.int (iz 5)]) (rest := []) (pos := 0) C G X (q_about l hlf κ B n ad g_32 HP nl f F9 M9 5 hnn x_33 (by decide)) (cwV 1 C.1.2.2.2.2 gL_isWhole_X7_about rfl rfl rfl (by decide +kernel) ⟨Nat.le_of_ble_eq_true rfl, Nat.le_of_ble_eq_true rfl⟩) (by omega) x_33.he (T := TX7) (N := 8) rfl rfl hl rfl (Nat.le_of_ble_eq_true rfl) dL_isWhole_244 ⟨by show 1 + 60 * ((k : Int)).toNat + 3 + 1 ≤ 420; omega, by show 6 + 360 * ((k : Int)).toNat + 18 + 6 ≤ 2520; omega⟩) (fun z_38 g_39 H locs hw G => ?_)
          obtain ⟨x_40, f_41, e_42⟩ := hw
          have f_43 := frX.tr f_36 f_41
          replace e_42 : z_38 = grA f nl.toNat := e_42.trans abF_5
          replace e_42 := e_42.symm
          subst e_42
          refine g_iload C dL_isWhole_247 hl 6 rfl ?_
          refine g_icmp_ne (tgt := 272) C (by omega) (by omega) dL_isWhole_249 (by decide) (fun c_44 => absurd c_44 (by omega)) (fun c_44 => ?_)
          refine g_iload_n C dL_isWhole_252 rfl hl 2 rfl ?_
          refine g_if_eq (tgt := 268) C (by omega) dL_isWhole_253 (by decide) (fun c_45 => absurd c_45 (by omega)) (fun c_45 => ?_)
          refine g_aload_n C dL_isWhole_256 rfl hl 0 rfl ?_
          refine g_ci C G (g_runVP (As := []) (rest := []) (pos := 0) C G X (q_blank l hlf κ B n ad g_39 HP nl f F9 M9 hnn x_40) (cwV 0 C.1.2.2.2.2 gL_isWhole_X7_blank rfl rfl rfl (by decide +kernel) ⟨Nat.le_of_ble_eq_true rfl, Nat.le_of_ble_eq_true rfl⟩) (by omega) x_40.he (T := TX7) (N := 8) rfl rfl hl rfl (Nat.le_of_ble_eq_true rfl) dL_isWhole_257 ⟨by show 1 + 60 * ((k : Int)).toNat + 4 + 0 ≤ 420; omega, by show 6 + 360 * ((k : Int)).toNat + 24 + 0 ≤ 2520; omega⟩) (fun z_46 g_47 H locs hw G => ?_)
          obtain ⟨x_48, f_49, e_50⟩ := hw
          have f_51 := frX.tr f_43 f_49
          subst e_50
          refine g_iload C dL_isWhole_260 hl 6 rfl ?_
          refine g_iload C dL_isWhole_262 hl 5 rfl ?_
          refine g_isub C dL_isWhole_264 ?_
          refine g_icmp_gt (tgt := 272) C (by omega) (by omega) dL_isWhole_265 (by decide) (fun c_52 => absurd c_52 (by omega)) (fun c_52 => ?_)
          refine g_iconst (a := 1) C dL_isWhole_268 rfl ?_
          refine g_goto (tgt := 273) C dL_isWhole_269 (by decide) ?_
          refine g_zret C G hr hlk (by decide) (by omega) (by omega) dL_isWhole_273 ?_
          exact ⟨x_48, f_51, rfl⟩
        · have hkl : 0 ≤ k ∧ k < nl := ⟨by omega, by omega⟩
          have hpt := cn_le (f := f) k
          have hst := ALL_step (f := f) (k := k) (by omega)
          have hge := ALL_ge (f := f) hkl
          have hls := ls_rg hok hkl
          have htm := tg_mod hok hkl
          have ppd := pd_rg hok hkl
          obtain ⟨n1, n2, n3, n4, n5⟩ := ends_st hok hkl
          refine g_aload_n C dL_isWhole_71 rfl hl 0 rfl ?_
          refine g_iload C dL_isWhole_72 hl 9 rfl ?_
          refine g_bipush (a := 7) C dL_isWhole_74 (by decide) ?_
          refine g_ci C G (g_runVP (As := [.int (iz k), .int (iz 7)]) (rest := []) (pos := 0) C G X (q_layer l hlf κ B n ad gv HP nl f F9 M9 k 7 hnn hx hkl (by decide)) (cwV 2 C.1.2.2.2.2 gL_isWhole_X7_layer rfl rfl rfl (by decide +kernel) ⟨Nat.le_of_ble_eq_true rfl, Nat.le_of_ble_eq_true rfl⟩) (by omega) hx.he (T := TX7) (N := 8) rfl rfl hl rfl (Nat.le_of_ble_eq_true rfl) dL_isWhole_76 ⟨by show 1 + 60 * ((k : Int)).toNat + 1 ≤ 420; omega, by show 6 + 360 * ((k : Int)).toNat + 6 ≤ 2520; omega⟩) (fun z_53 g_54 H locs hw G => ?_)
          obtain ⟨x_55, f_56, e_57⟩ := hw
          have f_58 := frX.tr hf f_56
          replace e_57 : z_53 = ((cntS (fun x y => PTl f k x y) : Nat) : Int) := e_57.trans lyF_7
          replace e_57 := e_57.symm
          subst e_57
          refine lv_istore (lv' := [(11, .int (iz ((cntS (fun x y => PTl f k x y) : Nat) : Int))), (0, .ref (ad 0)), (1, .int (iz more)), (2, .int (iz nl)), (3, .int (iz s9)), (4, .int (iz m9)), (5, .int (iz l9)), (6, .int (iz g9)), (7, .long (jz (tgF nl f))), (9, .int (iz 1)), (10, .int (iz k))]) C.1.1 C.1.2.1 dL_isWhole_79 hl (by decide) rfl (fun ls hl => ?_)
          refine g_iload_n C dL_isWhole_81 rfl hl 4 rfl ?_
          refine g_iload C dL_isWhole_82 hl 0 rfl ?_
          refine g_iadd C dL_isWhole_84 ?_
          refine lv_istore_n (lv' := [(3, .int (iz (s9 + ((cntS (fun x y => PTl f k x y) : Nat) : Int)))), (11, .int (iz ((cntS (fun x y => PTl f k x y) : Nat) : Int))), (0, .ref (ad 0)), (1, .int (iz more)), (2, .int (iz nl)), (4, .int (iz m9)), (5, .int (iz l9)), (6, .int (iz g9)), (7, .long (jz (tgF nl f))), (9, .int (iz 1)), (10, .int (iz k))]) C.1.1 C.1.2.1 dL_isWhole_85 rfl hl (by decide) rfl (fun ls hl => ?_)
          refine g_iload C dL_isWhole_86 hl 1 rfl ?_
          refine g_iload C dL_isWhole_88 hl 5 rfl ?_
          refine g_icmp_le (tgt := 98) C (by omega) (by omega) dL_isWhole_90 (by decide) (fun c_59 => ?_) (fun c_59 => ?_)
          · refine g_iload C dL_isWhole_98 hl 5 rfl ?_
            refine lv_istore (lv' := [(4, .int (iz m9)), (3, .int (iz (s9 + ((cntS (fun x y => PTl f k x y) : Nat) : Int)))), (11, .int (iz ((cntS (fun x y => PTl f k x y) : Nat) : Int))), (0, .ref (ad 0)), (1, .int (iz more)), (2, .int (iz nl)), (5, .int (iz l9)), (6, .int (iz g9)), (7, .long (jz (tgF nl f))), (9, .int (iz 1)), (10, .int (iz k))]) C.1.1 C.1.2.1 dL_isWhole_100 hl (by decide) rfl (fun ls hl => ?_)
            refine g_aload_n C dL_isWhole_102 rfl hl 3 rfl ?_
            refine g_iload C dL_isWhole_103 hl 10 rfl ?_
            refine g_bipush (a := 8) C dL_isWhole_105 (by decide) ?_
            refine g_ci C G (g_runVP (As := [.int (iz k), .int (iz 8)]) (rest := []) (pos := 0) C G X (q_layer l hlf κ B n ad g_54 HP nl f F9 M9 k 8 hnn x_55 hkl (by decide)) (cwV 2 C.1.2.2.2.2 gL_isWhole_X7_layer rfl rfl rfl (by decide +kernel) ⟨Nat.le_of_ble_eq_true rfl, Nat.le_of_ble_eq_true rfl⟩) (by omega) x_55.he (T := TX7) (N := 8) rfl rfl hl rfl (Nat.le_of_ble_eq_true rfl) dL_isWhole_107 ⟨by show 1 + 60 * ((k : Int)).toNat + 1 + 1 ≤ 420; omega, by show 6 + 360 * ((k : Int)).toNat + 6 + 6 ≤ 2520; omega⟩) (fun z_60 g_61 H locs hw G => ?_)
            obtain ⟨x_62, f_63, e_64⟩ := hw
            have f_65 := frX.tr f_58 f_63
            replace e_64 : z_60 = lsr f k := e_64.trans lyF_8
            replace e_64 := e_64.symm
            subst e_64
            refine g_iload C dL_isWhole_110 hl 6 rfl ?_
            refine g_icmp_ge (tgt := 126) C (by omega) (by omega) dL_isWhole_112 (by decide) (fun c_66 => ?_) (fun c_66 => ?_)
            · refine g_iload C dL_isWhole_126 hl 6 rfl ?_
              refine lv_istore (lv' := [(5, .int (iz l9)), (4, .int (iz m9)), (3, .int (iz (s9 + ((cntS (fun x y => PTl f k x y) : Nat) : Int)))), (11, .int (iz ((cntS (fun x y => PTl f k x y) : Nat) : Int))), (0, .ref (ad 0)), (1, .int (iz more)), (2, .int (iz nl)), (6, .int (iz g9)), (7, .long (jz (tgF nl f))), (9, .int (iz 1)), (10, .int (iz k))]) C.1.1 C.1.2.1 dL_isWhole_128 hl (by decide) rfl (fun ls hl => ?_)
              refine g_aload_n C dL_isWhole_130 rfl hl 4 rfl ?_
              refine g_iload C dL_isWhole_131 hl 10 rfl ?_
              refine g_bipush (a := 9) C dL_isWhole_133 (by decide) ?_
              refine g_ci C G (g_runVP (As := [.int (iz k), .int (iz 9)]) (rest := []) (pos := 0) C G X (q_layer l hlf κ B n ad g_61 HP nl f F9 M9 k 9 hnn x_62 hkl (by decide)) (cwV 2 C.1.2.2.2.2 gL_isWhole_X7_layer rfl rfl rfl (by decide +kernel) ⟨Nat.le_of_ble_eq_true rfl, Nat.le_of_ble_eq_true rfl⟩) (by omega) x_62.he (T := TX7) (N := 8) rfl rfl hl rfl (Nat.le_of_ble_eq_true rfl) dL_isWhole_135 ⟨by show 1 + 60 * ((k : Int)).toNat + 2 + 1 ≤ 420; omega, by show 6 + 360 * ((k : Int)).toNat + 12 + 6 ≤ 2520; omega⟩) (fun z_67 g_68 H locs hw G => ?_)
              obtain ⟨x_69, f_70, e_71⟩ := hw
              have f_72 := frX.tr f_65 f_70
              replace e_71 : z_67 = grr f k := e_71.trans lyF_9
              replace e_71 := e_71.symm
              subst e_71
              refine g_iload C dL_isWhole_138 hl 7 rfl ?_
              refine g_icmp_le (tgt := 154) C (by omega) (by omega) dL_isWhole_140 (by decide) (fun c_73 => ?_) (fun c_73 => ?_)
              · refine g_iload C dL_isWhole_154 hl 7 rfl ?_
                refine lv_istore (lv' := [(6, .int (iz g9)), (5, .int (iz l9)), (4, .int (iz m9)), (3, .int (iz (s9 + ((cntS (fun x y => PTl f k x y) : Nat) : Int)))), (11, .int (iz ((cntS (fun x y => PTl f k x y) : Nat) : Int))), (0, .ref (ad 0)), (1, .int (iz more)), (2, .int (iz nl)), (7, .long (jz (tgF nl f))), (9, .int (iz 1)), (10, .int (iz k))]) C.1.1 C.1.2.1 dL_isWhole_156 hl (by decide) rfl (fun ls hl => ?_)
                refine g_iload C dL_isWhole_158 hl 9 rfl ?_
                refine g_if_eq (tgt := 199) C (by decide) dL_isWhole_160 (by decide) (fun c9 => absurd c9 (by decide)) (fun _ => ?_)
                refine g_lload C dL_isWhole_163 hl 8 rfl ?_
                refine g_aload_n C dL_isWhole_165 rfl hl 5 rfl ?_
                refine g_iload C dL_isWhole_166 hl 10 rfl ?_
                refine g_iconst (a := 4) C dL_isWhole_168 rfl ?_
                refine g_ci C G (g_runVP (As := [.int (iz k), .int (iz 4)]) (rest := [.long (jz (tgF nl f))]) (pos := 0) C G X (q_layer l hlf κ B n ad g_68 HP nl f F9 M9 k 4 hnn x_69 hkl (by decide)) (cwV 2 C.1.2.2.2.2 gL_isWhole_X7_layer rfl rfl rfl (by decide +kernel) ⟨Nat.le_of_ble_eq_true rfl, Nat.le_of_ble_eq_true rfl⟩) (by omega) x_69.he (T := TX7) (N := 8) rfl rfl hl rfl (Nat.le_of_ble_eq_true rfl) dL_isWhole_169 ⟨by show 1 + 60 * ((k : Int)).toNat + 3 + 1 ≤ 420; omega, by show 6 + 360 * ((k : Int)).toNat + 18 + 6 ≤ 2520; omega⟩) (fun z_74 g_75 H locs hw G => ?_)
                obtain ⟨x_76, f_77, e_78⟩ := hw
                have f_79 := frX.tr f_72 f_77
                replace e_78 : z_74 = pd (f 0) (f (4 * k + 1)) := e_78.trans lyF_4
                replace e_78 := e_78.symm
                subst e_78
                refine g_i2l C (by omega) dL_isWhole_172 ?_
                refine g_lrem C (by omega) (by omega) (by omega) dL_isWhole_173 ?_
                refine g_lconst (a := 0) C dL_isWhole_174 (by decide) ?_
                refine g_lcmp C (by omega) (by decide) dL_isWhole_175 (fun z_80 h_81 => ?_)
                refine g_if_ne (tgt := 199) C (by omega) dL_isWhole_176 (by decide) (fun c_82 => absurd c_82 (by omega)) (fun c_82 => ?_)
                refine g_aload_n C dL_isWhole_179 rfl hl 5 rfl ?_
                refine g_iload C dL_isWhole_180 hl 10 rfl ?_
                refine g_iload_n C dL_isWhole_182 rfl hl 6 rfl ?_
                refine g_bipush (a := 31) C dL_isWhole_183 (by decide) ?_
                refine g_iload C dL_isWhole_185 hl 10 rfl ?_
                refine g_imul C dL_isWhole_187 ?_
                refine g_iadd C dL_isWhole_188 ?_
                rw [iz_rI (more + (31 * k))]
                refine g_ci C G (g_runSP (As := [.ref (ad 0), .int (iz k), .int (iz (rI (more + (31 * k))))]) (rest := []) C G X (c_L_isLayer l hlf κ B n ad g_75 HP nl f F9 M9 k (rI (more + (31 * k))) hnn x_76 hkl (rI_in _)) (va_cwS 3 C.1.2.2.2.2 gL_isWhole_L_isLayer rfl rfl rfl (by decide +kernel) ⟨Nat.le_of_ble_eq_true rfl, Nat.le_of_ble_eq_true rfl⟩) rfl hl rfl (Nat.le_of_ble_eq_true rfl) dL_isWhole_189 ⟨by show 1 + 60 * ((k : Int)).toNat + 4 + 50 ≤ 420; omega, by show 6 + 360 * ((k : Int)).toNat + 24 + 300 ≤ 2520; omega⟩) (fun z_83 g_84 H locs hw G => ?_)
                obtain ⟨x_85, f_86, e_87⟩ := hw
                have f_88 := frX.tr f_79 f_86
                subst e_87
                refine g_if_eq (tgt := 199) C (by decide) dL_isWhole_192 (by decide) (fun c9 => absurd c9 (by decide)) (fun _ => ?_)
                refine g_iconst (a := 1) C dL_isWhole_195 rfl ?_
                refine g_goto (tgt := 200) C dL_isWhole_196 (by decide) ?_
                refine lv_istore (lv' := [(9, .int (iz 1)), (6, .int (iz g9)), (5, .int (iz l9)), (4, .int (iz m9)), (3, .int (iz (s9 + ((cntS (fun x y => PTl f k x y) : Nat) : Int)))), (11, .int (iz ((cntS (fun x y => PTl f k x y) : Nat) : Int))), (0, .ref (ad 0)), (1, .int (iz more)), (2, .int (iz nl)), (7, .long (jz (tgF nl f))), (10, .int (iz k))]) C.1.1 C.1.2.1 dL_isWhole_200 hl (by decide) rfl (fun ls hl => ?_)
                refine lv_iinc (v := iz (k + 1)) (lv' := [(10, .int (iz (k + 1))), (9, .int (iz 1)), (6, .int (iz g9)), (5, .int (iz l9)), (4, .int (iz m9)), (3, .int (iz (s9 + ((cntS (fun x y => PTl f k x y) : Nat) : Int)))), (11, .int (iz ((cntS (fun x y => PTl f k x y) : Nat) : Int))), (0, .ref (ad 0)), (1, .int (iz more)), (2, .int (iz nl)), (7, .long (jz (tgF nl f)))]) C.1.1 C.1.2.1 dL_isWhole_202 hl (k := 10) rfl (g_inc (by omega)) (by decide) rfl (fun ls hl => ?_)
                refine g_goto (tgt := 65) C dL_isWhole_205 (by decide) ?_
                refine W.widen (k := 1 + 60 * ((k + 1 : Int)).toNat) (n := 6 + 360 * ((k + 1 : Int)).toNat) (by omega) (by omega) ?_
                exact ih_lp_65_n_15 (k + 1) (s9 + ((cntS (fun x y => PTl f k x y) : Nat) : Int)) m9 l9 g9 g_84 (by omega) x_85 f_88 (by omega) (by omega) (by omega) (by omega) (by omega) _ _ G _ (lv_sub hl [7, 8, 9, 5, 4, 3, 2, 10, 1, 0] rfl)
              · refine g_aload_n C dL_isWhole_143 rfl hl 4 rfl ?_
                refine g_iload C dL_isWhole_144 hl 10 rfl ?_
                refine g_bipush (a := 9) C dL_isWhole_146 (by decide) ?_
                refine g_ci C G (g_runVP (As := [.int (iz k), .int (iz 9)]) (rest := []) (pos := 0) C G X (q_layer l hlf κ B n ad g_68 HP nl f F9 M9 k 9 hnn x_69 hkl (by decide)) (cwV 2 C.1.2.2.2.2 gL_isWhole_X7_layer rfl rfl rfl (by decide +kernel) ⟨Nat.le_of_ble_eq_true rfl, Nat.le_of_ble_eq_true rfl⟩) (by omega) x_69.he (T := TX7) (N := 8) rfl rfl hl rfl (Nat.le_of_ble_eq_true rfl) dL_isWhole_148 ⟨by show 1 + 60 * ((k : Int)).toNat + 3 + 1 ≤ 420; omega, by show 6 + 360 * ((k : Int)).toNat + 18 + 6 ≤ 2520; omega⟩) (fun z_89 g_90 H locs hw G => ?_)
                obtain ⟨x_91, f_92, e_93⟩ := hw
                have f_94 := frX.tr f_72 f_92
                replace e_93 : z_89 = grr f k := e_93.trans lyF_9
                replace e_93 := e_93.symm
                subst e_93
                refine g_goto (tgt := 156) C dL_isWhole_151 (by decide) ?_
                refine lv_istore (lv' := [(6, .int (iz (grr f k))), (5, .int (iz l9)), (4, .int (iz m9)), (3, .int (iz (s9 + ((cntS (fun x y => PTl f k x y) : Nat) : Int)))), (11, .int (iz ((cntS (fun x y => PTl f k x y) : Nat) : Int))), (0, .ref (ad 0)), (1, .int (iz more)), (2, .int (iz nl)), (7, .long (jz (tgF nl f))), (9, .int (iz 1)), (10, .int (iz k))]) C.1.1 C.1.2.1 dL_isWhole_156 hl (by decide) rfl (fun ls hl => ?_)
                refine g_iload C dL_isWhole_158 hl 9 rfl ?_
                refine g_if_eq (tgt := 199) C (by decide) dL_isWhole_160 (by decide) (fun c9 => absurd c9 (by decide)) (fun _ => ?_)
                refine g_lload C dL_isWhole_163 hl 8 rfl ?_
                refine g_aload_n C dL_isWhole_165 rfl hl 5 rfl ?_
                refine g_iload C dL_isWhole_166 hl 10 rfl ?_
                refine g_iconst (a := 4) C dL_isWhole_168 rfl ?_
                refine g_ci C G (g_runVP (As := [.int (iz k), .int (iz 4)]) (rest := [.long (jz (tgF nl f))]) (pos := 0) C G X (q_layer l hlf κ B n ad g_90 HP nl f F9 M9 k 4 hnn x_91 hkl (by decide)) (cwV 2 C.1.2.2.2.2 gL_isWhole_X7_layer rfl rfl rfl (by decide +kernel) ⟨Nat.le_of_ble_eq_true rfl, Nat.le_of_ble_eq_true rfl⟩) (by omega) x_91.he (T := TX7) (N := 8) rfl rfl hl rfl (Nat.le_of_ble_eq_true rfl) dL_isWhole_169 ⟨by show 1 + 60 * ((k : Int)).toNat + 4 + 1 ≤ 420; omega, by show 6 + 360 * ((k : Int)).toNat + 24 + 6 ≤ 2520; omega⟩) (fun z_95 g_96 H locs hw G => ?_)
                obtain ⟨x_97, f_98, e_99⟩ := hw
                have f_100 := frX.tr f_94 f_98
                replace e_99 : z_95 = pd (f 0) (f (4 * k + 1)) := e_99.trans lyF_4
                replace e_99 := e_99.symm
                subst e_99
                refine g_i2l C (by omega) dL_isWhole_172 ?_
                refine g_lrem C (by omega) (by omega) (by omega) dL_isWhole_173 ?_
                refine g_lconst (a := 0) C dL_isWhole_174 (by decide) ?_
                refine g_lcmp C (by omega) (by decide) dL_isWhole_175 (fun z_101 h_102 => ?_)
                refine g_if_ne (tgt := 199) C (by omega) dL_isWhole_176 (by decide) (fun c_103 => absurd c_103 (by omega)) (fun c_103 => ?_)
                refine g_aload_n C dL_isWhole_179 rfl hl 5 rfl ?_
                refine g_iload C dL_isWhole_180 hl 10 rfl ?_
                refine g_iload_n C dL_isWhole_182 rfl hl 6 rfl ?_
                refine g_bipush (a := 31) C dL_isWhole_183 (by decide) ?_
                refine g_iload C dL_isWhole_185 hl 10 rfl ?_
                refine g_imul C dL_isWhole_187 ?_
                refine g_iadd C dL_isWhole_188 ?_
                rw [iz_rI (more + (31 * k))]
                refine g_ci C G (g_runSP (As := [.ref (ad 0), .int (iz k), .int (iz (rI (more + (31 * k))))]) (rest := []) C G X (c_L_isLayer l hlf κ B n ad g_96 HP nl f F9 M9 k (rI (more + (31 * k))) hnn x_97 hkl (rI_in _)) (va_cwS 3 C.1.2.2.2.2 gL_isWhole_L_isLayer rfl rfl rfl (by decide +kernel) ⟨Nat.le_of_ble_eq_true rfl, Nat.le_of_ble_eq_true rfl⟩) rfl hl rfl (Nat.le_of_ble_eq_true rfl) dL_isWhole_189 ⟨by show 1 + 60 * ((k : Int)).toNat + 5 + 50 ≤ 420; omega, by show 6 + 360 * ((k : Int)).toNat + 30 + 300 ≤ 2520; omega⟩) (fun z_104 g_105 H locs hw G => ?_)
                obtain ⟨x_106, f_107, e_108⟩ := hw
                have f_109 := frX.tr f_100 f_107
                subst e_108
                refine g_if_eq (tgt := 199) C (by decide) dL_isWhole_192 (by decide) (fun c9 => absurd c9 (by decide)) (fun _ => ?_)
                refine g_iconst (a := 1) C dL_isWhole_195 rfl ?_
                refine g_goto (tgt := 200) C dL_isWhole_196 (by decide) ?_
                refine lv_istore (lv' := [(9, .int (iz 1)), (6, .int (iz (grr f k))), (5, .int (iz l9)), (4, .int (iz m9)), (3, .int (iz (s9 + ((cntS (fun x y => PTl f k x y) : Nat) : Int)))), (11, .int (iz ((cntS (fun x y => PTl f k x y) : Nat) : Int))), (0, .ref (ad 0)), (1, .int (iz more)), (2, .int (iz nl)), (7, .long (jz (tgF nl f))), (10, .int (iz k))]) C.1.1 C.1.2.1 dL_isWhole_200 hl (by decide) rfl (fun ls hl => ?_)
                refine lv_iinc (v := iz (k + 1)) (lv' := [(10, .int (iz (k + 1))), (9, .int (iz 1)), (6, .int (iz (grr f k))), (5, .int (iz l9)), (4, .int (iz m9)), (3, .int (iz (s9 + ((cntS (fun x y => PTl f k x y) : Nat) : Int)))), (11, .int (iz ((cntS (fun x y => PTl f k x y) : Nat) : Int))), (0, .ref (ad 0)), (1, .int (iz more)), (2, .int (iz nl)), (7, .long (jz (tgF nl f)))]) C.1.1 C.1.2.1 dL_isWhole_202 hl (k := 10) rfl (g_inc (by omega)) (by decide) rfl (fun ls hl => ?_)
                refine g_goto (tgt := 65) C dL_isWhole_205 (by decide) ?_
                refine W.widen (k := 1 + 60 * ((k + 1 : Int)).toNat) (n := 6 + 360 * ((k + 1 : Int)).toNat) (by omega) (by omega) ?_
                exact ih_lp_65_n_15 (k + 1) (s9 + ((cntS (fun x y => PTl f k x y) : Nat) : Int)) m9 l9 (grr f k) g_105 (by omega) x_106 f_109 (by omega) (by omega) (by omega) (by omega) (by omega) _ _ G _ (lv_sub hl [7, 8, 9, 5, 4, 3, 2, 10, 1, 0] rfl)
            · refine g_aload_n C dL_isWhole_115 rfl hl 3 rfl ?_
              refine g_iload C dL_isWhole_116 hl 10 rfl ?_
              refine g_bipush (a := 8) C dL_isWhole_118 (by decide) ?_
              refine g_ci C G (g_runVP (As := [.int (iz k), .int (iz 8)]) (rest := []) (pos := 0) C G X (q_layer l hlf κ B n ad g_61 HP nl f F9 M9 k 8 hnn x_62 hkl (by decide)) (cwV 2 C.1.2.2.2.2 gL_isWhole_X7_layer rfl rfl rfl (by decide +kernel) ⟨Nat.le_of_ble_eq_true rfl, Nat.le_of_ble_eq_true rfl⟩) (by omega) x_62.he (T := TX7) (N := 8) rfl rfl hl rfl (Nat.le_of_ble_eq_true rfl) dL_isWhole_120 ⟨by show 1 + 60 * ((k : Int)).toNat + 2 + 1 ≤ 420; omega, by show 6 + 360 * ((k : Int)).toNat + 12 + 6 ≤ 2520; omega⟩) (fun z_110 g_111 H locs hw G => ?_)
              obtain ⟨x_112, f_113, e_114⟩ := hw
              have f_115 := frX.tr f_65 f_113
              replace e_114 : z_110 = lsr f k := e_114.trans lyF_8
              replace e_114 := e_114.symm
              subst e_114
              refine g_goto (tgt := 128) C dL_isWhole_123 (by decide) ?_
              refine lv_istore (lv' := [(5, .int (iz (lsr f k))), (4, .int (iz m9)), (3, .int (iz (s9 + ((cntS (fun x y => PTl f k x y) : Nat) : Int)))), (11, .int (iz ((cntS (fun x y => PTl f k x y) : Nat) : Int))), (0, .ref (ad 0)), (1, .int (iz more)), (2, .int (iz nl)), (6, .int (iz g9)), (7, .long (jz (tgF nl f))), (9, .int (iz 1)), (10, .int (iz k))]) C.1.1 C.1.2.1 dL_isWhole_128 hl (by decide) rfl (fun ls hl => ?_)
              refine g_aload_n C dL_isWhole_130 rfl hl 4 rfl ?_
              refine g_iload C dL_isWhole_131 hl 10 rfl ?_
              refine g_bipush (a := 9) C dL_isWhole_133 (by decide) ?_
              refine g_ci C G (g_runVP (As := [.int (iz k), .int (iz 9)]) (rest := []) (pos := 0) C G X (q_layer l hlf κ B n ad g_111 HP nl f F9 M9 k 9 hnn x_112 hkl (by decide)) (cwV 2 C.1.2.2.2.2 gL_isWhole_X7_layer rfl rfl rfl (by decide +kernel) ⟨Nat.le_of_ble_eq_true rfl, Nat.le_of_ble_eq_true rfl⟩) (by omega) x_112.he (T := TX7) (N := 8) rfl rfl hl rfl (Nat.le_of_ble_eq_true rfl) dL_isWhole_135 ⟨by show 1 + 60 * ((k : Int)).toNat + 3 + 1 ≤ 420; omega, by show 6 + 360 * ((k : Int)).toNat + 18 + 6 ≤ 2520; omega⟩) (fun z_116 g_117 H locs hw G => ?_)
              obtain ⟨x_118, f_119, e_120⟩ := hw
              have f_121 := frX.tr f_115 f_119
              replace e_120 : z_116 = grr f k := e_120.trans lyF_9
              replace e_120 := e_120.symm
              subst e_120
              refine g_iload C dL_isWhole_138 hl 7 rfl ?_
              refine g_icmp_le (tgt := 154) C (by omega) (by omega) dL_isWhole_140 (by decide) (fun c_122 => ?_) (fun c_122 => ?_)
              · refine g_iload C dL_isWhole_154 hl 7 rfl ?_
                refine lv_istore (lv' := [(6, .int (iz g9)), (5, .int (iz (lsr f k))), (4, .int (iz m9)), (3, .int (iz (s9 + ((cntS (fun x y => PTl f k x y) : Nat) : Int)))), (11, .int (iz ((cntS (fun x y => PTl f k x y) : Nat) : Int))), (0, .ref (ad 0)), (1, .int (iz more)), (2, .int (iz nl)), (7, .long (jz (tgF nl f))), (9, .int (iz 1)), (10, .int (iz k))]) C.1.1 C.1.2.1 dL_isWhole_156 hl (by decide) rfl (fun ls hl => ?_)
                refine g_iload C dL_isWhole_158 hl 9 rfl ?_
                refine g_if_eq (tgt := 199) C (by decide) dL_isWhole_160 (by decide) (fun c9 => absurd c9 (by decide)) (fun _ => ?_)
                refine g_lload C dL_isWhole_163 hl 8 rfl ?_
                refine g_aload_n C dL_isWhole_165 rfl hl 5 rfl ?_
                refine g_iload C dL_isWhole_166 hl 10 rfl ?_
                refine g_iconst (a := 4) C dL_isWhole_168 rfl ?_
                refine g_ci C G (g_runVP (As := [.int (iz k), .int (iz 4)]) (rest := [.long (jz (tgF nl f))]) (pos := 0) C G X (q_layer l hlf κ B n ad g_117 HP nl f F9 M9 k 4 hnn x_118 hkl (by decide)) (cwV 2 C.1.2.2.2.2 gL_isWhole_X7_layer rfl rfl rfl (by decide +kernel) ⟨Nat.le_of_ble_eq_true rfl, Nat.le_of_ble_eq_true rfl⟩) (by omega) x_118.he (T := TX7) (N := 8) rfl rfl hl rfl (Nat.le_of_ble_eq_true rfl) dL_isWhole_169 ⟨by show 1 + 60 * ((k : Int)).toNat + 4 + 1 ≤ 420; omega, by show 6 + 360 * ((k : Int)).toNat + 24 + 6 ≤ 2520; omega⟩) (fun z_123 g_124 H locs hw G => ?_)
                obtain ⟨x_125, f_126, e_127⟩ := hw
                have f_128 := frX.tr f_121 f_126
                replace e_127 : z_123 = pd (f 0) (f (4 * k + 1)) := e_127.trans lyF_4
                replace e_127 := e_127.symm
                subst e_127
                refine g_i2l C (by omega) dL_isWhole_172 ?_
                refine g_lrem C (by omega) (by omega) (by omega) dL_isWhole_173 ?_
                refine g_lconst (a := 0) C dL_isWhole_174 (by decide) ?_
                refine g_lcmp C (by omega) (by decide) dL_isWhole_175 (fun z_129 h_130 => ?_)
                refine g_if_ne (tgt := 199) C (by omega) dL_isWhole_176 (by decide) (fun c_131 => absurd c_131 (by omega)) (fun c_131 => ?_)
                refine g_aload_n C dL_isWhole_179 rfl hl 5 rfl ?_
                refine g_iload C dL_isWhole_180 hl 10 rfl ?_
                refine g_iload_n C dL_isWhole_182 rfl hl 6 rfl ?_
                refine g_bipush (a := 31) C dL_isWhole_183 (by decide) ?_
                refine g_iload C dL_isWhole_185 hl 10 rfl ?_
                refine g_imul C dL_isWhole_187 ?_
                refine g_iadd C dL_isWhole_188 ?_
                rw [iz_rI (more + (31 * k))]
                refine g_ci C G (g_runSP (As := [.ref (ad 0), .int (iz k), .int (iz (rI (more + (31 * k))))]) (rest := []) C G X (c_L_isLayer l hlf κ B n ad g_124 HP nl f F9 M9 k (rI (more + (31 * k))) hnn x_125 hkl (rI_in _)) (va_cwS 3 C.1.2.2.2.2 gL_isWhole_L_isLayer rfl rfl rfl (by decide +kernel) ⟨Nat.le_of_ble_eq_true rfl, Nat.le_of_ble_eq_true rfl⟩) rfl hl rfl (Nat.le_of_ble_eq_true rfl) dL_isWhole_189 ⟨by show 1 + 60 * ((k : Int)).toNat + 5 + 50 ≤ 420; omega, by show 6 + 360 * ((k : Int)).toNat + 30 + 300 ≤ 2520; omega⟩) (fun z_132 g_133 H locs hw G => ?_)
                obtain ⟨x_134, f_135, e_136⟩ := hw
                have f_137 := frX.tr f_128 f_135
                subst e_136
                refine g_if_eq (tgt := 199) C (by decide) dL_isWhole_192 (by decide) (fun c9 => absurd c9 (by decide)) (fun _ => ?_)
                refine g_iconst (a := 1) C dL_isWhole_195 rfl ?_
                refine g_goto (tgt := 200) C dL_isWhole_196 (by decide) ?_
                refine lv_istore (lv' := [(9, .int (iz 1)), (6, .int (iz g9)), (5, .int (iz (lsr f k))), (4, .int (iz m9)), (3, .int (iz (s9 + ((cntS (fun x y => PTl f k x y) : Nat) : Int)))), (11, .int (iz ((cntS (fun x y => PTl f k x y) : Nat) : Int))), (0, .ref (ad 0)), (1, .int (iz more)), (2, .int (iz nl)), (7, .long (jz (tgF nl f))), (10, .int (iz k))]) C.1.1 C.1.2.1 dL_isWhole_200 hl (by decide) rfl (fun ls hl => ?_)
                refine lv_iinc (v := iz (k + 1)) (lv' := [(10, .int (iz (k + 1))), (9, .int (iz 1)), (6, .int (iz g9)), (5, .int (iz (lsr f k))), (4, .int (iz m9)), (3, .int (iz (s9 + ((cntS (fun x y => PTl f k x y) : Nat) : Int)))), (11, .int (iz ((cntS (fun x y => PTl f k x y) : Nat) : Int))), (0, .ref (ad 0)), (1, .int (iz more)), (2, .int (iz nl)), (7, .long (jz (tgF nl f)))]) C.1.1 C.1.2.1 dL_isWhole_202 hl (k := 10) rfl (g_inc (by omega)) (by decide) rfl (fun ls hl => ?_)
                refine g_goto (tgt := 65) C dL_isWhole_205 (by decide) ?_
                refine W.widen (k := 1 + 60 * ((k + 1 : Int)).toNat) (n := 6 + 360 * ((k + 1 : Int)).toNat) (by omega) (by omega) ?_
                exact ih_lp_65_n_15 (k + 1) (s9 + ((cntS (fun x y => PTl f k x y) : Nat) : Int)) m9 (lsr f k) g9 g_133 (by omega) x_134 f_137 (by omega) (by omega) (by omega) (by omega) (by omega) _ _ G _ (lv_sub hl [7, 8, 9, 5, 4, 3, 2, 10, 1, 0] rfl)
              · refine g_aload_n C dL_isWhole_143 rfl hl 4 rfl ?_
                refine g_iload C dL_isWhole_144 hl 10 rfl ?_
                refine g_bipush (a := 9) C dL_isWhole_146 (by decide) ?_
                refine g_ci C G (g_runVP (As := [.int (iz k), .int (iz 9)]) (rest := []) (pos := 0) C G X (q_layer l hlf κ B n ad g_117 HP nl f F9 M9 k 9 hnn x_118 hkl (by decide)) (cwV 2 C.1.2.2.2.2 gL_isWhole_X7_layer rfl rfl rfl (by decide +kernel) ⟨Nat.le_of_ble_eq_true rfl, Nat.le_of_ble_eq_true rfl⟩) (by omega) x_118.he (T := TX7) (N := 8) rfl rfl hl rfl (Nat.le_of_ble_eq_true rfl) dL_isWhole_148 ⟨by show 1 + 60 * ((k : Int)).toNat + 4 + 1 ≤ 420; omega, by show 6 + 360 * ((k : Int)).toNat + 24 + 6 ≤ 2520; omega⟩) (fun z_138 g_139 H locs hw G => ?_)
                obtain ⟨x_140, f_141, e_142⟩ := hw
                have f_143 := frX.tr f_121 f_141
                replace e_142 : z_138 = grr f k := e_142.trans lyF_9
                replace e_142 := e_142.symm
                subst e_142
                refine g_goto (tgt := 156) C dL_isWhole_151 (by decide) ?_
                refine lv_istore (lv' := [(6, .int (iz (grr f k))), (5, .int (iz (lsr f k))), (4, .int (iz m9)), (3, .int (iz (s9 + ((cntS (fun x y => PTl f k x y) : Nat) : Int)))), (11, .int (iz ((cntS (fun x y => PTl f k x y) : Nat) : Int))), (0, .ref (ad 0)), (1, .int (iz more)), (2, .int (iz nl)), (7, .long (jz (tgF nl f))), (9, .int (iz 1)), (10, .int (iz k))]) C.1.1 C.1.2.1 dL_isWhole_156 hl (by decide) rfl (fun ls hl => ?_)
                refine g_iload C dL_isWhole_158 hl 9 rfl ?_
                refine g_if_eq (tgt := 199) C (by decide) dL_isWhole_160 (by decide) (fun c9 => absurd c9 (by decide)) (fun _ => ?_)
                refine g_lload C dL_isWhole_163 hl 8 rfl ?_
                refine g_aload_n C dL_isWhole_165 rfl hl 5 rfl ?_
                refine g_iload C dL_isWhole_166 hl 10 rfl ?_
                refine g_iconst (a := 4) C dL_isWhole_168 rfl ?_
                refine g_ci C G (g_runVP (As := [.int (iz k), .int (iz 4)]) (rest := [.long (jz (tgF nl f))]) (pos := 0) C G X (q_layer l hlf κ B n ad g_139 HP nl f F9 M9 k 4 hnn x_140 hkl (by decide)) (cwV 2 C.1.2.2.2.2 gL_isWhole_X7_layer rfl rfl rfl (by decide +kernel) ⟨Nat.le_of_ble_eq_true rfl, Nat.le_of_ble_eq_true rfl⟩) (by omega) x_140.he (T := TX7) (N := 8) rfl rfl hl rfl (Nat.le_of_ble_eq_true rfl) dL_isWhole_169 ⟨by show 1 + 60 * ((k : Int)).toNat + 5 + 1 ≤ 420; omega, by show 6 + 360 * ((k : Int)).toNat + 30 + 6 ≤ 2520; omega⟩) (fun z_144 g_145 H locs hw G => ?_)
                obtain ⟨x_146, f_147, e_148⟩ := hw
                have f_149 := frX.tr f_143 f_147
                replace e_148 : z_144 = pd (f 0) (f (4 * k + 1)) := e_148.trans lyF_4
                replace e_148 := e_148.symm
                subst e_148
                refine g_i2l C (by omega) dL_isWhole_172 ?_
                refine g_lrem C (by omega) (by omega) (by omega) dL_isWhole_173 ?_
                refine g_lconst (a := 0) C dL_isWhole_174 (by decide) ?_
                refine g_lcmp C (by omega) (by decide) dL_isWhole_175 (fun z_150 h_151 => ?_)
                refine g_if_ne (tgt := 199) C (by omega) dL_isWhole_176 (by decide) (fun c_152 => absurd c_152 (by omega)) (fun c_152 => ?_)
                refine g_aload_n C dL_isWhole_179 rfl hl 5 rfl ?_
                refine g_iload C dL_isWhole_180 hl 10 rfl ?_
                refine g_iload_n C dL_isWhole_182 rfl hl 6 rfl ?_
                refine g_bipush (a := 31) C dL_isWhole_183 (by decide) ?_
                refine g_iload C dL_isWhole_185 hl 10 rfl ?_
                refine g_imul C dL_isWhole_187 ?_
                refine g_iadd C dL_isWhole_188 ?_
                rw [iz_rI (more + (31 * k))]
                refine g_ci C G (g_runSP (As := [.ref (ad 0), .int (iz k), .int (iz (rI (more + (31 * k))))]) (rest := []) C G X (c_L_isLayer l hlf κ B n ad g_145 HP nl f F9 M9 k (rI (more + (31 * k))) hnn x_146 hkl (rI_in _)) (va_cwS 3 C.1.2.2.2.2 gL_isWhole_L_isLayer rfl rfl rfl (by decide +kernel) ⟨Nat.le_of_ble_eq_true rfl, Nat.le_of_ble_eq_true rfl⟩) rfl hl rfl (Nat.le_of_ble_eq_true rfl) dL_isWhole_189 ⟨by show 1 + 60 * ((k : Int)).toNat + 6 + 50 ≤ 420; omega, by show 6 + 360 * ((k : Int)).toNat + 36 + 300 ≤ 2520; omega⟩) (fun z_153 g_154 H locs hw G => ?_)
                obtain ⟨x_155, f_156, e_157⟩ := hw
                have f_158 := frX.tr f_149 f_156
                subst e_157
                refine g_if_eq (tgt := 199) C (by decide) dL_isWhole_192 (by decide) (fun c9 => absurd c9 (by decide)) (fun _ => ?_)
                refine g_iconst (a := 1) C dL_isWhole_195 rfl ?_
                refine g_goto (tgt := 200) C dL_isWhole_196 (by decide) ?_
                refine lv_istore (lv' := [(9, .int (iz 1)), (6, .int (iz (grr f k))), (5, .int (iz (lsr f k))), (4, .int (iz m9)), (3, .int (iz (s9 + ((cntS (fun x y => PTl f k x y) : Nat) : Int)))), (11, .int (iz ((cntS (fun x y => PTl f k x y) : Nat) : Int))), (0, .ref (ad 0)), (1, .int (iz more)), (2, .int (iz nl)), (7, .long (jz (tgF nl f))), (10, .int (iz k))]) C.1.1 C.1.2.1 dL_isWhole_200 hl (by decide) rfl (fun ls hl => ?_)
                refine lv_iinc (v := iz (k + 1)) (lv' := [(10, .int (iz (k + 1))), (9, .int (iz 1)), (6, .int (iz (grr f k))), (5, .int (iz (lsr f k))), (4, .int (iz m9)), (3, .int (iz (s9 + ((cntS (fun x y => PTl f k x y) : Nat) : Int)))), (11, .int (iz ((cntS (fun x y => PTl f k x y) : Nat) : Int))), (0, .ref (ad 0)), (1, .int (iz more)), (2, .int (iz nl)), (7, .long (jz (tgF nl f)))]) C.1.1 C.1.2.1 dL_isWhole_202 hl (k := 10) rfl (g_inc (by omega)) (by decide) rfl (fun ls hl => ?_)
                refine g_goto (tgt := 65) C dL_isWhole_205 (by decide) ?_
                refine W.widen (k := 1 + 60 * ((k + 1 : Int)).toNat) (n := 6 + 360 * ((k + 1 : Int)).toNat) (by omega) (by omega) ?_
                exact ih_lp_65_n_15 (k + 1) (s9 + ((cntS (fun x y => PTl f k x y) : Nat) : Int)) m9 (lsr f k) (grr f k) g_154 (by omega) x_155 f_158 (by omega) (by omega) (by omega) (by omega) (by omega) _ _ G _ (lv_sub hl [7, 8, 9, 5, 4, 3, 2, 10, 1, 0] rfl)
          · refine g_iload C dL_isWhole_93 hl 1 rfl ?_
            refine g_goto (tgt := 100) C dL_isWhole_95 (by decide) ?_
            refine lv_istore (lv' := [(4, .int (iz ((cntS (fun x y => PTl f k x y) : Nat) : Int))), (3, .int (iz (s9 + ((cntS (fun x y => PTl f k x y) : Nat) : Int)))), (11, .int (iz ((cntS (fun x y => PTl f k x y) : Nat) : Int))), (0, .ref (ad 0)), (1, .int (iz more)), (2, .int (iz nl)), (5, .int (iz l9)), (6, .int (iz g9)), (7, .long (jz (tgF nl f))), (9, .int (iz 1)), (10, .int (iz k))]) C.1.1 C.1.2.1 dL_isWhole_100 hl (by decide) rfl (fun ls hl => ?_)
            refine g_aload_n C dL_isWhole_102 rfl hl 3 rfl ?_
            refine g_iload C dL_isWhole_103 hl 10 rfl ?_
            refine g_bipush (a := 8) C dL_isWhole_105 (by decide) ?_
            refine g_ci C G (g_runVP (As := [.int (iz k), .int (iz 8)]) (rest := []) (pos := 0) C G X (q_layer l hlf κ B n ad g_54 HP nl f F9 M9 k 8 hnn x_55 hkl (by decide)) (cwV 2 C.1.2.2.2.2 gL_isWhole_X7_layer rfl rfl rfl (by decide +kernel) ⟨Nat.le_of_ble_eq_true rfl, Nat.le_of_ble_eq_true rfl⟩) (by omega) x_55.he (T := TX7) (N := 8) rfl rfl hl rfl (Nat.le_of_ble_eq_true rfl) dL_isWhole_107 ⟨by show 1 + 60 * ((k : Int)).toNat + 1 + 1 ≤ 420; omega, by show 6 + 360 * ((k : Int)).toNat + 6 + 6 ≤ 2520; omega⟩) (fun z_159 g_160 H locs hw G => ?_)
            obtain ⟨x_161, f_162, e_163⟩ := hw
            have f_164 := frX.tr f_58 f_162
            replace e_163 : z_159 = lsr f k := e_163.trans lyF_8
            replace e_163 := e_163.symm
            subst e_163
            refine g_iload C dL_isWhole_110 hl 6 rfl ?_
            refine g_icmp_ge (tgt := 126) C (by omega) (by omega) dL_isWhole_112 (by decide) (fun c_165 => ?_) (fun c_165 => ?_)
            · refine g_iload C dL_isWhole_126 hl 6 rfl ?_
              refine lv_istore (lv' := [(5, .int (iz l9)), (4, .int (iz ((cntS (fun x y => PTl f k x y) : Nat) : Int))), (3, .int (iz (s9 + ((cntS (fun x y => PTl f k x y) : Nat) : Int)))), (11, .int (iz ((cntS (fun x y => PTl f k x y) : Nat) : Int))), (0, .ref (ad 0)), (1, .int (iz more)), (2, .int (iz nl)), (6, .int (iz g9)), (7, .long (jz (tgF nl f))), (9, .int (iz 1)), (10, .int (iz k))]) C.1.1 C.1.2.1 dL_isWhole_128 hl (by decide) rfl (fun ls hl => ?_)
              refine g_aload_n C dL_isWhole_130 rfl hl 4 rfl ?_
              refine g_iload C dL_isWhole_131 hl 10 rfl ?_
              refine g_bipush (a := 9) C dL_isWhole_133 (by decide) ?_
              refine g_ci C G (g_runVP (As := [.int (iz k), .int (iz 9)]) (rest := []) (pos := 0) C G X (q_layer l hlf κ B n ad g_160 HP nl f F9 M9 k 9 hnn x_161 hkl (by decide)) (cwV 2 C.1.2.2.2.2 gL_isWhole_X7_layer rfl rfl rfl (by decide +kernel) ⟨Nat.le_of_ble_eq_true rfl, Nat.le_of_ble_eq_true rfl⟩) (by omega) x_161.he (T := TX7) (N := 8) rfl rfl hl rfl (Nat.le_of_ble_eq_true rfl) dL_isWhole_135 ⟨by show 1 + 60 * ((k : Int)).toNat + 2 + 1 ≤ 420; omega, by show 6 + 360 * ((k : Int)).toNat + 12 + 6 ≤ 2520; omega⟩) (fun z_166 g_167 H locs hw G => ?_)
              obtain ⟨x_168, f_169, e_170⟩ := hw
              have f_171 := frX.tr f_164 f_169
              replace e_170 : z_166 = grr f k := e_170.trans lyF_9
              replace e_170 := e_170.symm
              subst e_170
              refine g_iload C dL_isWhole_138 hl 7 rfl ?_
              refine g_icmp_le (tgt := 154) C (by omega) (by omega) dL_isWhole_140 (by decide) (fun c_172 => ?_) (fun c_172 => ?_)
              · refine g_iload C dL_isWhole_154 hl 7 rfl ?_
                refine lv_istore (lv' := [(6, .int (iz g9)), (5, .int (iz l9)), (4, .int (iz ((cntS (fun x y => PTl f k x y) : Nat) : Int))), (3, .int (iz (s9 + ((cntS (fun x y => PTl f k x y) : Nat) : Int)))), (11, .int (iz ((cntS (fun x y => PTl f k x y) : Nat) : Int))), (0, .ref (ad 0)), (1, .int (iz more)), (2, .int (iz nl)), (7, .long (jz (tgF nl f))), (9, .int (iz 1)), (10, .int (iz k))]) C.1.1 C.1.2.1 dL_isWhole_156 hl (by decide) rfl (fun ls hl => ?_)
                refine g_iload C dL_isWhole_158 hl 9 rfl ?_
                refine g_if_eq (tgt := 199) C (by decide) dL_isWhole_160 (by decide) (fun c9 => absurd c9 (by decide)) (fun _ => ?_)
                refine g_lload C dL_isWhole_163 hl 8 rfl ?_
                refine g_aload_n C dL_isWhole_165 rfl hl 5 rfl ?_
                refine g_iload C dL_isWhole_166 hl 10 rfl ?_
                refine g_iconst (a := 4) C dL_isWhole_168 rfl ?_
                refine g_ci C G (g_runVP (As := [.int (iz k), .int (iz 4)]) (rest := [.long (jz (tgF nl f))]) (pos := 0) C G X (q_layer l hlf κ B n ad g_167 HP nl f F9 M9 k 4 hnn x_168 hkl (by decide)) (cwV 2 C.1.2.2.2.2 gL_isWhole_X7_layer rfl rfl rfl (by decide +kernel) ⟨Nat.le_of_ble_eq_true rfl, Nat.le_of_ble_eq_true rfl⟩) (by omega) x_168.he (T := TX7) (N := 8) rfl rfl hl rfl (Nat.le_of_ble_eq_true rfl) dL_isWhole_169 ⟨by show 1 + 60 * ((k : Int)).toNat + 3 + 1 ≤ 420; omega, by show 6 + 360 * ((k : Int)).toNat + 18 + 6 ≤ 2520; omega⟩) (fun z_173 g_174 H locs hw G => ?_)
                obtain ⟨x_175, f_176, e_177⟩ := hw
                have f_178 := frX.tr f_171 f_176
                replace e_177 : z_173 = pd (f 0) (f (4 * k + 1)) := e_177.trans lyF_4
                replace e_177 := e_177.symm
                subst e_177
                refine g_i2l C (by omega) dL_isWhole_172 ?_
                refine g_lrem C (by omega) (by omega) (by omega) dL_isWhole_173 ?_
                refine g_lconst (a := 0) C dL_isWhole_174 (by decide) ?_
                refine g_lcmp C (by omega) (by decide) dL_isWhole_175 (fun z_179 h_180 => ?_)
                refine g_if_ne (tgt := 199) C (by omega) dL_isWhole_176 (by decide) (fun c_181 => absurd c_181 (by omega)) (fun c_181 => ?_)
                refine g_aload_n C dL_isWhole_179 rfl hl 5 rfl ?_
                refine g_iload C dL_isWhole_180 hl 10 rfl ?_
                refine g_iload_n C dL_isWhole_182 rfl hl 6 rfl ?_
                refine g_bipush (a := 31) C dL_isWhole_183 (by decide) ?_
                refine g_iload C dL_isWhole_185 hl 10 rfl ?_
                refine g_imul C dL_isWhole_187 ?_
                refine g_iadd C dL_isWhole_188 ?_
                rw [iz_rI (more + (31 * k))]
                refine g_ci C G (g_runSP (As := [.ref (ad 0), .int (iz k), .int (iz (rI (more + (31 * k))))]) (rest := []) C G X (c_L_isLayer l hlf κ B n ad g_174 HP nl f F9 M9 k (rI (more + (31 * k))) hnn x_175 hkl (rI_in _)) (va_cwS 3 C.1.2.2.2.2 gL_isWhole_L_isLayer rfl rfl rfl (by decide +kernel) ⟨Nat.le_of_ble_eq_true rfl, Nat.le_of_ble_eq_true rfl⟩) rfl hl rfl (Nat.le_of_ble_eq_true rfl) dL_isWhole_189 ⟨by show 1 + 60 * ((k : Int)).toNat + 4 + 50 ≤ 420; omega, by show 6 + 360 * ((k : Int)).toNat + 24 + 300 ≤ 2520; omega⟩) (fun z_182 g_183 H locs hw G => ?_)
                obtain ⟨x_184, f_185, e_186⟩ := hw
                have f_187 := frX.tr f_178 f_185
                subst e_186
                refine g_if_eq (tgt := 199) C (by decide) dL_isWhole_192 (by decide) (fun c9 => absurd c9 (by decide)) (fun _ => ?_)
                refine g_iconst (a := 1) C dL_isWhole_195 rfl ?_
                refine g_goto (tgt := 200) C dL_isWhole_196 (by decide) ?_
                refine lv_istore (lv' := [(9, .int (iz 1)), (6, .int (iz g9)), (5, .int (iz l9)), (4, .int (iz ((cntS (fun x y => PTl f k x y) : Nat) : Int))), (3, .int (iz (s9 + ((cntS (fun x y => PTl f k x y) : Nat) : Int)))), (11, .int (iz ((cntS (fun x y => PTl f k x y) : Nat) : Int))), (0, .ref (ad 0)), (1, .int (iz more)), (2, .int (iz nl)), (7, .long (jz (tgF nl f))), (10, .int (iz k))]) C.1.1 C.1.2.1 dL_isWhole_200 hl (by decide) rfl (fun ls hl => ?_)
                refine lv_iinc (v := iz (k + 1)) (lv' := [(10, .int (iz (k + 1))), (9, .int (iz 1)), (6, .int (iz g9)), (5, .int (iz l9)), (4, .int (iz ((cntS (fun x y => PTl f k x y) : Nat) : Int))), (3, .int (iz (s9 + ((cntS (fun x y => PTl f k x y) : Nat) : Int)))), (11, .int (iz ((cntS (fun x y => PTl f k x y) : Nat) : Int))), (0, .ref (ad 0)), (1, .int (iz more)), (2, .int (iz nl)), (7, .long (jz (tgF nl f)))]) C.1.1 C.1.2.1 dL_isWhole_202 hl (k := 10) rfl (g_inc (by omega)) (by decide) rfl (fun ls hl => ?_)
                refine g_goto (tgt := 65) C dL_isWhole_205 (by decide) ?_
                refine W.widen (k := 1 + 60 * ((k + 1 : Int)).toNat) (n := 6 + 360 * ((k + 1 : Int)).toNat) (by omega) (by omega) ?_
                exact ih_lp_65_n_15 (k + 1) (s9 + ((cntS (fun x y => PTl f k x y) : Nat) : Int)) ((cntS (fun x y => PTl f k x y) : Nat) : Int) l9 g9 g_183 (by omega) x_184 f_187 (by omega) (by omega) (by omega) (by omega) (by omega) _ _ G _ (lv_sub hl [7, 8, 9, 5, 4, 3, 2, 10, 1, 0] rfl)
              · refine g_aload_n C dL_isWhole_143 rfl hl 4 rfl ?_
                refine g_iload C dL_isWhole_144 hl 10 rfl ?_
                refine g_bipush (a := 9) C dL_isWhole_146 (by decide) ?_
                refine g_ci C G (g_runVP (As := [.int (iz k), .int (iz 9)]) (rest := []) (pos := 0) C G X (q_layer l hlf κ B n ad g_167 HP nl f F9 M9 k 9 hnn x_168 hkl (by decide)) (cwV 2 C.1.2.2.2.2 gL_isWhole_X7_layer rfl rfl rfl (by decide +kernel) ⟨Nat.le_of_ble_eq_true rfl, Nat.le_of_ble_eq_true rfl⟩) (by omega) x_168.he (T := TX7) (N := 8) rfl rfl hl rfl (Nat.le_of_ble_eq_true rfl) dL_isWhole_148 ⟨by show 1 + 60 * ((k : Int)).toNat + 3 + 1 ≤ 420; omega, by show 6 + 360 * ((k : Int)).toNat + 18 + 6 ≤ 2520; omega⟩) (fun z_188 g_189 H locs hw G => ?_)
                obtain ⟨x_190, f_191, e_192⟩ := hw
                have f_193 := frX.tr f_171 f_191
                replace e_192 : z_188 = grr f k := e_192.trans lyF_9
                replace e_192 := e_192.symm
                subst e_192
                refine g_goto (tgt := 156) C dL_isWhole_151 (by decide) ?_
                refine lv_istore (lv' := [(6, .int (iz (grr f k))), (5, .int (iz l9)), (4, .int (iz ((cntS (fun x y => PTl f k x y) : Nat) : Int))), (3, .int (iz (s9 + ((cntS (fun x y => PTl f k x y) : Nat) : Int)))), (11, .int (iz ((cntS (fun x y => PTl f k x y) : Nat) : Int))), (0, .ref (ad 0)), (1, .int (iz more)), (2, .int (iz nl)), (7, .long (jz (tgF nl f))), (9, .int (iz 1)), (10, .int (iz k))]) C.1.1 C.1.2.1 dL_isWhole_156 hl (by decide) rfl (fun ls hl => ?_)
                refine g_iload C dL_isWhole_158 hl 9 rfl ?_
                refine g_if_eq (tgt := 199) C (by decide) dL_isWhole_160 (by decide) (fun c9 => absurd c9 (by decide)) (fun _ => ?_)
                refine g_lload C dL_isWhole_163 hl 8 rfl ?_
                refine g_aload_n C dL_isWhole_165 rfl hl 5 rfl ?_
                refine g_iload C dL_isWhole_166 hl 10 rfl ?_
                refine g_iconst (a := 4) C dL_isWhole_168 rfl ?_
                refine g_ci C G (g_runVP (As := [.int (iz k), .int (iz 4)]) (rest := [.long (jz (tgF nl f))]) (pos := 0) C G X (q_layer l hlf κ B n ad g_189 HP nl f F9 M9 k 4 hnn x_190 hkl (by decide)) (cwV 2 C.1.2.2.2.2 gL_isWhole_X7_layer rfl rfl rfl (by decide +kernel) ⟨Nat.le_of_ble_eq_true rfl, Nat.le_of_ble_eq_true rfl⟩) (by omega) x_190.he (T := TX7) (N := 8) rfl rfl hl rfl (Nat.le_of_ble_eq_true rfl) dL_isWhole_169 ⟨by show 1 + 60 * ((k : Int)).toNat + 4 + 1 ≤ 420; omega, by show 6 + 360 * ((k : Int)).toNat + 24 + 6 ≤ 2520; omega⟩) (fun z_194 g_195 H locs hw G => ?_)
                obtain ⟨x_196, f_197, e_198⟩ := hw
                have f_199 := frX.tr f_193 f_197
                replace e_198 : z_194 = pd (f 0) (f (4 * k + 1)) := e_198.trans lyF_4
                replace e_198 := e_198.symm
                subst e_198
                refine g_i2l C (by omega) dL_isWhole_172 ?_
                refine g_lrem C (by omega) (by omega) (by omega) dL_isWhole_173 ?_
                refine g_lconst (a := 0) C dL_isWhole_174 (by decide) ?_
                refine g_lcmp C (by omega) (by decide) dL_isWhole_175 (fun z_200 h_201 => ?_)
                refine g_if_ne (tgt := 199) C (by omega) dL_isWhole_176 (by decide) (fun c_202 => absurd c_202 (by omega)) (fun c_202 => ?_)
                refine g_aload_n C dL_isWhole_179 rfl hl 5 rfl ?_
                refine g_iload C dL_isWhole_180 hl 10 rfl ?_
                refine g_iload_n C dL_isWhole_182 rfl hl 6 rfl ?_
                refine g_bipush (a := 31) C dL_isWhole_183 (by decide) ?_
                refine g_iload C dL_isWhole_185 hl 10 rfl ?_
                refine g_imul C dL_isWhole_187 ?_
                refine g_iadd C dL_isWhole_188 ?_
                rw [iz_rI (more + (31 * k))]
                refine g_ci C G (g_runSP (As := [.ref (ad 0), .int (iz k), .int (iz (rI (more + (31 * k))))]) (rest := []) C G X (c_L_isLayer l hlf κ B n ad g_195 HP nl f F9 M9 k (rI (more + (31 * k))) hnn x_196 hkl (rI_in _)) (va_cwS 3 C.1.2.2.2.2 gL_isWhole_L_isLayer rfl rfl rfl (by decide +kernel) ⟨Nat.le_of_ble_eq_true rfl, Nat.le_of_ble_eq_true rfl⟩) rfl hl rfl (Nat.le_of_ble_eq_true rfl) dL_isWhole_189 ⟨by show 1 + 60 * ((k : Int)).toNat + 5 + 50 ≤ 420; omega, by show 6 + 360 * ((k : Int)).toNat + 30 + 300 ≤ 2520; omega⟩) (fun z_203 g_204 H locs hw G => ?_)
                obtain ⟨x_205, f_206, e_207⟩ := hw
                have f_208 := frX.tr f_199 f_206
                subst e_207
                refine g_if_eq (tgt := 199) C (by decide) dL_isWhole_192 (by decide) (fun c9 => absurd c9 (by decide)) (fun _ => ?_)
                refine g_iconst (a := 1) C dL_isWhole_195 rfl ?_
                refine g_goto (tgt := 200) C dL_isWhole_196 (by decide) ?_
                refine lv_istore (lv' := [(9, .int (iz 1)), (6, .int (iz (grr f k))), (5, .int (iz l9)), (4, .int (iz ((cntS (fun x y => PTl f k x y) : Nat) : Int))), (3, .int (iz (s9 + ((cntS (fun x y => PTl f k x y) : Nat) : Int)))), (11, .int (iz ((cntS (fun x y => PTl f k x y) : Nat) : Int))), (0, .ref (ad 0)), (1, .int (iz more)), (2, .int (iz nl)), (7, .long (jz (tgF nl f))), (10, .int (iz k))]) C.1.1 C.1.2.1 dL_isWhole_200 hl (by decide) rfl (fun ls hl => ?_)
                refine lv_iinc (v := iz (k + 1)) (lv' := [(10, .int (iz (k + 1))), (9, .int (iz 1)), (6, .int (iz (grr f k))), (5, .int (iz l9)), (4, .int (iz ((cntS (fun x y => PTl f k x y) : Nat) : Int))), (3, .int (iz (s9 + ((cntS (fun x y => PTl f k x y) : Nat) : Int)))), (11, .int (iz ((cntS (fun x y => PTl f k x y) : Nat) : Int))), (0, .ref (ad 0)), (1, .int (iz more)), (2, .int (iz nl)), (7, .long (jz (tgF nl f)))]) C.1.1 C.1.2.1 dL_isWhole_202 hl (k := 10) rfl (g_inc (by omega)) (by decide) rfl (fun ls hl => ?_)
                refine g_goto (tgt := 65) C dL_isWhole_205 (by decide) ?_
                refine W.widen (k := 1 + 60 * ((k + 1 : Int)).toNat) (n := 6 + 360 * ((k + 1 : Int)).toNat) (by omega) (by omega) ?_
                exact ih_lp_65_n_15 (k + 1) (s9 + ((cntS (fun x y => PTl f k x y) : Nat) : Int)) ((cntS (fun x y => PTl f k x y) : Nat) : Int) l9 (grr f k) g_204 (by omega) x_205 f_208 (by omega) (by omega) (by omega) (by omega) (by omega) _ _ G _ (lv_sub hl [7, 8, 9, 5, 4, 3, 2, 10, 1, 0] rfl)
            · refine g_aload_n C dL_isWhole_115 rfl hl 3 rfl ?_
              refine g_iload C dL_isWhole_116 hl 10 rfl ?_
              refine g_bipush (a := 8) C dL_isWhole_118 (by decide) ?_
              refine g_ci C G (g_runVP (As := [.int (iz k), .int (iz 8)]) (rest := []) (pos := 0) C G X (q_layer l hlf κ B n ad g_160 HP nl f F9 M9 k 8 hnn x_161 hkl (by decide)) (cwV 2 C.1.2.2.2.2 gL_isWhole_X7_layer rfl rfl rfl (by decide +kernel) ⟨Nat.le_of_ble_eq_true rfl, Nat.le_of_ble_eq_true rfl⟩) (by omega) x_161.he (T := TX7) (N := 8) rfl rfl hl rfl (Nat.le_of_ble_eq_true rfl) dL_isWhole_120 ⟨by show 1 + 60 * ((k : Int)).toNat + 2 + 1 ≤ 420; omega, by show 6 + 360 * ((k : Int)).toNat + 12 + 6 ≤ 2520; omega⟩) (fun z_209 g_210 H locs hw G => ?_)
              obtain ⟨x_211, f_212, e_213⟩ := hw
              have f_214 := frX.tr f_164 f_212
              replace e_213 : z_209 = lsr f k := e_213.trans lyF_8
              replace e_213 := e_213.symm
              subst e_213
              refine g_goto (tgt := 128) C dL_isWhole_123 (by decide) ?_
              refine lv_istore (lv' := [(5, .int (iz (lsr f k))), (4, .int (iz ((cntS (fun x y => PTl f k x y) : Nat) : Int))), (3, .int (iz (s9 + ((cntS (fun x y => PTl f k x y) : Nat) : Int)))), (11, .int (iz ((cntS (fun x y => PTl f k x y) : Nat) : Int))), (0, .ref (ad 0)), (1, .int (iz more)), (2, .int (iz nl)), (6, .int (iz g9)), (7, .long (jz (tgF nl f))), (9, .int (iz 1)), (10, .int (iz k))]) C.1.1 C.1.2.1 dL_isWhole_128 hl (by decide) rfl (fun ls hl => ?_)
              refine g_aload_n C dL_isWhole_130 rfl hl 4 rfl ?_
              refine g_iload C dL_isWhole_131 hl 10 rfl ?_
              refine g_bipush (a := 9) C dL_isWhole_133 (by decide) ?_
              refine g_ci C G (g_runVP (As := [.int (iz k), .int (iz 9)]) (rest := []) (pos := 0) C G X (q_layer l hlf κ B n ad g_210 HP nl f F9 M9 k 9 hnn x_211 hkl (by decide)) (cwV 2 C.1.2.2.2.2 gL_isWhole_X7_layer rfl rfl rfl (by decide +kernel) ⟨Nat.le_of_ble_eq_true rfl, Nat.le_of_ble_eq_true rfl⟩) (by omega) x_211.he (T := TX7) (N := 8) rfl rfl hl rfl (Nat.le_of_ble_eq_true rfl) dL_isWhole_135 ⟨by show 1 + 60 * ((k : Int)).toNat + 3 + 1 ≤ 420; omega, by show 6 + 360 * ((k : Int)).toNat + 18 + 6 ≤ 2520; omega⟩) (fun z_215 g_216 H locs hw G => ?_)
              obtain ⟨x_217, f_218, e_219⟩ := hw
              have f_220 := frX.tr f_214 f_218
              replace e_219 : z_215 = grr f k := e_219.trans lyF_9
              replace e_219 := e_219.symm
              subst e_219
              refine g_iload C dL_isWhole_138 hl 7 rfl ?_
              refine g_icmp_le (tgt := 154) C (by omega) (by omega) dL_isWhole_140 (by decide) (fun c_221 => ?_) (fun c_221 => ?_)
              · refine g_iload C dL_isWhole_154 hl 7 rfl ?_
                refine lv_istore (lv' := [(6, .int (iz g9)), (5, .int (iz (lsr f k))), (4, .int (iz ((cntS (fun x y => PTl f k x y) : Nat) : Int))), (3, .int (iz (s9 + ((cntS (fun x y => PTl f k x y) : Nat) : Int)))), (11, .int (iz ((cntS (fun x y => PTl f k x y) : Nat) : Int))), (0, .ref (ad 0)), (1, .int (iz more)), (2, .int (iz nl)), (7, .long (jz (tgF nl f))), (9, .int (iz 1)), (10, .int (iz k))]) C.1.1 C.1.2.1 dL_isWhole_156 hl (by decide) rfl (fun ls hl => ?_)
                refine g_iload C dL_isWhole_158 hl 9 rfl ?_
                refine g_if_eq (tgt := 199) C (by decide) dL_isWhole_160 (by decide) (fun c9 => absurd c9 (by decide)) (fun _ => ?_)
                refine g_lload C dL_isWhole_163 hl 8 rfl ?_
                refine g_aload_n C dL_isWhole_165 rfl hl 5 rfl ?_
                refine g_iload C dL_isWhole_166 hl 10 rfl ?_
                refine g_iconst (a := 4) C dL_isWhole_168 rfl ?_
                refine g_ci C G (g_runVP (As := [.int (iz k), .int (iz 4)]) (rest := [.long (jz (tgF nl f))]) (pos := 0) C G X (q_layer l hlf κ B n ad g_216 HP nl f F9 M9 k 4 hnn x_217 hkl (by decide)) (cwV 2 C.1.2.2.2.2 gL_isWhole_X7_layer rfl rfl rfl (by decide +kernel) ⟨Nat.le_of_ble_eq_true rfl, Nat.le_of_ble_eq_true rfl⟩) (by omega) x_217.he (T := TX7) (N := 8) rfl rfl hl rfl (Nat.le_of_ble_eq_true rfl) dL_isWhole_169 ⟨by show 1 + 60 * ((k : Int)).toNat + 4 + 1 ≤ 420; omega, by show 6 + 360 * ((k : Int)).toNat + 24 + 6 ≤ 2520; omega⟩) (fun z_222 g_223 H locs hw G => ?_)
                obtain ⟨x_224, f_225, e_226⟩ := hw
                have f_227 := frX.tr f_220 f_225
                replace e_226 : z_222 = pd (f 0) (f (4 * k + 1)) := e_226.trans lyF_4
                replace e_226 := e_226.symm
                subst e_226
                refine g_i2l C (by omega) dL_isWhole_172 ?_
                refine g_lrem C (by omega) (by omega) (by omega) dL_isWhole_173 ?_
                refine g_lconst (a := 0) C dL_isWhole_174 (by decide) ?_
                refine g_lcmp C (by omega) (by decide) dL_isWhole_175 (fun z_228 h_229 => ?_)
                refine g_if_ne (tgt := 199) C (by omega) dL_isWhole_176 (by decide) (fun c_230 => absurd c_230 (by omega)) (fun c_230 => ?_)
                refine g_aload_n C dL_isWhole_179 rfl hl 5 rfl ?_
                refine g_iload C dL_isWhole_180 hl 10 rfl ?_
                refine g_iload_n C dL_isWhole_182 rfl hl 6 rfl ?_
                refine g_bipush (a := 31) C dL_isWhole_183 (by decide) ?_
                refine g_iload C dL_isWhole_185 hl 10 rfl ?_
                refine g_imul C dL_isWhole_187 ?_
                refine g_iadd C dL_isWhole_188 ?_
                rw [iz_rI (more + (31 * k))]
                refine g_ci C G (g_runSP (As := [.ref (ad 0), .int (iz k), .int (iz (rI (more + (31 * k))))]) (rest := []) C G X (c_L_isLayer l hlf κ B n ad g_223 HP nl f F9 M9 k (rI (more + (31 * k))) hnn x_224 hkl (rI_in _)) (va_cwS 3 C.1.2.2.2.2 gL_isWhole_L_isLayer rfl rfl rfl (by decide +kernel) ⟨Nat.le_of_ble_eq_true rfl, Nat.le_of_ble_eq_true rfl⟩) rfl hl rfl (Nat.le_of_ble_eq_true rfl) dL_isWhole_189 ⟨by show 1 + 60 * ((k : Int)).toNat + 5 + 50 ≤ 420; omega, by show 6 + 360 * ((k : Int)).toNat + 30 + 300 ≤ 2520; omega⟩) (fun z_231 g_232 H locs hw G => ?_)
                obtain ⟨x_233, f_234, e_235⟩ := hw
                have f_236 := frX.tr f_227 f_234
                subst e_235
                refine g_if_eq (tgt := 199) C (by decide) dL_isWhole_192 (by decide) (fun c9 => absurd c9 (by decide)) (fun _ => ?_)
                refine g_iconst (a := 1) C dL_isWhole_195 rfl ?_
                refine g_goto (tgt := 200) C dL_isWhole_196 (by decide) ?_
                refine lv_istore (lv' := [(9, .int (iz 1)), (6, .int (iz g9)), (5, .int (iz (lsr f k))), (4, .int (iz ((cntS (fun x y => PTl f k x y) : Nat) : Int))), (3, .int (iz (s9 + ((cntS (fun x y => PTl f k x y) : Nat) : Int)))), (11, .int (iz ((cntS (fun x y => PTl f k x y) : Nat) : Int))), (0, .ref (ad 0)), (1, .int (iz more)), (2, .int (iz nl)), (7, .long (jz (tgF nl f))), (10, .int (iz k))]) C.1.1 C.1.2.1 dL_isWhole_200 hl (by decide) rfl (fun ls hl => ?_)
                refine lv_iinc (v := iz (k + 1)) (lv' := [(10, .int (iz (k + 1))), (9, .int (iz 1)), (6, .int (iz g9)), (5, .int (iz (lsr f k))), (4, .int (iz ((cntS (fun x y => PTl f k x y) : Nat) : Int))), (3, .int (iz (s9 + ((cntS (fun x y => PTl f k x y) : Nat) : Int)))), (11, .int (iz ((cntS (fun x y => PTl f k x y) : Nat) : Int))), (0, .ref (ad 0)), (1, .int (iz more)), (2, .int (iz nl)), (7, .long (jz (tgF nl f)))]) C.1.1 C.1.2.1 dL_isWhole_202 hl (k := 10) rfl (g_inc (by omega)) (by decide) rfl (fun ls hl => ?_)
                refine g_goto (tgt := 65) C dL_isWhole_205 (by decide) ?_
                refine W.widen (k := 1 + 60 * ((k + 1 : Int)).toNat) (n := 6 + 360 * ((k + 1 : Int)).toNat) (by omega) (by omega) ?_
                exact ih_lp_65_n_15 (k + 1) (s9 + ((cntS (fun x y => PTl f k x y) : Nat) : Int)) ((cntS (fun x y => PTl f k x y) : Nat) : Int) (lsr f k) g9 g_232 (by omega) x_233 f_236 (by omega) (by omega) (by omega) (by omega) (by omega) _ _ G _ (lv_sub hl [7, 8, 9, 5, 4, 3, 2, 10, 1, 0] rfl)
              · refine g_aload_n C dL_isWhole_143 rfl hl 4 rfl ?_
                refine g_iload C dL_isWhole_144 hl 10 rfl ?_
                refine g_bipush (a := 9) C dL_isWhole_146 (by decide) ?_
                refine g_ci C G (g_runVP (As := [.int (iz k), .int (iz 9)]) (rest := []) (pos := 0) C G X (q_layer l hlf κ B n ad g_216 HP nl f F9 M9 k 9 hnn x_217 hkl (by decide)) (cwV 2 C.1.2.2.2.2 gL_isWhole_X7_layer rfl rfl rfl (by decide +kernel) ⟨Nat.le_of_ble_eq_true rfl, Nat.le_of_ble_eq_true rfl⟩) (by omega) x_217.he (T := TX7) (N := 8) rfl rfl hl rfl (Nat.le_of_ble_eq_true rfl) dL_isWhole_148 ⟨by show 1 + 60 * ((k : Int)).toNat + 4 + 1 ≤ 420; omega, by show 6 + 360 * ((k : Int)).toNat + 24 + 6 ≤ 2520; omega⟩) (fun z_237 g_238 H locs hw G => ?_)
                obtain ⟨x_239, f_240, e_241⟩ := hw
                have f_242 := frX.tr f_220 f_240
                replace e_241 : z_237 = grr f k := e_241.trans lyF_9
                replace e_241 := e_241.symm
                subst e_241
                refine g_goto (tgt := 156) C dL_isWhole_151 (by decide) ?_
                refine lv_istore (lv' := [(6, .int (iz (grr f k))), (5, .int (iz (lsr f k))), (4, .int (iz ((cntS (fun x y => PTl f k x y) : Nat) : Int))), (3, .int (iz (s9 + ((cntS (fun x y => PTl f k x y) : Nat) : Int)))), (11, .int (iz ((cntS (fun x y => PTl f k x y) : Nat) : Int))), (0, .ref (ad 0)), (1, .int (iz more)), (2, .int (iz nl)), (7, .long (jz (tgF nl f))), (9, .int (iz 1)), (10, .int (iz k))]) C.1.1 C.1.2.1 dL_isWhole_156 hl (by decide) rfl (fun ls hl => ?_)
                refine g_iload C dL_isWhole_158 hl 9 rfl ?_
                refine g_if_eq (tgt := 199) C (by decide) dL_isWhole_160 (by decide) (fun c9 => absurd c9 (by decide)) (fun _ => ?_)
                refine g_lload C dL_isWhole_163 hl 8 rfl ?_
                refine g_aload_n C dL_isWhole_165 rfl hl 5 rfl ?_
                refine g_iload C dL_isWhole_166 hl 10 rfl ?_
                refine g_iconst (a := 4) C dL_isWhole_168 rfl ?_
                refine g_ci C G (g_runVP (As := [.int (iz k), .int (iz 4)]) (rest := [.long (jz (tgF nl f))]) (pos := 0) C G X (q_layer l hlf κ B n ad g_238 HP nl f F9 M9 k 4 hnn x_239 hkl (by decide)) (cwV 2 C.1.2.2.2.2 gL_isWhole_X7_layer rfl rfl rfl (by decide +kernel) ⟨Nat.le_of_ble_eq_true rfl, Nat.le_of_ble_eq_true rfl⟩) (by omega) x_239.he (T := TX7) (N := 8) rfl rfl hl rfl (Nat.le_of_ble_eq_true rfl) dL_isWhole_169 ⟨by show 1 + 60 * ((k : Int)).toNat + 5 + 1 ≤ 420; omega, by show 6 + 360 * ((k : Int)).toNat + 30 + 6 ≤ 2520; omega⟩) (fun z_243 g_244 H locs hw G => ?_)
                obtain ⟨x_245, f_246, e_247⟩ := hw
                have f_248 := frX.tr f_242 f_246
                replace e_247 : z_243 = pd (f 0) (f (4 * k + 1)) := e_247.trans lyF_4
                replace e_247 := e_247.symm
                subst e_247
                refine g_i2l C (by omega) dL_isWhole_172 ?_
                refine g_lrem C (by omega) (by omega) (by omega) dL_isWhole_173 ?_
                refine g_lconst (a := 0) C dL_isWhole_174 (by decide) ?_
                refine g_lcmp C (by omega) (by decide) dL_isWhole_175 (fun z_249 h_250 => ?_)
                refine g_if_ne (tgt := 199) C (by omega) dL_isWhole_176 (by decide) (fun c_251 => absurd c_251 (by omega)) (fun c_251 => ?_)
                refine g_aload_n C dL_isWhole_179 rfl hl 5 rfl ?_
                refine g_iload C dL_isWhole_180 hl 10 rfl ?_
                refine g_iload_n C dL_isWhole_182 rfl hl 6 rfl ?_
                refine g_bipush (a := 31) C dL_isWhole_183 (by decide) ?_
                refine g_iload C dL_isWhole_185 hl 10 rfl ?_
                refine g_imul C dL_isWhole_187 ?_
                refine g_iadd C dL_isWhole_188 ?_
                rw [iz_rI (more + (31 * k))]
                refine g_ci C G (g_runSP (As := [.ref (ad 0), .int (iz k), .int (iz (rI (more + (31 * k))))]) (rest := []) C G X (c_L_isLayer l hlf κ B n ad g_244 HP nl f F9 M9 k (rI (more + (31 * k))) hnn x_245 hkl (rI_in _)) (va_cwS 3 C.1.2.2.2.2 gL_isWhole_L_isLayer rfl rfl rfl (by decide +kernel) ⟨Nat.le_of_ble_eq_true rfl, Nat.le_of_ble_eq_true rfl⟩) rfl hl rfl (Nat.le_of_ble_eq_true rfl) dL_isWhole_189 ⟨by show 1 + 60 * ((k : Int)).toNat + 6 + 50 ≤ 420; omega, by show 6 + 360 * ((k : Int)).toNat + 36 + 300 ≤ 2520; omega⟩) (fun z_252 g_253 H locs hw G => ?_)
                obtain ⟨x_254, f_255, e_256⟩ := hw
                have f_257 := frX.tr f_248 f_255
                subst e_256
                refine g_if_eq (tgt := 199) C (by decide) dL_isWhole_192 (by decide) (fun c9 => absurd c9 (by decide)) (fun _ => ?_)
                refine g_iconst (a := 1) C dL_isWhole_195 rfl ?_
                refine g_goto (tgt := 200) C dL_isWhole_196 (by decide) ?_
                refine lv_istore (lv' := [(9, .int (iz 1)), (6, .int (iz (grr f k))), (5, .int (iz (lsr f k))), (4, .int (iz ((cntS (fun x y => PTl f k x y) : Nat) : Int))), (3, .int (iz (s9 + ((cntS (fun x y => PTl f k x y) : Nat) : Int)))), (11, .int (iz ((cntS (fun x y => PTl f k x y) : Nat) : Int))), (0, .ref (ad 0)), (1, .int (iz more)), (2, .int (iz nl)), (7, .long (jz (tgF nl f))), (10, .int (iz k))]) C.1.1 C.1.2.1 dL_isWhole_200 hl (by decide) rfl (fun ls hl => ?_)
                refine lv_iinc (v := iz (k + 1)) (lv' := [(10, .int (iz (k + 1))), (9, .int (iz 1)), (6, .int (iz (grr f k))), (5, .int (iz (lsr f k))), (4, .int (iz ((cntS (fun x y => PTl f k x y) : Nat) : Int))), (3, .int (iz (s9 + ((cntS (fun x y => PTl f k x y) : Nat) : Int)))), (11, .int (iz ((cntS (fun x y => PTl f k x y) : Nat) : Int))), (0, .ref (ad 0)), (1, .int (iz more)), (2, .int (iz nl)), (7, .long (jz (tgF nl f)))]) C.1.1 C.1.2.1 dL_isWhole_202 hl (k := 10) rfl (g_inc (by omega)) (by decide) rfl (fun ls hl => ?_)
                refine g_goto (tgt := 65) C dL_isWhole_205 (by decide) ?_
                refine W.widen (k := 1 + 60 * ((k + 1 : Int)).toNat) (n := 6 + 360 * ((k + 1 : Int)).toNat) (by omega) (by omega) ?_
                exact ih_lp_65_n_15 (k + 1) (s9 + ((cntS (fun x y => PTl f k x y) : Nat) : Int)) ((cntS (fun x y => PTl f k x y) : Nat) : Int) (lsr f k) (grr f k) g_253 (by omega) x_254 f_257 (by omega) (by omega) (by omega) (by omega) (by omega) _ _ G _ (lv_sub hl [7, 8, 9, 5, 4, 3, 2, 10, 1, 0] rfl)
    refine W.widen (k := 1 + 60 * ((0 : Int)).toNat) (n := 6 + 360 * ((0 : Int)).toNat) (by omega) (by omega) ?_
    exact lp_65_n_15 _ 0 0 0 1000 (-9) g_8 (Nat.lt_succ_self _) x_9 f_12 (by omega) (by rw [ALL_0]; omega) (by omega) ⟨fun _ => rfl, fun q => absurd q (by omega)⟩ rfl _ _ G _ (lv_sub hl [8, 9, 7, 6, 5, 4, 3, 2, 1, 0] rfl)
  · have hz : nl = 0 := by omega
    have hbk : bkF nl f = -9 := if_pos hz
    have htg : tgF nl f = 0 := if_pos hz
    have hAA := (ends_A hok nl.toNat (by omega)).1 (by omega)
    have hcA : cntS (ALLp nl f) = 0 := by rw [hz]; exact ALL_0
    refine g_bipush (a := (-9)) C dL_isWhole_15 (by decide) ?_
    refine g_goto (tgt := 23) C dL_isWhole_17 (by decide) ?_
    refine lv_istore (lv' := [(5, .int (iz (-9))), (4, .int (iz 0)), (3, .int (iz 0)), (2, .int (iz nl)), (0, .ref (ad 0)), (1, .int (iz more))]) C.1.1 C.1.2.1 dL_isWhole_23 hl (by decide) rfl (fun ls hl => ?_)
    refine g_bipush (a := (-9)) C dL_isWhole_25 (by decide) ?_
    refine lv_istore (lv' := [(6, .int (iz (-9))), (5, .int (iz (-9))), (4, .int (iz 0)), (3, .int (iz 0)), (2, .int (iz nl)), (0, .ref (ad 0)), (1, .int (iz more))]) C.1.1 C.1.2.1 dL_isWhole_27 hl (by decide) rfl (fun ls hl => ?_)
    refine g_aload_n C dL_isWhole_29 rfl hl 5 rfl ?_
    refine g_cl C G (g_runVP (As := []) (rest := []) (pos := 0) C G X (q_together l hlf κ B n ad g_2 HP nl f F9 M9 hnn x_3) (cwV 0 C.1.2.2.2.2 gL_isWhole_X7_together rfl rfl rfl (by decide +kernel) ⟨Nat.le_of_ble_eq_true rfl, Nat.le_of_ble_eq_true rfl⟩) (by omega) x_3.he (T := TX7) (N := 8) rfl rfl hl rfl (Nat.le_of_ble_eq_true rfl) dL_isWhole_30 ⟨Nat.le_of_ble_eq_true rfl, Nat.le_of_ble_eq_true rfl⟩) (fun z_258 g_259 H locs hw G => ?_)
    obtain ⟨x_260, f_261, e_262⟩ := hw
    have f_263 := frX.tr f_4 f_261
    subst e_262
    refine lv_lstore (lv' := [(7, .long (jz (tgF nl f))), (6, .int (iz (-9))), (5, .int (iz (-9))), (4, .int (iz 0)), (3, .int (iz 0)), (2, .int (iz nl)), (0, .ref (ad 0)), (1, .int (iz more))]) C.1.1 C.1.2.1 dL_isWhole_33 hl (by decide) rfl (fun ls hl => ?_)
    refine g_iload_n C dL_isWhole_35 rfl hl 5 rfl ?_
    refine g_if_gt (tgt := 55) C (by omega) dL_isWhole_36 (by decide) (fun c_264 => absurd c_264 (by omega)) (fun c_264 => ?_)
    refine g_lload C dL_isWhole_39 hl 0 rfl ?_
    refine g_lconst (a := 0) C dL_isWhole_41 (by decide) ?_
    refine g_lcmp C (by omega) (by decide) dL_isWhole_42 (fun z_265 h_266 => ?_)
    refine g_if_ne (tgt := 59) C (by omega) dL_isWhole_43 (by decide) (fun c_267 => absurd c_267 (by omega)) (fun c_267 => ?_)
    refine g_aload_n C dL_isWhole_46 rfl hl 6 rfl ?_
    refine g_ci C G (g_runVP (As := []) (rest := []) (pos := 0) C G X (q_blank l hlf κ B n ad g_259 HP nl f F9 M9 hnn x_260) (cwV 0 C.1.2.2.2.2 gL_isWhole_X7_blank rfl rfl rfl (by decide +kernel) ⟨Nat.le_of_ble_eq_true rfl, Nat.le_of_ble_eq_true rfl⟩) (by omega) x_260.he (T := TX7) (N := 8) rfl rfl hl rfl (Nat.le_of_ble_eq_true rfl) dL_isWhole_47 ⟨Nat.le_of_ble_eq_true rfl, Nat.le_of_ble_eq_true rfl⟩) (fun z_268 g_269 H locs hw G => ?_)
    obtain ⟨x_270, f_271, e_272⟩ := hw
    have f_273 := frX.tr f_263 f_271
    subst e_272
    refine g_bipush (a := (-9)) C dL_isWhole_50 (by decide) ?_
    refine g_icmp_ne (tgt := 59) C (by omega) (by omega) dL_isWhole_52 (by decide) (fun c_274 => absurd c_274 (by omega)) (fun c_274 => ?_)
    refine g_iconst (a := 1) C dL_isWhole_55 rfl ?_
    refine g_goto (tgt := 60) C dL_isWhole_56 (by decide) ?_
    refine lv_istore (lv' := [(9, .int (iz 1)), (7, .long (jz (tgF nl f))), (6, .int (iz (-9))), (5, .int (iz (-9))), (4, .int (iz 0)), (3, .int (iz 0)), (2, .int (iz nl)), (0, .ref (ad 0)), (1, .int (iz more))]) C.1.1 C.1.2.1 dL_isWhole_60 hl (by decide) rfl (fun ls hl => ?_)
    refine g_iconst (a := 0) C dL_isWhole_62 rfl ?_
    refine lv_istore (lv' := [(10, .int (iz 0)), (9, .int (iz 1)), (7, .long (jz (tgF nl f))), (6, .int (iz (-9))), (5, .int (iz (-9))), (4, .int (iz 0)), (3, .int (iz 0)), (2, .int (iz nl)), (0, .ref (ad 0)), (1, .int (iz more))]) C.1.1 C.1.2.1 dL_isWhole_63 hl (by decide) rfl (fun ls hl => ?_)
    refine g_iload C dL_isWhole_65 hl 0 rfl ?_
    refine g_iload_n C dL_isWhole_67 rfl hl 7 rfl ?_
    refine g_icmp_ge (tgt := 208) C (by decide) (by omega) dL_isWhole_68 (by decide) (fun c_275 => ?_) (fun c_275 => absurd c_275 (by omega))
    refine g_iload C dL_isWhole_208 hl 1 rfl ?_
    refine g_if_eq (tgt := 272) C (by decide) dL_isWhole_210 (by decide) (fun c9 => absurd c9 (by decide)) (fun _ => ?_)
    refine g_aload_n C dL_isWhole_213 rfl hl 8 rfl ?_
    refine g_iconst (a := 3) C dL_isWhole_214 rfl ?_
    refine g_ci C G (g_runVP (As := [.int (iz 3)]) (rest := []) (pos := 0) C G X (q_about l hlf κ B n ad g_269 HP nl f F9 M9 3 hnn x_270 (by decide)) (cwV 1 C.1.2.2.2.2 gL_isWhole_X7_about rfl rfl rfl (by decide +kernel) ⟨Nat.le_of_ble_eq_true rfl, Nat.le_of_ble_eq_true rfl⟩) (by omega) x_270.he (T := TX7) (N := 8) rfl rfl hl rfl (Nat.le_of_ble_eq_true rfl) dL_isWhole_215 ⟨Nat.le_of_ble_eq_true rfl, Nat.le_of_ble_eq_true rfl⟩) (fun z_276 g_277 H locs hw G => ?_)
    obtain ⟨x_278, f_279, e_280⟩ := hw
    have f_281 := frX.tr f_273 f_279
    replace e_280 : z_276 = ((cntS (ALLp nl f) : Nat) : Int) := e_280.trans abF_3
    replace e_280 := e_280.symm
    subst e_280
    refine g_iload_n C dL_isWhole_218 rfl hl 6 rfl ?_
    refine g_icmp_gt (tgt := 272) C (by omega) (by decide) dL_isWhole_219 (by decide) (fun c_282 => absurd c_282 (by omega)) (fun c_282 => ?_)
    refine g_aload_n C dL_isWhole_222 rfl hl 8 rfl ?_
    refine g_iconst (a := 3) C dL_isWhole_223 rfl ?_
    refine g_ci C G (g_runVP (As := [.int (iz 3)]) (rest := []) (pos := 0) C G X (q_about l hlf κ B n ad g_277 HP nl f F9 M9 3 hnn x_278 (by decide)) (cwV 1 C.1.2.2.2.2 gL_isWhole_X7_about rfl rfl rfl (by decide +kernel) ⟨Nat.le_of_ble_eq_true rfl, Nat.le_of_ble_eq_true rfl⟩) (by omega) x_278.he (T := TX7) (N := 8) rfl rfl hl rfl (Nat.le_of_ble_eq_true rfl) dL_isWhole_224 ⟨Nat.le_of_ble_eq_true rfl, Nat.le_of_ble_eq_true rfl⟩) (fun z_283 g_284 H locs hw G => ?_)
    obtain ⟨x_285, f_286, e_287⟩ := hw
    have f_288 := frX.tr f_281 f_286
    replace e_287 : z_283 = ((cntS (ALLp nl f) : Nat) : Int) := e_287.trans abF_3
    replace e_287 := e_287.symm
    subst e_287
    refine g_iload C dL_isWhole_227 hl 5 rfl ?_
    refine g_icmp_lt (tgt := 272) C (by omega) (by decide) dL_isWhole_229 (by decide) (fun c_289 => absurd c_289 (by omega)) (fun c_289 => ?_)
    refine g_aload_n C dL_isWhole_232 rfl hl 8 rfl ?_
    refine g_iconst (a := 4) C dL_isWhole_233 rfl ?_
    refine g_ci C G (g_runVP (As := [.int (iz 4)]) (rest := []) (pos := 0) C G X (q_about l hlf κ B n ad g_284 HP nl f F9 M9 4 hnn x_285 (by decide)) (cwV 1 C.1.2.2.2.2 gL_isWhole_X7_about rfl rfl rfl (by decide +kernel) ⟨Nat.le_of_ble_eq_true rfl, Nat.le_of_ble_eq_true rfl⟩) (by omega) x_285.he (T := TX7) (N := 8) rfl rfl hl rfl (Nat.le_of_ble_eq_true rfl) dL_isWhole_234 ⟨Nat.le_of_ble_eq_true rfl, Nat.le_of_ble_eq_true rfl⟩) (fun z_290 g_291 H locs hw G => ?_)
    obtain ⟨x_292, f_293, e_294⟩ := hw
    have f_295 := frX.tr f_288 f_293
    replace e_294 : z_290 = lsA f nl.toNat := e_294.trans abF_4
    replace e_294 := e_294.symm
    subst e_294
    refine g_iload C dL_isWhole_237 hl 4 rfl ?_
    refine g_icmp_ne (tgt := 272) C (by omega) (by omega) dL_isWhole_239 (by decide) (fun c_296 => absurd c_296 (by omega)) (fun c_296 => ?_)
    refine g_aload_n C dL_isWhole_242 rfl hl 8 rfl ?_
    refine g_iconst (a := 5) C dL_isWhole_243 rfl ?_
    refine g_ci C G (g_runVP (As := [.int (iz 5)]) (rest := []) (pos := 0) C G X (q_about l hlf κ B n ad g_291 HP nl f F9 M9 5 hnn x_292 (by decide)) (cwV 1 C.1.2.2.2.2 gL_isWhole_X7_about rfl rfl rfl (by decide +kernel) ⟨Nat.le_of_ble_eq_true rfl, Nat.le_of_ble_eq_true rfl⟩) (by omega) x_292.he (T := TX7) (N := 8) rfl rfl hl rfl (Nat.le_of_ble_eq_true rfl) dL_isWhole_244 ⟨Nat.le_of_ble_eq_true rfl, Nat.le_of_ble_eq_true rfl⟩) (fun z_297 g_298 H locs hw G => ?_)
    obtain ⟨x_299, f_300, e_301⟩ := hw
    have f_302 := frX.tr f_295 f_300
    replace e_301 : z_297 = grA f nl.toNat := e_301.trans abF_5
    replace e_301 := e_301.symm
    subst e_301
    refine g_iload C dL_isWhole_247 hl 3 rfl ?_
    refine g_icmp_ne (tgt := 272) C (by omega) (by omega) dL_isWhole_249 (by decide) (fun c_303 => absurd c_303 (by omega)) (fun c_303 => ?_)
    refine g_iload_n C dL_isWhole_252 rfl hl 7 rfl ?_
    refine g_if_eq (tgt := 268) C (by omega) dL_isWhole_253 (by decide) (fun c_304 => ?_) (fun c_304 => absurd c_304 (by omega))
    refine g_iconst (a := 1) C dL_isWhole_268 rfl ?_
    refine g_goto (tgt := 273) C dL_isWhole_269 (by decide) ?_
    refine g_zret C G hr hlk (by decide) (Nat.le_of_ble_eq_true rfl) (Nat.le_of_ble_eq_true rfl) dL_isWhole_273 ?_
    exact ⟨x_299, f_302, rfl⟩
