/-! THE LAW: isLayer -/
set_option maxHeartbeats 4000000 in
set_option maxRecDepth 100000 in
theorem c_L_isLayer (l : Launch) (hlf : l.stackTraces = false) (κ : gKap) (B n : Nat) (ad : Nat → Nat) (g : Nat → va_E) (HP : gHP) (nl : Int) (f : Int → Int) (F9 : Int → Int) (M9 : Int → Int × (Int → Int)) (li : Int) (more : Int) (hnn : 192 ≤ n) (h : XI κ ad g HP nl f F9 M9) (hli : 0 ≤ li ∧ li < nl) (hmo : inI more) : Met l yL_isLayer wsL_isLayer ({ frames := 7, cells := 50, slots := 300, locals := 144 }) (gPreX κ B n ad g [.ref (ad 0), .int (iz li), .int (iz more)]) (gQi κ B n ad (fun z g' => XI κ ad g' HP nl f F9 M9 ∧ frX n g g' ∧ z = 1)) 50 300 (gFree B) := by
  refine g_metP RL (cc := cL_isLayer) (maxL := 12) (ret := (some .boolean)) (by decide) rfl rfl (Nat.le_of_ble_eq_true rfl) ?_
  intro p e s m args below meth c C hr hlk X G ls hl
  have hl : lv_has ls 12 [(0, .ref (ad 0)), (1, .int (iz li)), (2, .int (iz more))] := hl
  have hok := h.ok
  obtain ⟨p1, p2, p3, p4, p5⟩ := ly_per hok hli
  have ppd := pd_rg hok hli
  obtain ⟨-, hst, hrg, hwh⟩ := hok.lay9 hli
  have hls := ls_rg hok hli
  have hcn := pts_pd hok hli
  have hc0 := cn_le (f := f) li
  have q0 := pe_all hok hli 0
  have q00 := pe_0 hok hli
  have hn6 := hok.1
  refine g_aload_n C dL_isLayer_0 rfl hl 0 rfl ?_
  refine g_iconst (a := 0) C dL_isLayer_1 rfl ?_
  refine g_ci C G (g_runVP (As := [.int (iz 0)]) (rest := []) (pos := 0) C G X (q_about l hlf κ B n ad g HP nl f F9 M9 0 hnn h (by decide)) (cwV 1 C.1.2.2.2.2 gL_isLayer_X7_about rfl rfl rfl (by decide +kernel) ⟨Nat.le_of_ble_eq_true rfl, Nat.le_of_ble_eq_true rfl⟩) (by omega) h.he (T := TX7) (N := 8) rfl rfl hl rfl (Nat.le_of_ble_eq_true rfl) dL_isLayer_2 ⟨Nat.le_of_ble_eq_true rfl, Nat.le_of_ble_eq_true rfl⟩) (fun z_1 g_2 H locs hw G => ?_)
  obtain ⟨x_3, f_4, e_5⟩ := hw
  replace e_5 : z_1 = f 0 := e_5.trans abF_0
  subst e_5
  refine lv_istore_n (lv' := [(3, .int (iz (f 0))), (0, .ref (ad 0)), (1, .int (iz li)), (2, .int (iz more))]) C.1.1 C.1.2.1 dL_isLayer_5 rfl hl (by decide) rfl (fun ls hl => ?_)
  refine g_aload_n C dL_isLayer_6 rfl hl 1 rfl ?_
  refine g_iload_n C dL_isLayer_7 rfl hl 2 rfl ?_
  refine g_iconst (a := 4) C dL_isLayer_8 rfl ?_
  refine g_ci C G (g_runVP (As := [.int (iz li), .int (iz 4)]) (rest := []) (pos := 0) C G X (q_layer l hlf κ B n ad g_2 HP nl f F9 M9 li 4 hnn x_3 hli (by decide)) (cwV 2 C.1.2.2.2.2 gL_isLayer_X7_layer rfl rfl rfl (by decide +kernel) ⟨Nat.le_of_ble_eq_true rfl, Nat.le_of_ble_eq_true rfl⟩) (by omega) x_3.he (T := TX7) (N := 8) rfl rfl hl rfl (Nat.le_of_ble_eq_true rfl) dL_isLayer_9 ⟨Nat.le_of_ble_eq_true rfl, Nat.le_of_ble_eq_true rfl⟩) (fun z_6 g_7 H locs hw G => ?_)
  obtain ⟨x_8, f_9, e_10⟩ := hw
  have f_11 := frX.tr f_4 f_9
  replace e_10 : z_6 = pd (f 0) (f (4 * li + 1)) := e_10.trans lyF_4
  subst e_10
  refine lv_istore (lv' := [(4, .int (iz (pd (f 0) (f (4 * li + 1))))), (3, .int (iz (f 0))), (0, .ref (ad 0)), (1, .int (iz li)), (2, .int (iz more))]) C.1.1 C.1.2.1 dL_isLayer_12 hl (by decide) rfl (fun ls hl => ?_)
  refine g_aload_n C dL_isLayer_14 rfl hl 2 rfl ?_
  refine g_iload_n C dL_isLayer_15 rfl hl 3 rfl ?_
  refine g_iconst (a := 5) C dL_isLayer_16 rfl ?_
  refine g_ci C G (g_runVP (As := [.int (iz li), .int (iz 5)]) (rest := []) (pos := 0) C G X (q_layer l hlf κ B n ad g_7 HP nl f F9 M9 li 5 hnn x_8 hli (by decide)) (cwV 2 C.1.2.2.2.2 gL_isLayer_X7_layer rfl rfl rfl (by decide +kernel) ⟨Nat.le_of_ble_eq_true rfl, Nat.le_of_ble_eq_true rfl⟩) (by omega) x_8.he (T := TX7) (N := 8) rfl rfl hl rfl (Nat.le_of_ble_eq_true rfl) dL_isLayer_17 ⟨Nat.le_of_ble_eq_true rfl, Nat.le_of_ble_eq_true rfl⟩) (fun z_12 g_13 H locs hw G => ?_)
  obtain ⟨x_14, f_15, e_16⟩ := hw
  have f_17 := frX.tr f_11 f_15
  replace e_16 : z_12 = tn (f 0) (f (4 * li + 1)) := e_16.trans lyF_5
  subst e_16
  refine lv_istore (lv' := [(5, .int (iz (tn (f 0) (f (4 * li + 1))))), (4, .int (iz (pd (f 0) (f (4 * li + 1))))), (3, .int (iz (f 0))), (0, .ref (ad 0)), (1, .int (iz li)), (2, .int (iz more))]) C.1.1 C.1.2.1 dL_isLayer_20 hl (by decide) rfl (fun ls hl => ?_)
  refine g_aload_n C dL_isLayer_22 rfl hl 3 rfl ?_
  refine g_iload_n C dL_isLayer_23 rfl hl 4 rfl ?_
  refine g_bipush (a := 6) C dL_isLayer_24 (by decide) ?_
  refine g_ci C G (g_runVP (As := [.int (iz li), .int (iz 6)]) (rest := []) (pos := 0) C G X (q_layer l hlf κ B n ad g_13 HP nl f F9 M9 li 6 hnn x_14 hli (by decide)) (cwV 2 C.1.2.2.2.2 gL_isLayer_X7_layer rfl rfl rfl (by decide +kernel) ⟨Nat.le_of_ble_eq_true rfl, Nat.le_of_ble_eq_true rfl⟩) (by omega) x_14.he (T := TX7) (N := 8) rfl rfl hl rfl (Nat.le_of_ble_eq_true rfl) dL_isLayer_26 ⟨Nat.le_of_ble_eq_true rfl, Nat.le_of_ble_eq_true rfl⟩) (fun z_18 g_19 H locs hw G => ?_)
  obtain ⟨x_20, f_21, e_22⟩ := hw
  have f_23 := frX.tr f_17 f_21
  replace e_22 : z_18 = lb (f 0) (f (4 * li + 1)) := e_22.trans lyF_6
  subst e_22
  refine lv_istore (lv' := [(6, .int (iz (lb (f 0) (f (4 * li + 1))))), (5, .int (iz (tn (f 0) (f (4 * li + 1))))), (4, .int (iz (pd (f 0) (f (4 * li + 1))))), (3, .int (iz (f 0))), (0, .ref (ad 0)), (1, .int (iz li)), (2, .int (iz more))]) C.1.1 C.1.2.1 dL_isLayer_29 hl (by decide) rfl (fun ls hl => ?_)
  refine g_iload C dL_isLayer_31 hl 1 rfl ?_
  refine g_iload_n C dL_isLayer_33 rfl hl 3 rfl ?_
  refine g_imul C dL_isLayer_34 ?_
  refine g_iload C dL_isLayer_35 hl 2 rfl ?_
  refine g_icmp_ne (tgt := 69) C (by omega) (by omega) dL_isLayer_37 (by decide) (fun c_24 => absurd c_24 (by omega)) (fun c_24 => ?_)
  refine g_iload C dL_isLayer_40 hl 0 rfl ?_
  refine g_aload_n C dL_isLayer_42 rfl hl 4 rfl ?_
  refine g_iload_n C dL_isLayer_43 rfl hl 5 rfl ?_
  refine g_iconst (a := 0) C dL_isLayer_44 rfl ?_
  refine g_ci C G (g_runVP (As := [.int (iz li), .int (iz 0)]) (rest := [.int (iz (lb (f 0) (f (4 * li + 1))))]) (pos := 0) C G X (q_layer l hlf κ B n ad g_19 HP nl f F9 M9 li 0 hnn x_20 hli (by decide)) (cwV 2 C.1.2.2.2.2 gL_isLayer_X7_layer rfl rfl rfl (by decide +kernel) ⟨Nat.le_of_ble_eq_true rfl, Nat.le_of_ble_eq_true rfl⟩) (by omega) x_20.he (T := TX7) (N := 8) rfl rfl hl rfl (Nat.le_of_ble_eq_true rfl) dL_isLayer_45 ⟨Nat.le_of_ble_eq_true rfl, Nat.le_of_ble_eq_true rfl⟩) (fun z_25 g_26 H locs hw G => ?_)
  obtain ⟨x_27, f_28, e_29⟩ := hw
  have f_30 := frX.tr f_23 f_28
  replace e_29 : z_25 = f (4 * li + 1) := e_29.trans lyF_0
  subst e_29
  refine g_imul C dL_isLayer_48 ?_
  refine g_iload C dL_isLayer_49 hl 2 rfl ?_
  refine g_icmp_ne (tgt := 69) C (by omega) (by omega) dL_isLayer_51 (by decide) (fun c_31 => absurd c_31 (by omega)) (fun c_31 => ?_)
  refine g_iload C dL_isLayer_54 hl 1 rfl ?_
  refine g_iload C dL_isLayer_56 hl 0 rfl ?_
  refine g_ci C G (g_runS (As := [.int (iz (tn (f 0) (f (4 * li + 1)))), .int (iz (lb (f 0) (f (4 * li + 1))))]) (rest := []) C G (c_L_divisor l κ B n ad g_26 (tn (f 0) (f (4 * li + 1))) (lb (f 0) (f (4 * li + 1))) (by omega) (by omega)) (va_cwS 2 C.1.2.2.2.2 gL_isLayer_L_divisor rfl rfl rfl (by decide +kernel) ⟨Nat.le_of_ble_eq_true rfl, Nat.le_of_ble_eq_true rfl⟩) rfl hl rfl (Nat.le_of_ble_eq_true rfl) dL_isLayer_58 ⟨Nat.le_of_ble_eq_true rfl, Nat.le_of_ble_eq_true rfl⟩) (fun z_32 g9 H locs hw G => ?_)
  obtain ⟨hg9, e_33⟩ := hw
  replace hg9 := hg9.symm
  subst hg9
  refine g_iconst (a := 1) C dL_isLayer_61 rfl ?_
  refine g_icmp_ne (tgt := 69) C (by omega) (by decide) dL_isLayer_62 (by decide) (fun c_34 => absurd c_34 (by omega)) (fun c_34 => ?_)
  refine g_iconst (a := 1) C dL_isLayer_65 rfl ?_
  refine g_goto (tgt := 70) C dL_isLayer_66 (by decide) ?_
  refine lv_istore (lv' := [(7, .int (iz 1)), (6, .int (iz (lb (f 0) (f (4 * li + 1))))), (5, .int (iz (tn (f 0) (f (4 * li + 1))))), (4, .int (iz (pd (f 0) (f (4 * li + 1))))), (3, .int (iz (f 0))), (0, .ref (ad 0)), (1, .int (iz li)), (2, .int (iz more))]) C.1.1 C.1.2.1 dL_isLayer_70 hl (by decide) rfl (fun ls hl => ?_)
  refine g_iload C dL_isLayer_72 hl 0 rfl ?_
  refine g_if_eq (tgt := 129) C (by decide) dL_isLayer_74 (by decide) (fun c9 => absurd c9 (by decide)) (fun _ => ?_)
  refine g_aload_n C dL_isLayer_77 rfl hl 5 rfl ?_
  refine g_iload_n C dL_isLayer_78 rfl hl 6 rfl ?_
  refine g_bipush (a := 7) C dL_isLayer_79 (by decide) ?_
  refine g_ci C G (g_runVP (As := [.int (iz li), .int (iz 7)]) (rest := []) (pos := 0) C G X (q_layer l hlf κ B n ad g_26 HP nl f F9 M9 li 7 hnn x_27 hli (by decide)) (cwV 2 C.1.2.2.2.2 gL_isLayer_X7_layer rfl rfl rfl (by decide +kernel) ⟨Nat.le_of_ble_eq_true rfl, Nat.le_of_ble_eq_true rfl⟩) (by omega) x_27.he (T := TX7) (N := 8) rfl rfl hl rfl (Nat.le_of_ble_eq_true rfl) dL_isLayer_81 ⟨Nat.le_of_ble_eq_true rfl, Nat.le_of_ble_eq_true rfl⟩) (fun z_35 g_36 H locs hw G => ?_)
  obtain ⟨x_37, f_38, e_39⟩ := hw
  have f_40 := frX.tr f_30 f_38
  replace e_39 : z_35 = ((cntS (fun x y => PTl f li x y) : Nat) : Int) := e_39.trans lyF_7
  subst e_39
  refine g_iload C dL_isLayer_84 hl 3 rfl ?_
  refine g_icmp_gt (tgt := 129) C (by omega) (by omega) dL_isLayer_86 (by decide) (fun c_41 => absurd c_41 (by omega)) (fun c_41 => ?_)
  refine g_aload_n C dL_isLayer_89 rfl hl 5 rfl ?_
  refine g_iload_n C dL_isLayer_90 rfl hl 6 rfl ?_
  refine g_bipush (a := 8) C dL_isLayer_91 (by decide) ?_
  refine g_ci C G (g_runVP (As := [.int (iz li), .int (iz 8)]) (rest := []) (pos := 0) C G X (q_layer l hlf κ B n ad g_36 HP nl f F9 M9 li 8 hnn x_37 hli (by decide)) (cwV 2 C.1.2.2.2.2 gL_isLayer_X7_layer rfl rfl rfl (by decide +kernel) ⟨Nat.le_of_ble_eq_true rfl, Nat.le_of_ble_eq_true rfl⟩) (by omega) x_37.he (T := TX7) (N := 8) rfl rfl hl rfl (Nat.le_of_ble_eq_true rfl) dL_isLayer_93 ⟨Nat.le_of_ble_eq_true rfl, Nat.le_of_ble_eq_true rfl⟩) (fun z_42 g_43 H locs hw G => ?_)
  obtain ⟨x_44, f_45, e_46⟩ := hw
  have f_47 := frX.tr f_40 f_45
  replace e_46 : z_42 = lsr f li := e_46.trans lyF_8
  subst e_46
  refine g_aload_n C dL_isLayer_96 rfl hl 5 rfl ?_
  refine g_iload_n C dL_isLayer_97 rfl hl 6 rfl ?_
  refine g_bipush (a := 9) C dL_isLayer_98 (by decide) ?_
  refine g_ci C G (g_runVP (As := [.int (iz li), .int (iz 9)]) (rest := [.int (iz (lsr f li))]) (pos := 0) C G X (q_layer l hlf κ B n ad g_43 HP nl f F9 M9 li 9 hnn x_44 hli (by decide)) (cwV 2 C.1.2.2.2.2 gL_isLayer_X7_layer rfl rfl rfl (by decide +kernel) ⟨Nat.le_of_ble_eq_true rfl, Nat.le_of_ble_eq_true rfl⟩) (by omega) x_44.he (T := TX7) (N := 8) rfl rfl hl rfl (Nat.le_of_ble_eq_true rfl) dL_isLayer_100 ⟨Nat.le_of_ble_eq_true rfl, Nat.le_of_ble_eq_true rfl⟩) (fun z_48 g_49 H locs hw G => ?_)
  obtain ⟨x_50, f_51, e_52⟩ := hw
  have f_53 := frX.tr f_47 f_51
  replace e_52 : z_48 = grr f li := e_52.trans lyF_9
  subst e_52
  refine g_icmp_gt (tgt := 129) C (by omega) (by omega) dL_isLayer_103 (by decide) (fun c_54 => absurd c_54 (by omega)) (fun c_54 => ?_)
  refine g_aload_n C dL_isLayer_106 rfl hl 5 rfl ?_
  refine g_iload_n C dL_isLayer_107 rfl hl 6 rfl ?_
  refine g_lconst (a := 0) C dL_isLayer_108 (by decide) ?_
  refine g_ci C G (g_runVP (As := [.int (iz li), .long (jz 0)]) (rest := []) (pos := 0) C G X (q_pen l hlf κ B n ad g_49 HP nl f F9 M9 li 0 hnn x_50 hli (by omega)) (cwV 2 C.1.2.2.2.2 gL_isLayer_X7_pen rfl rfl rfl (by decide +kernel) ⟨Nat.le_of_ble_eq_true rfl, Nat.le_of_ble_eq_true rfl⟩) (by omega) x_50.he (T := TX7) (N := 8) rfl rfl hl rfl (Nat.le_of_ble_eq_true rfl) dL_isLayer_109 ⟨Nat.le_of_ble_eq_true rfl, Nat.le_of_ble_eq_true rfl⟩) (fun z_55 g_56 H locs hw G => ?_)
  obtain ⟨x_57, f_58, e_59⟩ := hw
  have f_60 := frX.tr f_53 f_58
  subst e_59
  refine g_sipush (a := 1000) C dL_isLayer_112 (by decide) ?_
  refine g_idiv C (by omega) (by decide) (by decide) dL_isLayer_115 ?_
  refine g_aload_n C dL_isLayer_116 rfl hl 5 rfl ?_
  refine g_iload_n C dL_isLayer_117 rfl hl 6 rfl ?_
  refine g_iconst (a := 3) C dL_isLayer_118 rfl ?_
  refine g_ci C G (g_runVP (As := [.int (iz li), .int (iz 3)]) (rest := [.int (iz (Int.tdiv (peF f li 0) 1000))]) (pos := 0) C G X (q_layer l hlf κ B n ad g_56 HP nl f F9 M9 li 3 hnn x_57 hli (by decide)) (cwV 2 C.1.2.2.2.2 gL_isLayer_X7_layer rfl rfl rfl (by decide +kernel) ⟨Nat.le_of_ble_eq_true rfl, Nat.le_of_ble_eq_true rfl⟩) (by omega) x_57.he (T := TX7) (N := 8) rfl rfl hl rfl (Nat.le_of_ble_eq_true rfl) dL_isLayer_119 ⟨Nat.le_of_ble_eq_true rfl, Nat.le_of_ble_eq_true rfl⟩) (fun z_61 g_62 H locs hw G => ?_)
  obtain ⟨x_63, f_64, e_65⟩ := hw
  have f_66 := frX.tr f_60 f_64
  replace e_65 : z_61 = f (4 * li + 4) := e_65.trans lyF_3
  subst e_65
  refine g_icmp_ne (tgt := 129) C (by omega) (by omega) dL_isLayer_122 (by decide) (fun c_67 => absurd c_67 (by omega)) (fun c_67 => ?_)
  refine g_iconst (a := 1) C dL_isLayer_125 rfl ?_
  refine g_goto (tgt := 130) C dL_isLayer_126 (by decide) ?_
  refine lv_istore (lv' := [(7, .int (iz 1)), (6, .int (iz (lb (f 0) (f (4 * li + 1))))), (5, .int (iz (tn (f 0) (f (4 * li + 1))))), (4, .int (iz (pd (f 0) (f (4 * li + 1))))), (3, .int (iz (f 0))), (0, .ref (ad 0)), (1, .int (iz li)), (2, .int (iz more))]) C.1.1 C.1.2.1 dL_isLayer_130 hl (by decide) rfl (fun ls hl => ?_)
  refine g_iconst (a := 0) C dL_isLayer_132 rfl ?_
  refine lv_istore (lv' := [(8, .int (iz 0)), (7, .int (iz 1)), (6, .int (iz (lb (f 0) (f (4 * li + 1))))), (5, .int (iz (tn (f 0) (f (4 * li + 1))))), (4, .int (iz (pd (f 0) (f (4 * li + 1))))), (3, .int (iz (f 0))), (0, .ref (ad 0)), (1, .int (iz li)), (2, .int (iz more))]) C.1.1 C.1.2.1 dL_isLayer_133 hl (by decide) rfl (fun ls hl => ?_)
  have lp_135_n_69 : ∀ (k_68 : Nat) (k : Int) (gv : Nat → va_E), (3 - k).toNat < k_68 → (XI κ ad gv HP nl f F9 M9) → (frX n g gv) → (0 ≤ k ∧ k ≤ 3) → ∀ (H : Heap) (locs : List Loc), gG κ B n ad s gv H locs → ∀ (ls : Array Slot), lv_has ls 12 [(0, .ref (ad 0)), (1, .int (iz li)), (2, .int (iz more)), (4, .int (iz (pd (f 0) (f (4 * li + 1))))), (7, .int (iz 1)), (8, .int (iz k))] → W p l e ({ frames := 7, cells := 50, slots := 300, locals := 144 }) s m args below meth c H locs (10 + 10 * ((k : Int)).toNat) (60 + 60 * ((k : Int)).toNat) (MQ below (gQi κ B n ad (fun z g' => XI κ ad g' HP nl f F9 M9 ∧ frX n g g' ∧ z = 1)) args s 50 300 (gFree B)) (F0 m 135 ls []) := by
    intro k_68
    induction k_68 with
    | zero => intro k gv hm; exact absurd hm (Nat.not_lt_zero _)
    | succ k_68 ih_lp_135_n_69 =>
      intro k gv hm hx hf hk H locs G ls hl
      refine g_iload C dL_isLayer_135 hl 5 rfl ?_
      refine g_iconst (a := 3) C dL_isLayer_137 rfl ?_
      refine g_icmp_ge (tgt := 304) C (by omega) (by decide) dL_isLayer_138 (by decide) (fun c_70 => ?_) (fun c_70 => ?_)
      · refine g_iload C dL_isLayer_304 hl 4 rfl ?_
        refine g_zret C G hr hlk (by decide) (by omega) (by omega) dL_isLayer_306 ?_
        exact ⟨hx, hf, rfl⟩
      · refine g_iload_n C dL_isLayer_141 rfl hl 2 rfl ?_
        refine g_iconst (a := 4) C dL_isLayer_142 rfl ?_
        refine g_iload C dL_isLayer_143 hl 5 rfl ?_
        refine g_imul C dL_isLayer_145 ?_
        refine g_ishr C dL_isLayer_146 ?_
        refine g_iload C dL_isLayer_147 hl 3 rfl ?_
        refine g_ci C G (g_runS (As := [.int (iz (shF more (4 * k))), .int (iz (pd (f 0) (f (4 * li + 1))))]) (rest := []) C G (c_L_low l κ B n ad gv (shF more (4 * k)) (pd (f 0) (f (4 * li + 1))) (by first | exact shF_in _ _ | exact rI_in _ | omega) (by omega)) (va_cwS 2 C.1.2.2.2.2 gL_isLayer_L_low rfl rfl rfl (by decide +kernel) ⟨Nat.le_of_ble_eq_true rfl, Nat.le_of_ble_eq_true rfl⟩) rfl hl rfl (Nat.le_of_ble_eq_true rfl) dL_isLayer_149 ⟨by show 10 + 10 * ((k : Int)).toNat + 0 ≤ 50; omega, by show 60 + 60 * ((k : Int)).toNat + 0 ≤ 300; omega⟩) (fun z_71 g9 H locs hw G => ?_)
        obtain ⟨hg9, e_72⟩ := hw
        replace hg9 := hg9.symm
        subst hg9
        have r_73 : 0 ≤ z_71 ∧ z_71 < pd (f 0) (f (4 * li + 1)) := by rw [e_72]; exact lowF_rg (by omega)
        have q := pe_all hok hli z_71
        have qe := ra_ends hok hli z_71
        have qa := at_pos hok hli r_73
        have qb := cntR_le (ALLp nl f) (raF f li z_71)
        have qp := pe_per hok hli z_71
        refine lv_istore (lv' := [(9, .int (iz z_71)), (0, .ref (ad 0)), (1, .int (iz li)), (2, .int (iz more)), (4, .int (iz (pd (f 0) (f (4 * li + 1))))), (7, .int (iz 1)), (8, .int (iz k))]) C.1.1 C.1.2.1 dL_isLayer_152 hl (by decide) rfl (fun ls hl => ?_)
        refine g_aload_n C dL_isLayer_154 rfl hl 1 rfl ?_
        refine g_iload_n C dL_isLayer_155 rfl hl 2 rfl ?_
        refine g_iload C dL_isLayer_156 hl 0 rfl ?_
        refine g_i2l C (by omega) dL_isLayer_158 ?_
        refine g_ci C G (g_runVP (As := [.int (iz li), .long (jz z_71)]) (rest := []) (pos := 0) C G X (q_pen l hlf κ B n ad gv HP nl f F9 M9 li z_71 hnn hx hli (by omega)) (cwV 2 C.1.2.2.2.2 gL_isLayer_X7_pen rfl rfl rfl (by decide +kernel) ⟨Nat.le_of_ble_eq_true rfl, Nat.le_of_ble_eq_true rfl⟩) (by omega) hx.he (T := TX7) (N := 8) rfl rfl hl rfl (Nat.le_of_ble_eq_true rfl) dL_isLayer_159 ⟨by show 10 + 10 * ((k : Int)).toNat + 1 ≤ 50; omega, by show 60 + 60 * ((k : Int)).toNat + 6 ≤ 300; omega⟩) (fun z_74 g_75 H locs hw G => ?_)
        obtain ⟨x_76, f_77, e_78⟩ := hw
        have f_79 := frX.tr hf f_77
        subst e_78
        refine lv_istore (lv' := [(10, .int (iz (peF f li z_71))), (9, .int (iz z_71)), (0, .ref (ad 0)), (1, .int (iz li)), (2, .int (iz more)), (4, .int (iz (pd (f 0) (f (4 * li + 1))))), (7, .int (iz 1)), (8, .int (iz k))]) C.1.1 C.1.2.1 dL_isLayer_162 hl (by decide) rfl (fun ls hl => ?_)
        refine g_aload_n C dL_isLayer_164 rfl hl 2 rfl ?_
        refine g_iload_n C dL_isLayer_165 rfl hl 3 rfl ?_
        refine g_iload C dL_isLayer_166 hl 0 rfl ?_
        refine g_sipush (a := 1000) C dL_isLayer_168 (by decide) ?_
        refine g_idiv C (by omega) (by decide) (by decide) dL_isLayer_171 ?_
        refine g_iload C dL_isLayer_172 hl 0 rfl ?_
        refine g_sipush (a := 1000) C dL_isLayer_174 (by decide) ?_
        refine g_irem C (by omega) (by decide) (by decide) dL_isLayer_177 ?_
        refine g_ci C G (g_runVP (As := [.int (iz li), .int (iz (Int.tdiv (peF f li z_71) 1000)), .int (iz (Int.tmod (peF f li z_71) 1000))]) (rest := []) (pos := 0) C G X (q_comes l hlf κ B n ad g_75 HP nl f F9 M9 li (Int.tdiv (peF f li z_71) 1000) (Int.tmod (peF f li z_71) 1000) hnn x_76 hli (by rw [q.1]; exact q.2.2.2.1) (by rw [q.2.1]; omega)) (cwV 3 C.1.2.2.2.2 gL_isLayer_X7_comes rfl rfl rfl (by decide +kernel) ⟨Nat.le_of_ble_eq_true rfl, Nat.le_of_ble_eq_true rfl⟩) (by omega) x_76.he (T := TX7) (N := 8) rfl rfl hl rfl (Nat.le_of_ble_eq_true rfl) dL_isLayer_178 ⟨by show 10 + 10 * ((k : Int)).toNat + 1 + 1 ≤ 50; omega, by show 60 + 60 * ((k : Int)).toNat + 6 + 6 ≤ 300; omega⟩) (fun z_80 g_81 H locs hw G => ?_)
        obtain ⟨x_82, f_83, e_84⟩ := hw
        have f_85 := frX.tr f_79 f_83
        rw [q.1, q.2.1] at e_84
        have qc := pe_first r_73 e_84
        refine lv_istore (lv' := [(11, .int (iz z_80)), (10, .int (iz (peF f li z_71))), (9, .int (iz z_71)), (0, .ref (ad 0)), (1, .int (iz li)), (2, .int (iz more)), (4, .int (iz (pd (f 0) (f (4 * li + 1))))), (7, .int (iz 1)), (8, .int (iz k))]) C.1.1 C.1.2.1 dL_isLayer_181 hl (by decide) rfl (fun ls hl => ?_)
        refine g_iload C dL_isLayer_183 hl 7 rfl ?_
        refine g_if_eq (tgt := 238) C (by decide) dL_isLayer_185 (by decide) (fun c9 => absurd c9 (by decide)) (fun _ => ?_)
        refine g_iload C dL_isLayer_188 hl 0 rfl ?_
        refine g_if_lt (tgt := 238) C (by omega) dL_isLayer_190 (by decide) (fun c_86 => absurd c_86 (by omega)) (fun c_86 => ?_)
        refine g_iload C dL_isLayer_193 hl 0 rfl ?_
        refine g_iload C dL_isLayer_195 hl 2 rfl ?_
        refine g_icmp_gt (tgt := 238) C (by omega) (by omega) dL_isLayer_197 (by decide) (fun c_87 => absurd c_87 (by omega)) (fun c_87 => ?_)
        refine g_aload_n C dL_isLayer_200 rfl hl 3 rfl ?_
        refine g_iload_n C dL_isLayer_201 rfl hl 4 rfl ?_
        refine g_iload C dL_isLayer_202 hl 0 rfl ?_
        refine g_i2l C (by omega) dL_isLayer_204 ?_
        refine g_ci C G (g_runVP (As := [.int (iz li), .long (jz z_80)]) (rest := []) (pos := 0) C G X (q_pen l hlf κ B n ad g_81 HP nl f F9 M9 li z_80 hnn x_82 hli (by omega)) (cwV 2 C.1.2.2.2.2 gL_isLayer_X7_pen rfl rfl rfl (by decide +kernel) ⟨Nat.le_of_ble_eq_true rfl, Nat.le_of_ble_eq_true rfl⟩) (by omega) x_82.he (T := TX7) (N := 8) rfl rfl hl rfl (Nat.le_of_ble_eq_true rfl) dL_isLayer_205 ⟨by show 10 + 10 * ((k : Int)).toNat + 2 + 1 ≤ 50; omega, by show 60 + 60 * ((k : Int)).toNat + 12 + 6 ≤ 300; omega⟩) (fun z_88 g_89 H locs hw G => ?_)
        obtain ⟨x_90, f_91, e_92⟩ := hw
        have f_93 := frX.tr f_85 f_91
        subst e_92
        refine g_iload C dL_isLayer_208 hl 1 rfl ?_
        refine g_icmp_ne (tgt := 238) C (by omega) (by omega) dL_isLayer_210 (by decide) (fun c_94 => absurd c_94 (by omega)) (fun c_94 => ?_)
        refine g_aload_n C dL_isLayer_213 rfl hl 3 rfl ?_
        refine g_iload_n C dL_isLayer_214 rfl hl 4 rfl ?_
        refine g_iload C dL_isLayer_215 hl 2 rfl ?_
        refine g_i2l C (by omega) dL_isLayer_217 ?_
        refine g_ldc2 (a := 1000000) C (by decide +kernel) dL_isLayer_218 ?_
        refine g_iload C dL_isLayer_221 hl 6 rfl ?_
        refine g_i2l C (by omega) dL_isLayer_223 ?_
        refine g_lmul C dL_isLayer_224 ?_
        refine g_ladd C dL_isLayer_225 ?_
        refine g_ci C G (g_runVP (As := [.int (iz li), .long (jz (z_71 + (1000000 * (pd (f 0) (f (4 * li + 1))))))]) (rest := []) (pos := 0) C G X (q_pen l hlf κ B n ad g_89 HP nl f F9 M9 li (z_71 + (1000000 * (pd (f 0) (f (4 * li + 1))))) hnn x_90 hli (by omega)) (cwV 2 C.1.2.2.2.2 gL_isLayer_X7_pen rfl rfl rfl (by decide +kernel) ⟨Nat.le_of_ble_eq_true rfl, Nat.le_of_ble_eq_true rfl⟩) (by omega) x_90.he (T := TX7) (N := 8) rfl rfl hl rfl (Nat.le_of_ble_eq_true rfl) dL_isLayer_226 ⟨by show 10 + 10 * ((k : Int)).toNat + 3 + 1 ≤ 50; omega, by show 60 + 60 * ((k : Int)).toNat + 18 + 6 ≤ 300; omega⟩) (fun z_95 g_96 H locs hw G => ?_)
        obtain ⟨x_97, f_98, e_99⟩ := hw
        have f_100 := frX.tr f_93 f_98
        subst e_99
        refine g_iload C dL_isLayer_229 hl 1 rfl ?_
        refine g_icmp_ne (tgt := 238) C (by omega) (by omega) dL_isLayer_231 (by decide) (fun c_101 => absurd c_101 (by omega)) (fun c_101 => ?_)
        refine g_iconst (a := 1) C dL_isLayer_234 rfl ?_
        refine g_goto (tgt := 239) C dL_isLayer_235 (by decide) ?_
        refine lv_istore (lv' := [(7, .int (iz 1)), (11, .int (iz z_80)), (10, .int (iz (peF f li z_71))), (9, .int (iz z_71)), (0, .ref (ad 0)), (1, .int (iz li)), (2, .int (iz more)), (4, .int (iz (pd (f 0) (f (4 * li + 1))))), (8, .int (iz k))]) C.1.1 C.1.2.1 dL_isLayer_239 hl (by decide) rfl (fun ls hl => ?_)
        refine g_iload C dL_isLayer_241 hl 0 rfl ?_
        refine g_if_eq (tgt := 295) C (by decide) dL_isLayer_243 (by decide) (fun c9 => absurd c9 (by decide)) (fun _ => ?_)
        refine g_iload C dL_isLayer_246 hl 2 rfl ?_
        refine g_sipush (a := 1000) C dL_isLayer_248 (by decide) ?_
        refine g_irem C (by omega) (by decide) (by decide) dL_isLayer_251 ?_
        refine g_aload_n C dL_isLayer_252 rfl hl 4 rfl ?_
        refine g_iload_n C dL_isLayer_253 rfl hl 5 rfl ?_
        refine g_bipush (a := 8) C dL_isLayer_254 (by decide) ?_
        refine g_ci C G (g_runVP (As := [.int (iz li), .int (iz 8)]) (rest := [.int (iz (Int.tmod (peF f li z_71) 1000))]) (pos := 0) C G X (q_layer l hlf κ B n ad g_96 HP nl f F9 M9 li 8 hnn x_97 hli (by decide)) (cwV 2 C.1.2.2.2.2 gL_isLayer_X7_layer rfl rfl rfl (by decide +kernel) ⟨Nat.le_of_ble_eq_true rfl, Nat.le_of_ble_eq_true rfl⟩) (by omega) x_97.he (T := TX7) (N := 8) rfl rfl hl rfl (Nat.le_of_ble_eq_true rfl) dL_isLayer_256 ⟨by show 10 + 10 * ((k : Int)).toNat + 4 + 1 ≤ 50; omega, by show 60 + 60 * ((k : Int)).toNat + 24 + 6 ≤ 300; omega⟩) (fun z_102 g_103 H locs hw G => ?_)
        obtain ⟨x_104, f_105, e_106⟩ := hw
        have f_107 := frX.tr f_100 f_105
        replace e_106 : z_102 = lsr f li := e_106.trans lyF_8
        subst e_106
        refine g_icmp_lt (tgt := 295) C (by omega) (by omega) dL_isLayer_259 (by decide) (fun c_108 => absurd c_108 (by omega)) (fun c_108 => ?_)
        refine g_iload C dL_isLayer_262 hl 2 rfl ?_
        refine g_sipush (a := 1000) C dL_isLayer_264 (by decide) ?_
        refine g_irem C (by omega) (by decide) (by decide) dL_isLayer_267 ?_
        refine g_aload_n C dL_isLayer_268 rfl hl 4 rfl ?_
        refine g_iload_n C dL_isLayer_269 rfl hl 5 rfl ?_
        refine g_bipush (a := 9) C dL_isLayer_270 (by decide) ?_
        refine g_ci C G (g_runVP (As := [.int (iz li), .int (iz 9)]) (rest := [.int (iz (Int.tmod (peF f li z_71) 1000))]) (pos := 0) C G X (q_layer l hlf κ B n ad g_103 HP nl f F9 M9 li 9 hnn x_104 hli (by decide)) (cwV 2 C.1.2.2.2.2 gL_isLayer_X7_layer rfl rfl rfl (by decide +kernel) ⟨Nat.le_of_ble_eq_true rfl, Nat.le_of_ble_eq_true rfl⟩) (by omega) x_104.he (T := TX7) (N := 8) rfl rfl hl rfl (Nat.le_of_ble_eq_true rfl) dL_isLayer_272 ⟨by show 10 + 10 * ((k : Int)).toNat + 5 + 1 ≤ 50; omega, by show 60 + 60 * ((k : Int)).toNat + 30 + 6 ≤ 300; omega⟩) (fun z_109 g_110 H locs hw G => ?_)
        obtain ⟨x_111, f_112, e_113⟩ := hw
        have f_114 := frX.tr f_107 f_112
        replace e_113 : z_109 = grr f li := e_113.trans lyF_9
        subst e_113
        refine g_icmp_gt (tgt := 295) C (by omega) (by omega) dL_isLayer_275 (by decide) (fun c_115 => absurd c_115 (by omega)) (fun c_115 => ?_)
        refine g_aload_n C dL_isLayer_278 rfl hl 4 rfl ?_
        refine g_iload C dL_isLayer_279 hl 2 rfl ?_
        refine g_sipush (a := 1000) C dL_isLayer_281 (by decide) ?_
        refine g_irem C (by omega) (by decide) (by decide) dL_isLayer_284 ?_
        refine g_ci C G (g_runVP (As := [.int (iz (Int.tmod (peF f li z_71) 1000))]) (rest := []) (pos := 0) C G X (q_at l hlf κ B n ad g_110 HP nl f F9 M9 (Int.tmod (peF f li z_71) 1000) hnn x_111 (by rw [q.2.1]; omega)) (cwV 1 C.1.2.2.2.2 gL_isLayer_X7_at rfl rfl rfl (by decide +kernel) ⟨Nat.le_of_ble_eq_true rfl, Nat.le_of_ble_eq_true rfl⟩) (by omega) x_111.he (T := TX7) (N := 8) rfl rfl hl rfl (Nat.le_of_ble_eq_true rfl) dL_isLayer_285 ⟨by show 10 + 10 * ((k : Int)).toNat + 6 + 1 ≤ 50; omega, by show 60 + 60 * ((k : Int)).toNat + 36 + 6 ≤ 300; omega⟩) (fun z_116 g_117 H locs hw G => ?_)
        obtain ⟨x_118, f_119, e_120⟩ := hw
        have f_121 := frX.tr f_114 f_119
        rw [q.2.1] at e_120
        refine g_if_le (tgt := 295) C (by omega) dL_isLayer_288 (by decide) (fun c_122 => absurd c_122 (by omega)) (fun c_122 => ?_)
        refine g_iconst (a := 1) C dL_isLayer_291 rfl ?_
        refine g_goto (tgt := 296) C dL_isLayer_292 (by decide) ?_
        refine lv_istore (lv' := [(7, .int (iz 1)), (11, .int (iz z_80)), (10, .int (iz (peF f li z_71))), (9, .int (iz z_71)), (0, .ref (ad 0)), (1, .int (iz li)), (2, .int (iz more)), (4, .int (iz (pd (f 0) (f (4 * li + 1))))), (8, .int (iz k))]) C.1.1 C.1.2.1 dL_isLayer_296 hl (by decide) rfl (fun ls hl => ?_)
        refine lv_iinc (v := iz (k + 1)) (lv' := [(8, .int (iz (k + 1))), (7, .int (iz 1)), (11, .int (iz z_80)), (10, .int (iz (peF f li z_71))), (9, .int (iz z_71)), (0, .ref (ad 0)), (1, .int (iz li)), (2, .int (iz more)), (4, .int (iz (pd (f 0) (f (4 * li + 1)))))]) C.1.1 C.1.2.1 dL_isLayer_298 hl (k := 8) rfl (g_inc (by omega)) (by decide) rfl (fun ls hl => ?_)
        refine g_goto (tgt := 135) C dL_isLayer_301 (by decide) ?_
        refine W.widen (k := 10 + 10 * ((k + 1 : Int)).toNat) (n := 60 + 60 * ((k + 1 : Int)).toNat) (by omega) (by omega) ?_
        exact ih_lp_135_n_69 (k + 1) g_117 (by omega) x_118 f_121 (by omega) _ _ G _ (lv_sub hl [5, 6, 7, 8, 1, 0] rfl)
  refine W.widen (k := 10 + 10 * ((0 : Int)).toNat) (n := 60 + 60 * ((0 : Int)).toNat) (by omega) (by omega) ?_
  exact lp_135_n_69 _ 0 g_62 (Nat.lt_succ_self _) x_63 f_66 (by omega) _ _ G _ (lv_sub hl [6, 7, 8, 4, 1, 0] rfl)
