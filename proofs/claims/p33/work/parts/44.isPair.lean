/-! THE LAW: isPair -/
set_option maxHeartbeats 4000000 in
set_option maxRecDepth 100000 in
theorem c_L_isPair (l : Launch) (hlf : l.stackTraces = false) (κ : gKap) (B n : Nat) (ad : Nat → Nat) (g : Nat → va_E) (HP : gHP) (nl : Int) (f : Int → Int) (F9 : Int → Int) (M9 : Int → Int × (Int → Int)) (li : Int) (lj : Int) (hnn : 192 ≤ n) (h : XI κ ad g HP nl f F9 M9) (hli : 0 ≤ li ∧ li < nl) (hlj : 0 ≤ lj ∧ lj < nl) : Met l yL_isPair wsL_isPair ({ frames := 7, cells := 40, slots := 240, locals := 144 }) (gPreX κ B n ad g [.ref (ad 0), .int (iz li), .int (iz lj)]) (gQi κ B n ad (fun z g' => XI κ ad g' HP0 nl f F9 M9 ∧ frX n g g' ∧ z = 1)) 40 240 (gFree B) := by
  refine g_metP RL (cc := cL_isPair) (maxL := 11) (ret := (some .boolean)) (by decide) rfl rfl (Nat.le_of_ble_eq_true rfl) ?_
  intro p e s m args below meth c C hr hlk X G ls hl
  have hl : lv_has ls 11 [(0, .ref (ad 0)), (1, .int (iz li)), (2, .int (iz lj))] := hl
  have hok := h.ok
  have hn6 := hok.1
  obtain ⟨-, hst, hrg, hwh⟩ := hok.lay9 hli
  obtain ⟨-, hst2, -, hwh2⟩ := hok.lay9 hlj
  have hcm := co_comm (f := f) li lj
  have hcl := co_le (f := f) li lj
  have hcs := co_self (f := f) li
  have hcn := cn_le (f := f) li
  have hcn2 := cn_le (f := f) lj
  refine g_aload_n C dL_isPair_0 rfl hl 0 rfl ?_
  refine g_iload_n C dL_isPair_1 rfl hl 1 rfl ?_
  refine g_iload_n C dL_isPair_2 rfl hl 2 rfl ?_
  refine g_ci C G (g_runVP (As := [.int (iz li), .int (iz lj)]) (rest := []) (pos := 0) C G X (q_common l hlf κ B n ad g HP nl f F9 M9 li lj hnn h hli hlj) (cwV 2 C.1.2.2.2.2 gL_isPair_X7_common rfl rfl rfl (by decide +kernel) ⟨Nat.le_of_ble_eq_true rfl, Nat.le_of_ble_eq_true rfl⟩) (by omega) h.he (T := TX7) (N := 8) rfl rfl hl rfl (Nat.le_of_ble_eq_true rfl) dL_isPair_3 ⟨Nat.le_of_ble_eq_true rfl, Nat.le_of_ble_eq_true rfl⟩) (fun z_1 g_2 H locs hw G => ?_)
  obtain ⟨x_3, f_4, e_5⟩ := hw
  replace e_5 := e_5.symm
  subst e_5
  refine lv_istore_n (lv' := [(3, .int (iz (coF f li lj))), (0, .ref (ad 0)), (1, .int (iz li)), (2, .int (iz lj))]) C.1.1 C.1.2.1 dL_isPair_6 rfl hl (by decide) rfl (fun ls hl => ?_)
  refine g_aload_n C dL_isPair_7 rfl hl 1 rfl ?_
  refine g_iload_n C dL_isPair_8 rfl hl 2 rfl ?_
  refine g_iload_n C dL_isPair_9 rfl hl 3 rfl ?_
  refine g_ci C G (g_runVP (As := [.int (iz li), .int (iz lj)]) (rest := []) (pos := 0) C G X (q_meet l hlf κ B n ad g_2 HP nl f F9 M9 li lj hnn x_3 hli hlj) (cwV 2 C.1.2.2.2.2 gL_isPair_X7_meet rfl rfl rfl (by decide +kernel) ⟨Nat.le_of_ble_eq_true rfl, Nat.le_of_ble_eq_true rfl⟩) (by omega) x_3.he (T := TX7) (N := 8) rfl rfl hl rfl (Nat.le_of_ble_eq_true rfl) dL_isPair_10 ⟨Nat.le_of_ble_eq_true rfl, Nat.le_of_ble_eq_true rfl⟩) (fun z_6 g_7 H locs hw G => ?_)
  obtain ⟨x_8, f_9, e_10⟩ := hw
  have f_11 := frX.tr f_4 f_9
  have hmt := mt_pt hok hli hlj e_10
  have hmr := e_10.rg
  have hmN := lcm_range (a := f (4 * li + 1)) (b := f (4 * lj + 1)) (by omega) (by omega) (by omega) (by omega)
  generalize z_6 = z4 at *
  refine lv_istore (lv' := [(4, .int (iz z4)), (3, .int (iz (coF f li lj))), (0, .ref (ad 0)), (1, .int (iz li)), (2, .int (iz lj))]) C.1.1 C.1.2.1 dL_isPair_13 hl (by decide) rfl (fun ls hl => ?_)
  refine g_aload_n C dL_isPair_15 rfl hl 2 rfl ?_
  refine g_iload_n C dL_isPair_16 rfl hl 3 rfl ?_
  refine g_iload_n C dL_isPair_17 rfl hl 4 rfl ?_
  refine g_ci C G (g_runVP (As := [.int (iz li), .int (iz lj)]) (rest := []) (pos := 0) C G X (q_turned l hlf κ B n ad g_7 HP nl f F9 M9 li lj hnn x_8 hli hlj) (cwV 2 C.1.2.2.2.2 gL_isPair_X7_turned rfl rfl rfl (by decide +kernel) ⟨Nat.le_of_ble_eq_true rfl, Nat.le_of_ble_eq_true rfl⟩) (by omega) x_8.he (T := TX7) (N := 8) rfl rfl hl rfl (Nat.le_of_ble_eq_true rfl) dL_isPair_18 ⟨Nat.le_of_ble_eq_true rfl, Nat.le_of_ble_eq_true rfl⟩) (fun z_12 g_13 H locs hw G => ?_)
  obtain ⟨x_14, f_15, e_16⟩ := hw
  have f_17 := frX.tr f_11 f_15
  have htrn := e_16
  have htr := htrn.rg
  generalize z_12 = z5 at *
  refine lv_istore (lv' := [(5, .int (iz z5)), (4, .int (iz z4)), (3, .int (iz (coF f li lj))), (0, .ref (ad 0)), (1, .int (iz li)), (2, .int (iz lj))]) C.1.1 C.1.2.1 dL_isPair_21 hl (by decide) rfl (fun ls hl => ?_)
  refine g_aload_n C dL_isPair_23 rfl hl 3 rfl ?_
  refine g_iconst (a := 0) C dL_isPair_24 rfl ?_
  refine g_ci C G (g_runVP (As := [.int (iz 0)]) (rest := []) (pos := 0) C G X (q_about l hlf κ B n ad g_13 HP nl f F9 M9 0 hnn x_14 (by decide)) (cwV 1 C.1.2.2.2.2 gL_isPair_X7_about rfl rfl rfl (by decide +kernel) ⟨Nat.le_of_ble_eq_true rfl, Nat.le_of_ble_eq_true rfl⟩) (by omega) x_14.he (T := TX7) (N := 8) rfl rfl hl rfl (Nat.le_of_ble_eq_true rfl) dL_isPair_25 ⟨Nat.le_of_ble_eq_true rfl, Nat.le_of_ble_eq_true rfl⟩) (fun z_18 g_19 H locs hw G => ?_)
  obtain ⟨x_20, f_21, e_22⟩ := hw
  have f_23 := frX.tr f_17 f_21
  replace e_22 : z_18 = f 0 := e_22.trans abF_0
  replace e_22 := e_22.symm
  subst e_22
  refine lv_istore (lv' := [(6, .int (iz (f 0))), (5, .int (iz z5)), (4, .int (iz z4)), (3, .int (iz (coF f li lj))), (0, .ref (ad 0)), (1, .int (iz li)), (2, .int (iz lj))]) C.1.1 C.1.2.1 dL_isPair_28 hl (by decide) rfl (fun ls hl => ?_)
  refine g_iload_n C dL_isPair_30 rfl hl 3 rfl ?_
  refine g_aload_n C dL_isPair_31 rfl hl 4 rfl ?_
  refine g_iload_n C dL_isPair_32 rfl hl 6 rfl ?_
  refine g_iload_n C dL_isPair_33 rfl hl 5 rfl ?_
  refine g_ci C G (g_runVP (As := [.int (iz lj), .int (iz li)]) (rest := [.int (iz (coF f li lj))]) (pos := 0) C G X (q_common l hlf κ B n ad g_19 HP nl f F9 M9 lj li hnn x_20 hlj hli) (cwV 2 C.1.2.2.2.2 gL_isPair_X7_common rfl rfl rfl (by decide +kernel) ⟨Nat.le_of_ble_eq_true rfl, Nat.le_of_ble_eq_true rfl⟩) (by omega) x_20.he (T := TX7) (N := 8) rfl rfl hl rfl (Nat.le_of_ble_eq_true rfl) dL_isPair_34 ⟨Nat.le_of_ble_eq_true rfl, Nat.le_of_ble_eq_true rfl⟩) (fun z_24 g_25 H locs hw G => ?_)
  obtain ⟨x_26, f_27, e_28⟩ := hw
  have f_29 := frX.tr f_23 f_27
  replace e_28 := e_28.symm
  subst e_28
  refine g_icmp_ne (tgt := 80) C (by omega) (by omega) dL_isPair_37 (by decide) (fun c_30 => absurd c_30 (by omega)) (fun c_30 => ?_)
  refine g_iload_n C dL_isPair_40 rfl hl 3 rfl ?_
  refine g_aload_n C dL_isPair_41 rfl hl 4 rfl ?_
  refine g_iload_n C dL_isPair_42 rfl hl 5 rfl ?_
  refine g_bipush (a := 7) C dL_isPair_43 (by decide) ?_
  refine g_ci C G (g_runVP (As := [.int (iz li), .int (iz 7)]) (rest := [.int (iz (coF f li lj))]) (pos := 0) C G X (q_layer l hlf κ B n ad g_25 HP nl f F9 M9 li 7 hnn x_26 hli (by decide)) (cwV 2 C.1.2.2.2.2 gL_isPair_X7_layer rfl rfl rfl (by decide +kernel) ⟨Nat.le_of_ble_eq_true rfl, Nat.le_of_ble_eq_true rfl⟩) (by omega) x_26.he (T := TX7) (N := 8) rfl rfl hl rfl (Nat.le_of_ble_eq_true rfl) dL_isPair_45 ⟨Nat.le_of_ble_eq_true rfl, Nat.le_of_ble_eq_true rfl⟩) (fun z_31 g_32 H locs hw G => ?_)
  obtain ⟨x_33, f_34, e_35⟩ := hw
  have f_36 := frX.tr f_29 f_34
  replace e_35 : z_31 = ((cntS (fun x y => PTl f li x y) : Nat) : Int) := e_35.trans lyF_7
  replace e_35 := e_35.symm
  subst e_35
  refine g_icmp_gt (tgt := 80) C (by omega) (by omega) dL_isPair_48 (by decide) (fun c_37 => absurd c_37 (by omega)) (fun c_37 => ?_)
  refine g_aload_n C dL_isPair_51 rfl hl 4 rfl ?_
  refine g_iload_n C dL_isPair_52 rfl hl 5 rfl ?_
  refine g_iload_n C dL_isPair_53 rfl hl 5 rfl ?_
  refine g_ci C G (g_runVP (As := [.int (iz li), .int (iz li)]) (rest := []) (pos := 0) C G X (q_common l hlf κ B n ad g_32 HP nl f F9 M9 li li hnn x_33 hli hli) (cwV 2 C.1.2.2.2.2 gL_isPair_X7_common rfl rfl rfl (by decide +kernel) ⟨Nat.le_of_ble_eq_true rfl, Nat.le_of_ble_eq_true rfl⟩) (by omega) x_33.he (T := TX7) (N := 8) rfl rfl hl rfl (Nat.le_of_ble_eq_true rfl) dL_isPair_54 ⟨Nat.le_of_ble_eq_true rfl, Nat.le_of_ble_eq_true rfl⟩) (fun z_38 g_39 H locs hw G => ?_)
  obtain ⟨x_40, f_41, e_42⟩ := hw
  have f_43 := frX.tr f_36 f_41
  replace e_42 := e_42.symm
  subst e_42
  refine g_aload_n C dL_isPair_57 rfl hl 4 rfl ?_
  refine g_iload_n C dL_isPair_58 rfl hl 5 rfl ?_
  refine g_bipush (a := 7) C dL_isPair_59 (by decide) ?_
  refine g_ci C G (g_runVP (As := [.int (iz li), .int (iz 7)]) (rest := [.int (iz (coF f li li))]) (pos := 0) C G X (q_layer l hlf κ B n ad g_39 HP nl f F9 M9 li 7 hnn x_40 hli (by decide)) (cwV 2 C.1.2.2.2.2 gL_isPair_X7_layer rfl rfl rfl (by decide +kernel) ⟨Nat.le_of_ble_eq_true rfl, Nat.le_of_ble_eq_true rfl⟩) (by omega) x_40.he (T := TX7) (N := 8) rfl rfl hl rfl (Nat.le_of_ble_eq_true rfl) dL_isPair_61 ⟨Nat.le_of_ble_eq_true rfl, Nat.le_of_ble_eq_true rfl⟩) (fun z_44 g_45 H locs hw G => ?_)
  obtain ⟨x_46, f_47, e_48⟩ := hw
  have f_49 := frX.tr f_43 f_47
  replace e_48 : z_44 = ((cntS (fun x y => PTl f li x y) : Nat) : Int) := e_48.trans lyF_7
  replace e_48 := e_48.symm
  subst e_48
  refine g_icmp_ne (tgt := 80) C (by omega) (by omega) dL_isPair_64 (by decide) (fun c_50 => absurd c_50 (by omega)) (fun c_50 => ?_)
  refine g_aload_n C dL_isPair_67 rfl hl 4 rfl ?_
  refine g_iload_n C dL_isPair_68 rfl hl 5 rfl ?_
  refine g_iload_n C dL_isPair_69 rfl hl 5 rfl ?_
  refine g_ci C G (g_runVP (As := [.int (iz li), .int (iz li)]) (rest := []) (pos := 0) C G X (q_turned l hlf κ B n ad g_45 HP nl f F9 M9 li li hnn x_46 hli hli) (cwV 2 C.1.2.2.2.2 gL_isPair_X7_turned rfl rfl rfl (by decide +kernel) ⟨Nat.le_of_ble_eq_true rfl, Nat.le_of_ble_eq_true rfl⟩) (by omega) x_46.he (T := TX7) (N := 8) rfl rfl hl rfl (Nat.le_of_ble_eq_true rfl) dL_isPair_70 ⟨Nat.le_of_ble_eq_true rfl, Nat.le_of_ble_eq_true rfl⟩) (fun z_51 g_52 H locs hw G => ?_)
  obtain ⟨x_53, f_54, e_55⟩ := hw
  have f_56 := frX.tr f_49 f_54
  have e9 := tr_self hok hli e_55
  subst e9
  refine g_if_ne (tgt := 80) C (by decide) dL_isPair_73 (by decide) (fun c9 => absurd c9 (by decide)) (fun _ => ?_)
  refine g_iconst (a := 1) C dL_isPair_76 rfl ?_
  refine g_goto (tgt := 81) C dL_isPair_77 (by decide) ?_
  refine lv_istore (lv' := [(7, .int (iz 1)), (6, .int (iz (f 0))), (5, .int (iz z5)), (4, .int (iz z4)), (3, .int (iz (coF f li lj))), (0, .ref (ad 0)), (1, .int (iz li)), (2, .int (iz lj))]) C.1.1 C.1.2.1 dL_isPair_81 hl (by decide) rfl (fun ls hl => ?_)
  refine g_iload C dL_isPair_83 hl 0 rfl ?_
  refine g_if_eq (tgt := 130) C (by decide) dL_isPair_85 (by decide) (fun c9 => absurd c9 (by decide)) (fun _ => ?_)
  refine g_iload C dL_isPair_88 hl 3 rfl ?_
  refine g_if_ge (tgt := 103) C (by omega) dL_isPair_90 (by decide) (fun c_57 => ?_) (fun c_57 => ?_)
  · have qa := pe_all hok hli z4
    have qb := pe_all hok hlj z4
    refine g_aload_n C dL_isPair_103 rfl hl 5 rfl ?_
    refine g_iload_n C dL_isPair_104 rfl hl 6 rfl ?_
    refine g_iload C dL_isPair_105 hl 3 rfl ?_
    refine g_i2l C (by omega) dL_isPair_107 ?_
    refine g_ci C G (g_runVP (As := [.int (iz li), .long (jz z4)]) (rest := []) (pos := 0) C G X (q_pen l hlf κ B n ad g_52 HP nl f F9 M9 li z4 hnn x_53 hli (by omega)) (cwV 2 C.1.2.2.2.2 gL_isPair_X7_pen rfl rfl rfl (by decide +kernel) ⟨Nat.le_of_ble_eq_true rfl, Nat.le_of_ble_eq_true rfl⟩) (by omega) x_53.he (T := TX7) (N := 8) rfl rfl hl rfl (Nat.le_of_ble_eq_true rfl) dL_isPair_108 ⟨Nat.le_of_ble_eq_true rfl, Nat.le_of_ble_eq_true rfl⟩) (fun z_58 g_59 H locs hw G => ?_)
    obtain ⟨x_60, f_61, e_62⟩ := hw
    have f_63 := frX.tr f_56 f_61
    replace e_62 := e_62.symm
    subst e_62
    refine g_aload_n C dL_isPair_111 rfl hl 5 rfl ?_
    refine g_iload_n C dL_isPair_112 rfl hl 7 rfl ?_
    refine g_iload C dL_isPair_113 hl 3 rfl ?_
    refine g_i2l C (by omega) dL_isPair_115 ?_
    refine g_ci C G (g_runVP (As := [.int (iz lj), .long (jz z4)]) (rest := [.int (iz (peF f li z4))]) (pos := 0) C G X (q_pen l hlf κ B n ad g_59 HP nl f F9 M9 lj z4 hnn x_60 hlj (by omega)) (cwV 2 C.1.2.2.2.2 gL_isPair_X7_pen rfl rfl rfl (by decide +kernel) ⟨Nat.le_of_ble_eq_true rfl, Nat.le_of_ble_eq_true rfl⟩) (by omega) x_60.he (T := TX7) (N := 8) rfl rfl hl rfl (Nat.le_of_ble_eq_true rfl) dL_isPair_116 ⟨Nat.le_of_ble_eq_true rfl, Nat.le_of_ble_eq_true rfl⟩) (fun z_64 g_65 H locs hw G => ?_)
    obtain ⟨x_66, f_67, e_68⟩ := hw
    have f_69 := frX.tr f_63 f_67
    replace e_68 := e_68.symm
    subst e_68
    refine g_icmp_ne (tgt := 130) C (by omega) (by omega) dL_isPair_119 (by decide) (fun c_70 => absurd c_70 (by omega)) (fun c_70 => ?_)
    refine g_iload_n C dL_isPair_122 rfl hl 4 rfl ?_
    refine g_if_le (tgt := 130) C (by omega) dL_isPair_123 (by decide) (fun c_71 => absurd c_71 (by omega)) (fun c_71 => ?_)
    refine g_iconst (a := 1) C dL_isPair_126 rfl ?_
    refine g_goto (tgt := 131) C dL_isPair_127 (by decide) ?_
    refine lv_istore (lv' := [(7, .int (iz 1)), (6, .int (iz (f 0))), (5, .int (iz z5)), (4, .int (iz z4)), (3, .int (iz (coF f li lj))), (0, .ref (ad 0)), (1, .int (iz li)), (2, .int (iz lj))]) C.1.1 C.1.2.1 dL_isPair_131 hl (by decide) rfl (fun ls hl => ?_)
    refine g_aload_n C dL_isPair_133 rfl hl 5 rfl ?_
    refine g_iload_n C dL_isPair_134 rfl hl 6 rfl ?_
    refine g_iconst (a := 3) C dL_isPair_135 rfl ?_
    refine g_ci C G (g_runVP (As := [.int (iz li), .int (iz 3)]) (rest := []) (pos := 0) C G X (q_layer l hlf κ B n ad g_65 HP nl f F9 M9 li 3 hnn x_66 hli (by decide)) (cwV 2 C.1.2.2.2.2 gL_isPair_X7_layer rfl rfl rfl (by decide +kernel) ⟨Nat.le_of_ble_eq_true rfl, Nat.le_of_ble_eq_true rfl⟩) (by omega) x_66.he (T := TX7) (N := 8) rfl rfl hl rfl (Nat.le_of_ble_eq_true rfl) dL_isPair_136 ⟨Nat.le_of_ble_eq_true rfl, Nat.le_of_ble_eq_true rfl⟩) (fun z_72 g_73 H locs hw G => ?_)
    obtain ⟨x_74, f_75, e_76⟩ := hw
    have f_77 := frX.tr f_69 f_75
    replace e_76 : z_72 = f (4 * li + 4) := e_76.trans lyF_3
    replace e_76 := e_76.symm
    subst e_76
    refine lv_istore (lv' := [(8, .int (iz (f (4 * li + 4)))), (7, .int (iz 1)), (6, .int (iz (f 0))), (5, .int (iz z5)), (4, .int (iz z4)), (3, .int (iz (coF f li lj))), (0, .ref (ad 0)), (1, .int (iz li)), (2, .int (iz lj))]) C.1.1 C.1.2.1 dL_isPair_139 hl (by decide) rfl (fun ls hl => ?_)
    refine g_iload C dL_isPair_141 hl 3 rfl ?_
    refine g_if_lt (tgt := 229) C (by omega) dL_isPair_143 (by decide) (fun c_78 => ?_) (fun c_78 => ?_)
    · refine g_iload_n C dL_isPair_229 rfl hl 7 rfl ?_
      refine g_iload_n C dL_isPair_230 rfl hl 8 rfl ?_
      refine g_icmp_eq (tgt := 283) C (by omega) (by omega) dL_isPair_231 (by decide) (fun c_79 => ?_) (fun c_79 => ?_)
      · refine g_iload C dL_isPair_283 hl 1 rfl ?_
        refine g_if_eq (tgt := 313) C (by decide) dL_isPair_285 (by decide) (fun c9 => absurd c9 (by decide)) (fun _ => ?_)
        refine g_aload_n C dL_isPair_288 rfl hl 6 rfl ?_
        refine g_iload_n C dL_isPair_289 rfl hl 7 rfl ?_
        refine g_iconst (a := 3) C dL_isPair_290 rfl ?_
        refine g_ci C G (g_runVP (As := [.int (iz li), .int (iz 3)]) (rest := []) (pos := 0) C G X (q_layer l hlf κ B n ad g_73 HP nl f F9 M9 li 3 hnn x_74 hli (by decide)) (cwV 2 C.1.2.2.2.2 gL_isPair_X7_layer rfl rfl rfl (by decide +kernel) ⟨Nat.le_of_ble_eq_true rfl, Nat.le_of_ble_eq_true rfl⟩) (by omega) x_74.he (T := TX7) (N := 8) rfl rfl hl rfl (Nat.le_of_ble_eq_true rfl) dL_isPair_291 ⟨Nat.le_of_ble_eq_true rfl, Nat.le_of_ble_eq_true rfl⟩) (fun z_80 g_81 H locs hw G => ?_)
        obtain ⟨x_82, f_83, e_84⟩ := hw
        have f_85 := frX.tr f_77 f_83
        replace e_84 : z_80 = f (4 * li + 4) := e_84.trans lyF_3
        replace e_84 := e_84.symm
        subst e_84
        refine g_iload C dL_isPair_294 hl 0 rfl ?_
        refine g_icmp_ne (tgt := 313) C (by omega) (by omega) dL_isPair_296 (by decide) (fun c_86 => absurd c_86 (by omega)) (fun c_86 => ?_)
        refine g_aload_n C dL_isPair_299 rfl hl 6 rfl ?_
        refine g_iload_n C dL_isPair_300 rfl hl 7 rfl ?_
        refine g_iload_n C dL_isPair_301 rfl hl 8 rfl ?_
        refine g_ci C G (g_runVP (As := [.int (iz li), .int (iz lj)]) (rest := []) (pos := 0) C G X (q_common l hlf κ B n ad g_81 HP nl f F9 M9 li lj hnn x_82 hli hlj) (cwV 2 C.1.2.2.2.2 gL_isPair_X7_common rfl rfl rfl (by decide +kernel) ⟨Nat.le_of_ble_eq_true rfl, Nat.le_of_ble_eq_true rfl⟩) (by omega) x_82.he (T := TX7) (N := 8) rfl rfl hl rfl (Nat.le_of_ble_eq_true rfl) dL_isPair_302 ⟨Nat.le_of_ble_eq_true rfl, Nat.le_of_ble_eq_true rfl⟩) (fun z_87 g_88 H locs hw G => ?_)
        obtain ⟨x_89, f_90, e_91⟩ := hw
        have f_92 := frX.tr f_85 f_90
        replace e_91 := e_91.symm
        subst e_91
        refine g_iload_n C dL_isPair_305 rfl hl 5 rfl ?_
        refine g_icmp_ne (tgt := 313) C (by omega) (by omega) dL_isPair_306 (by decide) (fun c_93 => absurd c_93 (by omega)) (fun c_93 => ?_)
        refine g_iconst (a := 1) C dL_isPair_309 rfl ?_
        refine g_goto (tgt := 314) C dL_isPair_310 (by decide) ?_
        refine g_zret C G hr hlk (by decide) (Nat.le_of_ble_eq_true rfl) (Nat.le_of_ble_eq_true rfl) dL_isPair_314 ?_
        exact ⟨x_89.any, f_92, rfl⟩
      · have hne2 : li ≠ lj := by omega
        have hbs := bs_st hok hli hlj hne2
        refine g_aload_n C dL_isPair_234 rfl hl 6 rfl ?_
        refine g_iload_n C dL_isPair_235 rfl hl 7 rfl ?_
        refine g_iload_n C dL_isPair_236 rfl hl 8 rfl ?_
        refine g_ci C G (g_runVP (As := [.int (iz li), .int (iz lj)]) (rest := []) (pos := 0) C G X (q_bestStart l hlf κ B n ad g_73 HP nl f F9 M9 li lj hnn x_74 hli hlj hne2) (cwV 2 C.1.2.2.2.2 gL_isPair_X7_bestStart rfl rfl rfl (by decide +kernel) ⟨Nat.le_of_ble_eq_true rfl, Nat.le_of_ble_eq_true rfl⟩) (by omega) x_74.he (T := TX7) (N := 8) rfl rfl hl rfl (Nat.le_of_ble_eq_true rfl) dL_isPair_237 ⟨Nat.le_of_ble_eq_true rfl, Nat.le_of_ble_eq_true rfl⟩) (fun z_94 g_95 H locs hw G => ?_)
        obtain ⟨x_96, f_97, e_98⟩ := hw
        have f_99 := frX.tr f_77 f_97
        replace e_98 := e_98.symm
        subst e_98
        refine lv_istore (lv' := [(9, .int (iz (bsF f li lj))), (8, .int (iz (f (4 * li + 4)))), (7, .int (iz 1)), (6, .int (iz (f 0))), (5, .int (iz z5)), (4, .int (iz z4)), (3, .int (iz (coF f li lj))), (0, .ref (ad 0)), (1, .int (iz li)), (2, .int (iz lj))]) C.1.1 C.1.2.1 dL_isPair_240 hl (by decide) rfl (fun ls hl => ?_)
        refine g_iload C dL_isPair_242 hl 2 rfl ?_
        refine g_if_eq (tgt := 274) C (by decide) dL_isPair_244 (by decide) (fun c9 => absurd c9 (by decide)) (fun _ => ?_)
        refine g_aload_n C dL_isPair_247 rfl hl 7 rfl ?_
        refine g_iload_n C dL_isPair_248 rfl hl 8 rfl ?_
        refine g_iconst (a := 3) C dL_isPair_249 rfl ?_
        refine g_iload C dL_isPair_250 hl 0 rfl ?_
        refine g_ci C G (g_runVP (As := [.int (iz li), .int (iz 3), .int (iz (bsF f li lj))]) (rest := []) (pos := 0) C G X (q_change l hlf κ B n ad g_95 HP nl f F9 M9 li 3 (bsF f li lj) hnn x_96 hli (Or.inr (Or.inr (Or.inr ⟨rfl, by omega, by omega⟩)))) (cwV 3 C.1.2.2.2.2 gL_isPair_X7_change rfl rfl rfl (by decide +kernel) ⟨Nat.le_of_ble_eq_true rfl, Nat.le_of_ble_eq_true rfl⟩) (by omega) x_96.he (T := TX7) (N := 8) rfl rfl hl rfl (Nat.le_of_ble_eq_true rfl) dL_isPair_252 ⟨Nat.le_of_ble_eq_true rfl, Nat.le_of_ble_eq_true rfl⟩) (fun z_100 g_101 H locs hw G => ?_)
        obtain ⟨x_102, f_103, e_104⟩ := hw
        have f_105 := frX.tr f_99 f_103
        rw [show 4 * li + 1 + 3 = 4 * li + 4 by omega] at e_104
        replace e_104 := e_104.symm
        subst e_104
        have hc1 := co_le (f := (vu f (4 * li + 1 + 3) (bsF f li lj))) li lj
        have hc2 := cn_le (f := (vu f (4 * li + 1 + 3) (bsF f li lj))) li
        have hc3 := cn_le (f := (vu f (4 * li + 1 + 3) (bsF f li lj))) lj
        refine g_iload C dL_isPair_255 hl 1 rfl ?_
        refine g_icmp_ne (tgt := 274) C (by omega) (by omega) dL_isPair_257 (by decide) (fun c_106 => absurd c_106 (by omega)) (fun c_106 => ?_)
        refine g_aload_n C dL_isPair_260 rfl hl 7 rfl ?_
        refine g_iload_n C dL_isPair_261 rfl hl 8 rfl ?_
        refine g_iload_n C dL_isPair_262 rfl hl 9 rfl ?_
        refine g_ci C G (g_runVP (As := [.int (iz li), .int (iz lj)]) (rest := []) (pos := 0) C G X (q_common l hlf κ B n ad g_101 (HPl nl f) nl (vu f (4 * li + 1 + 3) (bsF f li lj)) F9 M9 li lj hnn x_102 hli hlj) (cwV 2 C.1.2.2.2.2 gL_isPair_X7_common rfl rfl rfl (by decide +kernel) ⟨Nat.le_of_ble_eq_true rfl, Nat.le_of_ble_eq_true rfl⟩) (by omega) x_102.he (T := TX7) (N := 8) rfl rfl hl rfl (Nat.le_of_ble_eq_true rfl) dL_isPair_263 ⟨Nat.le_of_ble_eq_true rfl, Nat.le_of_ble_eq_true rfl⟩) (fun z_107 g_108 H locs hw G => ?_)
        obtain ⟨x_109, f_110, e_111⟩ := hw
        have f_112 := frX.tr f_105 f_110
        refine g_iload_n C dL_isPair_266 rfl hl 6 rfl ?_
        refine g_icmp_lt (tgt := 274) C (by omega) (by omega) dL_isPair_267 (by decide) (fun c_113 => absurd c_113 (by omega)) (fun c_113 => ?_)
        refine g_iconst (a := 1) C dL_isPair_270 rfl ?_
        refine g_goto (tgt := 275) C dL_isPair_271 (by decide) ?_
        refine lv_istore (lv' := [(7, .int (iz 1)), (9, .int (iz (bsF f li lj))), (8, .int (iz (f (4 * li + 4)))), (6, .int (iz (f 0))), (5, .int (iz z5)), (4, .int (iz z4)), (3, .int (iz (coF f li lj))), (0, .ref (ad 0)), (1, .int (iz li)), (2, .int (iz lj))]) C.1.1 C.1.2.1 dL_isPair_275 hl (by decide) rfl (fun ls hl => ?_)
        refine g_aload_n C dL_isPair_277 rfl hl 7 rfl ?_
        refine g_ci C G (g_runVP (As := []) (rest := []) (pos := 0) C G X (q_undo l hlf κ B n ad g_108 nl f nl (vu f (4 * li + 1 + 3) (bsF f li lj)) F9 M9 hnn x_109) (cwV 0 C.1.2.2.2.2 gL_isPair_X7_undo rfl rfl rfl (by decide +kernel) ⟨Nat.le_of_ble_eq_true rfl, Nat.le_of_ble_eq_true rfl⟩) (by omega) x_109.he (T := TX7) (N := 8) rfl rfl hl rfl (Nat.le_of_ble_eq_true rfl) dL_isPair_278 ⟨Nat.le_of_ble_eq_true rfl, Nat.le_of_ble_eq_true rfl⟩) (fun z_114 g_115 H locs hw G => ?_)
        obtain ⟨x_116, f_117, e_118⟩ := hw
        have f_119 := frX.tr f_112 f_117
        refine lv_istore (lv' := [(10, .int (iz z_114)), (7, .int (iz 1)), (9, .int (iz (bsF f li lj))), (8, .int (iz (f (4 * li + 4)))), (6, .int (iz (f 0))), (5, .int (iz z5)), (4, .int (iz z4)), (3, .int (iz (coF f li lj))), (0, .ref (ad 0)), (1, .int (iz li)), (2, .int (iz lj))]) C.1.1 C.1.2.1 dL_isPair_281 hl (by decide) rfl (fun ls hl => ?_)
        refine g_iload C dL_isPair_283 hl 1 rfl ?_
        refine g_if_eq (tgt := 313) C (by decide) dL_isPair_285 (by decide) (fun c9 => absurd c9 (by decide)) (fun _ => ?_)
        refine g_aload_n C dL_isPair_288 rfl hl 8 rfl ?_
        refine g_iload_n C dL_isPair_289 rfl hl 9 rfl ?_
        refine g_iconst (a := 3) C dL_isPair_290 rfl ?_
        refine g_ci C G (g_runVP (As := [.int (iz li), .int (iz 3)]) (rest := []) (pos := 0) C G X (q_layer l hlf κ B n ad g_115 HP0 nl f F9 M9 li 3 hnn x_116 hli (by decide)) (cwV 2 C.1.2.2.2.2 gL_isPair_X7_layer rfl rfl rfl (by decide +kernel) ⟨Nat.le_of_ble_eq_true rfl, Nat.le_of_ble_eq_true rfl⟩) (by omega) x_116.he (T := TX7) (N := 8) rfl rfl hl rfl (Nat.le_of_ble_eq_true rfl) dL_isPair_291 ⟨Nat.le_of_ble_eq_true rfl, Nat.le_of_ble_eq_true rfl⟩) (fun z_120 g_121 H locs hw G => ?_)
        obtain ⟨x_122, f_123, e_124⟩ := hw
        have f_125 := frX.tr f_119 f_123
        replace e_124 : z_120 = f (4 * li + 4) := e_124.trans lyF_3
        replace e_124 := e_124.symm
        subst e_124
        refine g_iload C dL_isPair_294 hl 3 rfl ?_
        refine g_icmp_ne (tgt := 313) C (by omega) (by omega) dL_isPair_296 (by decide) (fun c_126 => absurd c_126 (by omega)) (fun c_126 => ?_)
        refine g_aload_n C dL_isPair_299 rfl hl 8 rfl ?_
        refine g_iload_n C dL_isPair_300 rfl hl 9 rfl ?_
        refine g_iload_n C dL_isPair_301 rfl hl 10 rfl ?_
        refine g_ci C G (g_runVP (As := [.int (iz li), .int (iz lj)]) (rest := []) (pos := 0) C G X (q_common l hlf κ B n ad g_121 HP0 nl f F9 M9 li lj hnn x_122 hli hlj) (cwV 2 C.1.2.2.2.2 gL_isPair_X7_common rfl rfl rfl (by decide +kernel) ⟨Nat.le_of_ble_eq_true rfl, Nat.le_of_ble_eq_true rfl⟩) (by omega) x_122.he (T := TX7) (N := 8) rfl rfl hl rfl (Nat.le_of_ble_eq_true rfl) dL_isPair_302 ⟨Nat.le_of_ble_eq_true rfl, Nat.le_of_ble_eq_true rfl⟩) (fun z_127 g_128 H locs hw G => ?_)
        obtain ⟨x_129, f_130, e_131⟩ := hw
        have f_132 := frX.tr f_125 f_130
        replace e_131 := e_131.symm
        subst e_131
        refine g_iload_n C dL_isPair_305 rfl hl 7 rfl ?_
        refine g_icmp_ne (tgt := 313) C (by omega) (by omega) dL_isPair_306 (by decide) (fun c_133 => absurd c_133 (by omega)) (fun c_133 => ?_)
        refine g_iconst (a := 1) C dL_isPair_309 rfl ?_
        refine g_goto (tgt := 314) C dL_isPair_310 (by decide) ?_
        refine g_zret C G hr hlk (by decide) (Nat.le_of_ble_eq_true rfl) (Nat.le_of_ble_eq_true rfl) dL_isPair_314 ?_
        exact ⟨x_129.any, f_132, rfl⟩
    · refine g_iload_n C dL_isPair_146 rfl hl 7 rfl ?_
      refine g_iload_n C dL_isPair_147 rfl hl 8 rfl ?_
      refine g_icmp_eq (tgt := 229) C (by omega) (by omega) dL_isPair_148 (by decide) (fun c_134 => ?_) (fun c_134 => ?_)
      · refine g_iload_n C dL_isPair_229 rfl hl 7 rfl ?_
        refine g_iload_n C dL_isPair_230 rfl hl 8 rfl ?_
        refine g_icmp_eq (tgt := 283) C (by omega) (by omega) dL_isPair_231 (by decide) (fun c_135 => ?_) (fun c_135 => ?_)
        · refine g_iload C dL_isPair_283 hl 1 rfl ?_
          refine g_if_eq (tgt := 313) C (by decide) dL_isPair_285 (by decide) (fun c9 => absurd c9 (by decide)) (fun _ => ?_)
          refine g_aload_n C dL_isPair_288 rfl hl 6 rfl ?_
          refine g_iload_n C dL_isPair_289 rfl hl 7 rfl ?_
          refine g_iconst (a := 3) C dL_isPair_290 rfl ?_
          refine g_ci C G (g_runVP (As := [.int (iz li), .int (iz 3)]) (rest := []) (pos := 0) C G X (q_layer l hlf κ B n ad g_73 HP nl f F9 M9 li 3 hnn x_74 hli (by decide)) (cwV 2 C.1.2.2.2.2 gL_isPair_X7_layer rfl rfl rfl (by decide +kernel) ⟨Nat.le_of_ble_eq_true rfl, Nat.le_of_ble_eq_true rfl⟩) (by omega) x_74.he (T := TX7) (N := 8) rfl rfl hl rfl (Nat.le_of_ble_eq_true rfl) dL_isPair_291 ⟨Nat.le_of_ble_eq_true rfl, Nat.le_of_ble_eq_true rfl⟩) (fun z_136 g_137 H locs hw G => ?_)
          obtain ⟨x_138, f_139, e_140⟩ := hw
          have f_141 := frX.tr f_77 f_139
          replace e_140 : z_136 = f (4 * li + 4) := e_140.trans lyF_3
          replace e_140 := e_140.symm
          subst e_140
          refine g_iload C dL_isPair_294 hl 0 rfl ?_
          refine g_icmp_ne (tgt := 313) C (by omega) (by omega) dL_isPair_296 (by decide) (fun c_142 => absurd c_142 (by omega)) (fun c_142 => ?_)
          refine g_aload_n C dL_isPair_299 rfl hl 6 rfl ?_
          refine g_iload_n C dL_isPair_300 rfl hl 7 rfl ?_
          refine g_iload_n C dL_isPair_301 rfl hl 8 rfl ?_
          refine g_ci C G (g_runVP (As := [.int (iz li), .int (iz lj)]) (rest := []) (pos := 0) C G X (q_common l hlf κ B n ad g_137 HP nl f F9 M9 li lj hnn x_138 hli hlj) (cwV 2 C.1.2.2.2.2 gL_isPair_X7_common rfl rfl rfl (by decide +kernel) ⟨Nat.le_of_ble_eq_true rfl, Nat.le_of_ble_eq_true rfl⟩) (by omega) x_138.he (T := TX7) (N := 8) rfl rfl hl rfl (Nat.le_of_ble_eq_true rfl) dL_isPair_302 ⟨Nat.le_of_ble_eq_true rfl, Nat.le_of_ble_eq_true rfl⟩) (fun z_143 g_144 H locs hw G => ?_)
          obtain ⟨x_145, f_146, e_147⟩ := hw
          have f_148 := frX.tr f_141 f_146
          replace e_147 := e_147.symm
          subst e_147
          refine g_iload_n C dL_isPair_305 rfl hl 5 rfl ?_
          refine g_icmp_ne (tgt := 313) C (by omega) (by omega) dL_isPair_306 (by decide) (fun c_149 => absurd c_149 (by omega)) (fun c_149 => ?_)
          refine g_iconst (a := 1) C dL_isPair_309 rfl ?_
          refine g_goto (tgt := 314) C dL_isPair_310 (by decide) ?_
          refine g_zret C G hr hlk (by decide) (Nat.le_of_ble_eq_true rfl) (Nat.le_of_ble_eq_true rfl) dL_isPair_314 ?_
          exact ⟨x_145.any, f_148, rfl⟩
        · have hne2 : li ≠ lj := by omega
          have hbs := bs_st hok hli hlj hne2
          refine g_aload_n C dL_isPair_234 rfl hl 6 rfl ?_
          refine g_iload_n C dL_isPair_235 rfl hl 7 rfl ?_
          refine g_iload_n C dL_isPair_236 rfl hl 8 rfl ?_
          refine g_ci C G (g_runVP (As := [.int (iz li), .int (iz lj)]) (rest := []) (pos := 0) C G X (q_bestStart l hlf κ B n ad g_73 HP nl f F9 M9 li lj hnn x_74 hli hlj hne2) (cwV 2 C.1.2.2.2.2 gL_isPair_X7_bestStart rfl rfl rfl (by decide +kernel) ⟨Nat.le_of_ble_eq_true rfl, Nat.le_of_ble_eq_true rfl⟩) (by omega) x_74.he (T := TX7) (N := 8) rfl rfl hl rfl (Nat.le_of_ble_eq_true rfl) dL_isPair_237 ⟨Nat.le_of_ble_eq_true rfl, Nat.le_of_ble_eq_true rfl⟩) (fun z_150 g_151 H locs hw G => ?_)
          obtain ⟨x_152, f_153, e_154⟩ := hw
          have f_155 := frX.tr f_77 f_153
          replace e_154 := e_154.symm
          subst e_154
          refine lv_istore (lv' := [(9, .int (iz (bsF f li lj))), (8, .int (iz (f (4 * li + 4)))), (7, .int (iz 1)), (6, .int (iz (f 0))), (5, .int (iz z5)), (4, .int (iz z4)), (3, .int (iz (coF f li lj))), (0, .ref (ad 0)), (1, .int (iz li)), (2, .int (iz lj))]) C.1.1 C.1.2.1 dL_isPair_240 hl (by decide) rfl (fun ls hl => ?_)
          refine g_iload C dL_isPair_242 hl 2 rfl ?_
          refine g_if_eq (tgt := 274) C (by decide) dL_isPair_244 (by decide) (fun c9 => absurd c9 (by decide)) (fun _ => ?_)
          refine g_aload_n C dL_isPair_247 rfl hl 7 rfl ?_
          refine g_iload_n C dL_isPair_248 rfl hl 8 rfl ?_
          refine g_iconst (a := 3) C dL_isPair_249 rfl ?_
          refine g_iload C dL_isPair_250 hl 0 rfl ?_
          refine g_ci C G (g_runVP (As := [.int (iz li), .int (iz 3), .int (iz (bsF f li lj))]) (rest := []) (pos := 0) C G X (q_change l hlf κ B n ad g_151 HP nl f F9 M9 li 3 (bsF f li lj) hnn x_152 hli (Or.inr (Or.inr (Or.inr ⟨rfl, by omega, by omega⟩)))) (cwV 3 C.1.2.2.2.2 gL_isPair_X7_change rfl rfl rfl (by decide +kernel) ⟨Nat.le_of_ble_eq_true rfl, Nat.le_of_ble_eq_true rfl⟩) (by omega) x_152.he (T := TX7) (N := 8) rfl rfl hl rfl (Nat.le_of_ble_eq_true rfl) dL_isPair_252 ⟨Nat.le_of_ble_eq_true rfl, Nat.le_of_ble_eq_true rfl⟩) (fun z_156 g_157 H locs hw G => ?_)
          obtain ⟨x_158, f_159, e_160⟩ := hw
          have f_161 := frX.tr f_155 f_159
          rw [show 4 * li + 1 + 3 = 4 * li + 4 by omega] at e_160
          replace e_160 := e_160.symm
          subst e_160
          have hc1 := co_le (f := (vu f (4 * li + 1 + 3) (bsF f li lj))) li lj
          have hc2 := cn_le (f := (vu f (4 * li + 1 + 3) (bsF f li lj))) li
          have hc3 := cn_le (f := (vu f (4 * li + 1 + 3) (bsF f li lj))) lj
          refine g_iload C dL_isPair_255 hl 1 rfl ?_
          refine g_icmp_ne (tgt := 274) C (by omega) (by omega) dL_isPair_257 (by decide) (fun c_162 => absurd c_162 (by omega)) (fun c_162 => ?_)
          refine g_aload_n C dL_isPair_260 rfl hl 7 rfl ?_
          refine g_iload_n C dL_isPair_261 rfl hl 8 rfl ?_
          refine g_iload_n C dL_isPair_262 rfl hl 9 rfl ?_
          refine g_ci C G (g_runVP (As := [.int (iz li), .int (iz lj)]) (rest := []) (pos := 0) C G X (q_common l hlf κ B n ad g_157 (HPl nl f) nl (vu f (4 * li + 1 + 3) (bsF f li lj)) F9 M9 li lj hnn x_158 hli hlj) (cwV 2 C.1.2.2.2.2 gL_isPair_X7_common rfl rfl rfl (by decide +kernel) ⟨Nat.le_of_ble_eq_true rfl, Nat.le_of_ble_eq_true rfl⟩) (by omega) x_158.he (T := TX7) (N := 8) rfl rfl hl rfl (Nat.le_of_ble_eq_true rfl) dL_isPair_263 ⟨Nat.le_of_ble_eq_true rfl, Nat.le_of_ble_eq_true rfl⟩) (fun z_163 g_164 H locs hw G => ?_)
          obtain ⟨x_165, f_166, e_167⟩ := hw
          have f_168 := frX.tr f_161 f_166
          refine g_iload_n C dL_isPair_266 rfl hl 6 rfl ?_
          refine g_icmp_lt (tgt := 274) C (by omega) (by omega) dL_isPair_267 (by decide) (fun c_169 => absurd c_169 (by omega)) (fun c_169 => ?_)
          refine g_iconst (a := 1) C dL_isPair_270 rfl ?_
          refine g_goto (tgt := 275) C dL_isPair_271 (by decide) ?_
          refine lv_istore (lv' := [(7, .int (iz 1)), (9, .int (iz (bsF f li lj))), (8, .int (iz (f (4 * li + 4)))), (6, .int (iz (f 0))), (5, .int (iz z5)), (4, .int (iz z4)), (3, .int (iz (coF f li lj))), (0, .ref (ad 0)), (1, .int (iz li)), (2, .int (iz lj))]) C.1.1 C.1.2.1 dL_isPair_275 hl (by decide) rfl (fun ls hl => ?_)
          refine g_aload_n C dL_isPair_277 rfl hl 7 rfl ?_
          refine g_ci C G (g_runVP (As := []) (rest := []) (pos := 0) C G X (q_undo l hlf κ B n ad g_164 nl f nl (vu f (4 * li + 1 + 3) (bsF f li lj)) F9 M9 hnn x_165) (cwV 0 C.1.2.2.2.2 gL_isPair_X7_undo rfl rfl rfl (by decide +kernel) ⟨Nat.le_of_ble_eq_true rfl, Nat.le_of_ble_eq_true rfl⟩) (by omega) x_165.he (T := TX7) (N := 8) rfl rfl hl rfl (Nat.le_of_ble_eq_true rfl) dL_isPair_278 ⟨Nat.le_of_ble_eq_true rfl, Nat.le_of_ble_eq_true rfl⟩) (fun z_170 g_171 H locs hw G => ?_)
          obtain ⟨x_172, f_173, e_174⟩ := hw
          have f_175 := frX.tr f_168 f_173
          refine lv_istore (lv' := [(10, .int (iz z_170)), (7, .int (iz 1)), (9, .int (iz (bsF f li lj))), (8, .int (iz (f (4 * li + 4)))), (6, .int (iz (f 0))), (5, .int (iz z5)), (4, .int (iz z4)), (3, .int (iz (coF f li lj))), (0, .ref (ad 0)), (1, .int (iz li)), (2, .int (iz lj))]) C.1.1 C.1.2.1 dL_isPair_281 hl (by decide) rfl (fun ls hl => ?_)
          refine g_iload C dL_isPair_283 hl 1 rfl ?_
          refine g_if_eq (tgt := 313) C (by decide) dL_isPair_285 (by decide) (fun c9 => absurd c9 (by decide)) (fun _ => ?_)
          refine g_aload_n C dL_isPair_288 rfl hl 8 rfl ?_
          refine g_iload_n C dL_isPair_289 rfl hl 9 rfl ?_
          refine g_iconst (a := 3) C dL_isPair_290 rfl ?_
          refine g_ci C G (g_runVP (As := [.int (iz li), .int (iz 3)]) (rest := []) (pos := 0) C G X (q_layer l hlf κ B n ad g_171 HP0 nl f F9 M9 li 3 hnn x_172 hli (by decide)) (cwV 2 C.1.2.2.2.2 gL_isPair_X7_layer rfl rfl rfl (by decide +kernel) ⟨Nat.le_of_ble_eq_true rfl, Nat.le_of_ble_eq_true rfl⟩) (by omega) x_172.he (T := TX7) (N := 8) rfl rfl hl rfl (Nat.le_of_ble_eq_true rfl) dL_isPair_291 ⟨Nat.le_of_ble_eq_true rfl, Nat.le_of_ble_eq_true rfl⟩) (fun z_176 g_177 H locs hw G => ?_)
          obtain ⟨x_178, f_179, e_180⟩ := hw
          have f_181 := frX.tr f_175 f_179
          replace e_180 : z_176 = f (4 * li + 4) := e_180.trans lyF_3
          replace e_180 := e_180.symm
          subst e_180
          refine g_iload C dL_isPair_294 hl 3 rfl ?_
          refine g_icmp_ne (tgt := 313) C (by omega) (by omega) dL_isPair_296 (by decide) (fun c_182 => absurd c_182 (by omega)) (fun c_182 => ?_)
          refine g_aload_n C dL_isPair_299 rfl hl 8 rfl ?_
          refine g_iload_n C dL_isPair_300 rfl hl 9 rfl ?_
          refine g_iload_n C dL_isPair_301 rfl hl 10 rfl ?_
          refine g_ci C G (g_runVP (As := [.int (iz li), .int (iz lj)]) (rest := []) (pos := 0) C G X (q_common l hlf κ B n ad g_177 HP0 nl f F9 M9 li lj hnn x_178 hli hlj) (cwV 2 C.1.2.2.2.2 gL_isPair_X7_common rfl rfl rfl (by decide +kernel) ⟨Nat.le_of_ble_eq_true rfl, Nat.le_of_ble_eq_true rfl⟩) (by omega) x_178.he (T := TX7) (N := 8) rfl rfl hl rfl (Nat.le_of_ble_eq_true rfl) dL_isPair_302 ⟨Nat.le_of_ble_eq_true rfl, Nat.le_of_ble_eq_true rfl⟩) (fun z_183 g_184 H locs hw G => ?_)
          obtain ⟨x_185, f_186, e_187⟩ := hw
          have f_188 := frX.tr f_181 f_186
          replace e_187 := e_187.symm
          subst e_187
          refine g_iload_n C dL_isPair_305 rfl hl 7 rfl ?_
          refine g_icmp_ne (tgt := 313) C (by omega) (by omega) dL_isPair_306 (by decide) (fun c_189 => absurd c_189 (by omega)) (fun c_189 => ?_)
          refine g_iconst (a := 1) C dL_isPair_309 rfl ?_
          refine g_goto (tgt := 314) C dL_isPair_310 (by decide) ?_
          refine g_zret C G hr hlk (by decide) (Nat.le_of_ble_eq_true rfl) (Nat.le_of_ble_eq_true rfl) dL_isPair_314 ?_
          exact ⟨x_185.any, f_188, rfl⟩
      · have hne : li ≠ lj := by omega
        have hts := tr_st hok hli hlj hne htrn (by omega)
        have m0 : 0 ≤ (f (4 * li + 4) + z5) % f 0 := Int.emod_nonneg _ (by omega)
        have m1 : (f (4 * li + 4) + z5) % f 0 < f 0 := Int.emod_lt_of_pos _ (by omega)
        refine g_iload C dL_isPair_151 hl 1 rfl ?_
        refine g_if_eq (tgt := 220) C (by decide) dL_isPair_153 (by decide) (fun c9 => absurd c9 (by decide)) (fun _ => ?_)
        refine g_aload_n C dL_isPair_156 rfl hl 6 rfl ?_
        refine g_iload_n C dL_isPair_157 rfl hl 7 rfl ?_
        refine g_iconst (a := 3) C dL_isPair_158 rfl ?_
        refine g_iload C dL_isPair_159 hl 0 rfl ?_
        refine g_iload C dL_isPair_161 hl 3 rfl ?_
        refine g_iadd C dL_isPair_163 ?_
        refine g_iload C dL_isPair_164 hl 2 rfl ?_
        refine g_irem C (by omega) (by omega) (by omega) dL_isPair_166 ?_
        rw [show Int.tmod (f (4 * li + 4) + z5) (f 0) = (f (4 * li + 4) + z5) % f 0 from tmod_pos (by omega)]
        refine g_ci C G (g_runVP (As := [.int (iz li), .int (iz 3), .int (iz ((f (4 * li + 4) + z5) % f 0))]) (rest := []) (pos := 0) C G X (q_change l hlf κ B n ad g_73 HP nl f F9 M9 li 3 ((f (4 * li + 4) + z5) % f 0) hnn x_74 hli (Or.inr (Or.inr (Or.inr ⟨rfl, by omega, by omega⟩)))) (cwV 3 C.1.2.2.2.2 gL_isPair_X7_change rfl rfl rfl (by decide +kernel) ⟨Nat.le_of_ble_eq_true rfl, Nat.le_of_ble_eq_true rfl⟩) (by omega) x_74.he (T := TX7) (N := 8) rfl rfl hl rfl (Nat.le_of_ble_eq_true rfl) dL_isPair_167 ⟨Nat.le_of_ble_eq_true rfl, Nat.le_of_ble_eq_true rfl⟩) (fun z_190 g_191 H locs hw G => ?_)
        obtain ⟨x_192, f_193, e_194⟩ := hw
        have f_195 := frX.tr f_77 f_193
        rw [show 4 * li + 1 + 3 = 4 * li + 4 by omega] at e_194
        replace e_194 := e_194.symm
        subst e_194
        have hc1 := co_le (f := (vu f (4 * li + 1 + 3) ((f (4 * li + 4) + z5) % f 0))) li lj
        have hc2 := cn_le (f := (vu f (4 * li + 1 + 3) ((f (4 * li + 4) + z5) % f 0))) li
        have hc3 := cn_le (f := (vu f (4 * li + 1 + 3) ((f (4 * li + 4) + z5) % f 0))) lj
        refine g_iload C dL_isPair_170 hl 0 rfl ?_
        refine g_icmp_ne (tgt := 220) C (by omega) (by omega) dL_isPair_172 (by decide) (fun c_196 => absurd c_196 (by omega)) (fun c_196 => ?_)
        refine g_aload_n C dL_isPair_175 rfl hl 6 rfl ?_
        refine g_iload_n C dL_isPair_176 rfl hl 7 rfl ?_
        refine g_iload_n C dL_isPair_177 rfl hl 8 rfl ?_
        refine g_ci C G (g_runVP (As := [.int (iz li), .int (iz lj)]) (rest := []) (pos := 0) C G X (q_common l hlf κ B n ad g_191 (HPl nl f) nl (vu f (4 * li + 1 + 3) ((f (4 * li + 4) + z5) % f 0)) F9 M9 li lj hnn x_192 hli hlj) (cwV 2 C.1.2.2.2.2 gL_isPair_X7_common rfl rfl rfl (by decide +kernel) ⟨Nat.le_of_ble_eq_true rfl, Nat.le_of_ble_eq_true rfl⟩) (by omega) x_192.he (T := TX7) (N := 8) rfl rfl hl rfl (Nat.le_of_ble_eq_true rfl) dL_isPair_178 ⟨Nat.le_of_ble_eq_true rfl, Nat.le_of_ble_eq_true rfl⟩) (fun z_197 g_198 H locs hw G => ?_)
        obtain ⟨x_199, f_200, e_201⟩ := hw
        have f_202 := frX.tr f_195 f_200
        refine g_aload_n C dL_isPair_181 rfl hl 6 rfl ?_
        refine g_iload_n C dL_isPair_182 rfl hl 7 rfl ?_
        refine g_bipush (a := 7) C dL_isPair_183 (by decide) ?_
        refine g_ci C G (g_runVP (As := [.int (iz li), .int (iz 7)]) (rest := [.int (iz z_197)]) (pos := 0) C G X (q_layer l hlf κ B n ad g_198 (HPl nl f) nl (vu f (4 * li + 1 + 3) ((f (4 * li + 4) + z5) % f 0)) F9 M9 li 7 hnn x_199 hli (by decide)) (cwV 2 C.1.2.2.2.2 gL_isPair_X7_layer rfl rfl rfl (by decide +kernel) ⟨Nat.le_of_ble_eq_true rfl, Nat.le_of_ble_eq_true rfl⟩) (by omega) x_199.he (T := TX7) (N := 8) rfl rfl hl rfl (Nat.le_of_ble_eq_true rfl) dL_isPair_185 ⟨Nat.le_of_ble_eq_true rfl, Nat.le_of_ble_eq_true rfl⟩) (fun z_203 g_204 H locs hw G => ?_)
        obtain ⟨x_205, f_206, e_207⟩ := hw
        have f_208 := frX.tr f_202 f_206
        replace e_207 : z_203 = ((cntS (fun x y => PTl (vu f (4 * li + 1 + 3) ((f (4 * li + 4) + z5) % f 0)) li x y) : Nat) : Int) := e_207.trans (lyF_7.trans (rfl))
        replace e_207 := e_207.symm
        subst e_207
        refine g_icmp_ne (tgt := 220) C (by omega) (by omega) dL_isPair_188 (by decide) (fun c_209 => absurd c_209 (by omega)) (fun c_209 => ?_)
        refine g_aload_n C dL_isPair_191 rfl hl 6 rfl ?_
        refine g_iload_n C dL_isPair_192 rfl hl 7 rfl ?_
        refine g_iload_n C dL_isPair_193 rfl hl 8 rfl ?_
        refine g_ci C G (g_runVP (As := [.int (iz li), .int (iz lj)]) (rest := []) (pos := 0) C G X (q_common l hlf κ B n ad g_204 (HPl nl f) nl (vu f (4 * li + 1 + 3) ((f (4 * li + 4) + z5) % f 0)) F9 M9 li lj hnn x_205 hli hlj) (cwV 2 C.1.2.2.2.2 gL_isPair_X7_common rfl rfl rfl (by decide +kernel) ⟨Nat.le_of_ble_eq_true rfl, Nat.le_of_ble_eq_true rfl⟩) (by omega) x_205.he (T := TX7) (N := 8) rfl rfl hl rfl (Nat.le_of_ble_eq_true rfl) dL_isPair_194 ⟨Nat.le_of_ble_eq_true rfl, Nat.le_of_ble_eq_true rfl⟩) (fun z_210 g_211 H locs hw G => ?_)
        obtain ⟨x_212, f_213, e_214⟩ := hw
        have f_215 := frX.tr f_208 f_213
        refine g_aload_n C dL_isPair_197 rfl hl 6 rfl ?_
        refine g_iload_n C dL_isPair_198 rfl hl 8 rfl ?_
        refine g_bipush (a := 7) C dL_isPair_199 (by decide) ?_
        refine g_ci C G (g_runVP (As := [.int (iz lj), .int (iz 7)]) (rest := [.int (iz z_210)]) (pos := 0) C G X (q_layer l hlf κ B n ad g_211 (HPl nl f) nl (vu f (4 * li + 1 + 3) ((f (4 * li + 4) + z5) % f 0)) F9 M9 lj 7 hnn x_212 hlj (by decide)) (cwV 2 C.1.2.2.2.2 gL_isPair_X7_layer rfl rfl rfl (by decide +kernel) ⟨Nat.le_of_ble_eq_true rfl, Nat.le_of_ble_eq_true rfl⟩) (by omega) x_212.he (T := TX7) (N := 8) rfl rfl hl rfl (Nat.le_of_ble_eq_true rfl) dL_isPair_201 ⟨Nat.le_of_ble_eq_true rfl, Nat.le_of_ble_eq_true rfl⟩) (fun z_216 g_217 H locs hw G => ?_)
        obtain ⟨x_218, f_219, e_220⟩ := hw
        have f_221 := frX.tr f_215 f_219
        replace e_220 : z_216 = ((cntS (fun x y => PTl (vu f (4 * li + 1 + 3) ((f (4 * li + 4) + z5) % f 0)) lj x y) : Nat) : Int) := e_220.trans (lyF_7.trans (rfl))
        replace e_220 := e_220.symm
        subst e_220
        refine g_icmp_ne (tgt := 220) C (by omega) (by omega) dL_isPair_204 (by decide) (fun c_222 => absurd c_222 (by omega)) (fun c_222 => ?_)
        refine g_aload_n C dL_isPair_207 rfl hl 6 rfl ?_
        refine g_iload_n C dL_isPair_208 rfl hl 7 rfl ?_
        refine g_iload_n C dL_isPair_209 rfl hl 8 rfl ?_
        refine g_ci C G (g_runVP (As := [.int (iz li), .int (iz lj)]) (rest := []) (pos := 0) C G X (q_turned l hlf κ B n ad g_217 (HPl nl f) nl (vu f (4 * li + 1 + 3) ((f (4 * li + 4) + z5) % f 0)) F9 M9 li lj hnn x_218 hli hlj) (cwV 2 C.1.2.2.2.2 gL_isPair_X7_turned rfl rfl rfl (by decide +kernel) ⟨Nat.le_of_ble_eq_true rfl, Nat.le_of_ble_eq_true rfl⟩) (by omega) x_218.he (T := TX7) (N := 8) rfl rfl hl rfl (Nat.le_of_ble_eq_true rfl) dL_isPair_210 ⟨Nat.le_of_ble_eq_true rfl, Nat.le_of_ble_eq_true rfl⟩) (fun z_223 g_224 H locs hw G => ?_)
        obtain ⟨x_225, f_226, e_227⟩ := hw
        have f_228 := frX.tr f_221 f_226
        have e9 := tr_0 hok hli hlj hne htrn (by omega) e_227
        subst e9
        refine g_if_ne (tgt := 220) C (by decide) dL_isPair_213 (by decide) (fun c9 => absurd c9 (by decide)) (fun _ => ?_)
        refine g_iconst (a := 1) C dL_isPair_216 rfl ?_
        refine g_goto (tgt := 221) C dL_isPair_217 (by decide) ?_
        refine lv_istore (lv' := [(7, .int (iz 1)), (8, .int (iz (f (4 * li + 4)))), (6, .int (iz (f 0))), (5, .int (iz z5)), (4, .int (iz z4)), (3, .int (iz (coF f li lj))), (0, .ref (ad 0)), (1, .int (iz li)), (2, .int (iz lj))]) C.1.1 C.1.2.1 dL_isPair_221 hl (by decide) rfl (fun ls hl => ?_)
        refine g_aload_n C dL_isPair_223 rfl hl 6 rfl ?_
        refine g_ci C G (g_runVP (As := []) (rest := []) (pos := 0) C G X (q_undo l hlf κ B n ad g_224 nl f nl (vu f (4 * li + 1 + 3) ((f (4 * li + 4) + z5) % f 0)) F9 M9 hnn x_225) (cwV 0 C.1.2.2.2.2 gL_isPair_X7_undo rfl rfl rfl (by decide +kernel) ⟨Nat.le_of_ble_eq_true rfl, Nat.le_of_ble_eq_true rfl⟩) (by omega) x_225.he (T := TX7) (N := 8) rfl rfl hl rfl (Nat.le_of_ble_eq_true rfl) dL_isPair_224 ⟨Nat.le_of_ble_eq_true rfl, Nat.le_of_ble_eq_true rfl⟩) (fun z_229 g_230 H locs hw G => ?_)
        obtain ⟨x_231, f_232, e_233⟩ := hw
        have f_234 := frX.tr f_228 f_232
        refine lv_istore (lv' := [(9, .int (iz z_229)), (7, .int (iz 1)), (8, .int (iz (f (4 * li + 4)))), (6, .int (iz (f 0))), (5, .int (iz z5)), (4, .int (iz z4)), (3, .int (iz (coF f li lj))), (0, .ref (ad 0)), (1, .int (iz li)), (2, .int (iz lj))]) C.1.1 C.1.2.1 dL_isPair_227 hl (by decide) rfl (fun ls hl => ?_)
        refine g_iload_n C dL_isPair_229 rfl hl 8 rfl ?_
        refine g_iload_n C dL_isPair_230 rfl hl 9 rfl ?_
        refine g_icmp_eq (tgt := 283) C (by omega) (by omega) dL_isPair_231 (by decide) (fun c_235 => ?_) (fun c_235 => ?_)
        · refine g_iload C dL_isPair_283 hl 1 rfl ?_
          refine g_if_eq (tgt := 313) C (by decide) dL_isPair_285 (by decide) (fun c9 => absurd c9 (by decide)) (fun _ => ?_)
          refine g_aload_n C dL_isPair_288 rfl hl 7 rfl ?_
          refine g_iload_n C dL_isPair_289 rfl hl 8 rfl ?_
          refine g_iconst (a := 3) C dL_isPair_290 rfl ?_
          refine g_ci C G (g_runVP (As := [.int (iz li), .int (iz 3)]) (rest := []) (pos := 0) C G X (q_layer l hlf κ B n ad g_230 HP0 nl f F9 M9 li 3 hnn x_231 hli (by decide)) (cwV 2 C.1.2.2.2.2 gL_isPair_X7_layer rfl rfl rfl (by decide +kernel) ⟨Nat.le_of_ble_eq_true rfl, Nat.le_of_ble_eq_true rfl⟩) (by omega) x_231.he (T := TX7) (N := 8) rfl rfl hl rfl (Nat.le_of_ble_eq_true rfl) dL_isPair_291 ⟨Nat.le_of_ble_eq_true rfl, Nat.le_of_ble_eq_true rfl⟩) (fun z_236 g_237 H locs hw G => ?_)
          obtain ⟨x_238, f_239, e_240⟩ := hw
          have f_241 := frX.tr f_234 f_239
          replace e_240 : z_236 = f (4 * li + 4) := e_240.trans lyF_3
          replace e_240 := e_240.symm
          subst e_240
          refine g_iload C dL_isPair_294 hl 2 rfl ?_
          refine g_icmp_ne (tgt := 313) C (by omega) (by omega) dL_isPair_296 (by decide) (fun c_242 => absurd c_242 (by omega)) (fun c_242 => ?_)
          refine g_aload_n C dL_isPair_299 rfl hl 7 rfl ?_
          refine g_iload_n C dL_isPair_300 rfl hl 8 rfl ?_
          refine g_iload_n C dL_isPair_301 rfl hl 9 rfl ?_
          refine g_ci C G (g_runVP (As := [.int (iz li), .int (iz lj)]) (rest := []) (pos := 0) C G X (q_common l hlf κ B n ad g_237 HP0 nl f F9 M9 li lj hnn x_238 hli hlj) (cwV 2 C.1.2.2.2.2 gL_isPair_X7_common rfl rfl rfl (by decide +kernel) ⟨Nat.le_of_ble_eq_true rfl, Nat.le_of_ble_eq_true rfl⟩) (by omega) x_238.he (T := TX7) (N := 8) rfl rfl hl rfl (Nat.le_of_ble_eq_true rfl) dL_isPair_302 ⟨Nat.le_of_ble_eq_true rfl, Nat.le_of_ble_eq_true rfl⟩) (fun z_243 g_244 H locs hw G => ?_)
          obtain ⟨x_245, f_246, e_247⟩ := hw
          have f_248 := frX.tr f_241 f_246
          replace e_247 := e_247.symm
          subst e_247
          refine g_iload_n C dL_isPair_305 rfl hl 6 rfl ?_
          refine g_icmp_ne (tgt := 313) C (by omega) (by omega) dL_isPair_306 (by decide) (fun c_249 => absurd c_249 (by omega)) (fun c_249 => ?_)
          refine g_iconst (a := 1) C dL_isPair_309 rfl ?_
          refine g_goto (tgt := 314) C dL_isPair_310 (by decide) ?_
          refine g_zret C G hr hlk (by decide) (Nat.le_of_ble_eq_true rfl) (Nat.le_of_ble_eq_true rfl) dL_isPair_314 ?_
          exact ⟨x_245.any, f_248, rfl⟩
        · have hne2 : li ≠ lj := by omega
          have hbs := bs_st hok hli hlj hne2
          refine g_aload_n C dL_isPair_234 rfl hl 7 rfl ?_
          refine g_iload_n C dL_isPair_235 rfl hl 8 rfl ?_
          refine g_iload_n C dL_isPair_236 rfl hl 9 rfl ?_
          refine g_ci C G (g_runVP (As := [.int (iz li), .int (iz lj)]) (rest := []) (pos := 0) C G X (q_bestStart l hlf κ B n ad g_230 HP0 nl f F9 M9 li lj hnn x_231 hli hlj hne2) (cwV 2 C.1.2.2.2.2 gL_isPair_X7_bestStart rfl rfl rfl (by decide +kernel) ⟨Nat.le_of_ble_eq_true rfl, Nat.le_of_ble_eq_true rfl⟩) (by omega) x_231.he (T := TX7) (N := 8) rfl rfl hl rfl (Nat.le_of_ble_eq_true rfl) dL_isPair_237 ⟨Nat.le_of_ble_eq_true rfl, Nat.le_of_ble_eq_true rfl⟩) (fun z_250 g_251 H locs hw G => ?_)
          obtain ⟨x_252, f_253, e_254⟩ := hw
          have f_255 := frX.tr f_234 f_253
          replace e_254 := e_254.symm
          subst e_254
          refine lv_istore (lv' := [(9, .int (iz (bsF f li lj))), (7, .int (iz 1)), (8, .int (iz (f (4 * li + 4)))), (6, .int (iz (f 0))), (5, .int (iz z5)), (4, .int (iz z4)), (3, .int (iz (coF f li lj))), (0, .ref (ad 0)), (1, .int (iz li)), (2, .int (iz lj))]) C.1.1 C.1.2.1 dL_isPair_240 hl (by decide) rfl (fun ls hl => ?_)
          refine g_iload C dL_isPair_242 hl 1 rfl ?_
          refine g_if_eq (tgt := 274) C (by decide) dL_isPair_244 (by decide) (fun c9 => absurd c9 (by decide)) (fun _ => ?_)
          refine g_aload_n C dL_isPair_247 rfl hl 7 rfl ?_
          refine g_iload_n C dL_isPair_248 rfl hl 8 rfl ?_
          refine g_iconst (a := 3) C dL_isPair_249 rfl ?_
          refine g_iload C dL_isPair_250 hl 0 rfl ?_
          refine g_ci C G (g_runVP (As := [.int (iz li), .int (iz 3), .int (iz (bsF f li lj))]) (rest := []) (pos := 0) C G X (q_change l hlf κ B n ad g_251 HP0 nl f F9 M9 li 3 (bsF f li lj) hnn x_252 hli (Or.inr (Or.inr (Or.inr ⟨rfl, by omega, by omega⟩)))) (cwV 3 C.1.2.2.2.2 gL_isPair_X7_change rfl rfl rfl (by decide +kernel) ⟨Nat.le_of_ble_eq_true rfl, Nat.le_of_ble_eq_true rfl⟩) (by omega) x_252.he (T := TX7) (N := 8) rfl rfl hl rfl (Nat.le_of_ble_eq_true rfl) dL_isPair_252 ⟨Nat.le_of_ble_eq_true rfl, Nat.le_of_ble_eq_true rfl⟩) (fun z_256 g_257 H locs hw G => ?_)
          obtain ⟨x_258, f_259, e_260⟩ := hw
          have f_261 := frX.tr f_255 f_259
          rw [show 4 * li + 1 + 3 = 4 * li + 4 by omega] at e_260
          replace e_260 := e_260.symm
          subst e_260
          have hc1 := co_le (f := (vu f (4 * li + 1 + 3) (bsF f li lj))) li lj
          have hc2 := cn_le (f := (vu f (4 * li + 1 + 3) (bsF f li lj))) li
          have hc3 := cn_le (f := (vu f (4 * li + 1 + 3) (bsF f li lj))) lj
          refine g_iload C dL_isPair_255 hl 2 rfl ?_
          refine g_icmp_ne (tgt := 274) C (by omega) (by omega) dL_isPair_257 (by decide) (fun c_262 => absurd c_262 (by omega)) (fun c_262 => ?_)
          refine g_aload_n C dL_isPair_260 rfl hl 7 rfl ?_
          refine g_iload_n C dL_isPair_261 rfl hl 8 rfl ?_
          refine g_iload_n C dL_isPair_262 rfl hl 9 rfl ?_
          refine g_ci C G (g_runVP (As := [.int (iz li), .int (iz lj)]) (rest := []) (pos := 0) C G X (q_common l hlf κ B n ad g_257 (HPl nl f) nl (vu f (4 * li + 1 + 3) (bsF f li lj)) F9 M9 li lj hnn x_258 hli hlj) (cwV 2 C.1.2.2.2.2 gL_isPair_X7_common rfl rfl rfl (by decide +kernel) ⟨Nat.le_of_ble_eq_true rfl, Nat.le_of_ble_eq_true rfl⟩) (by omega) x_258.he (T := TX7) (N := 8) rfl rfl hl rfl (Nat.le_of_ble_eq_true rfl) dL_isPair_263 ⟨Nat.le_of_ble_eq_true rfl, Nat.le_of_ble_eq_true rfl⟩) (fun z_263 g_264 H locs hw G => ?_)
          obtain ⟨x_265, f_266, e_267⟩ := hw
          have f_268 := frX.tr f_261 f_266
          refine g_iload_n C dL_isPair_266 rfl hl 6 rfl ?_
          refine g_icmp_lt (tgt := 274) C (by omega) (by omega) dL_isPair_267 (by decide) (fun c_269 => absurd c_269 (by omega)) (fun c_269 => ?_)
          refine g_iconst (a := 1) C dL_isPair_270 rfl ?_
          refine g_goto (tgt := 275) C dL_isPair_271 (by decide) ?_
          refine lv_istore (lv' := [(7, .int (iz 1)), (9, .int (iz (bsF f li lj))), (8, .int (iz (f (4 * li + 4)))), (6, .int (iz (f 0))), (5, .int (iz z5)), (4, .int (iz z4)), (3, .int (iz (coF f li lj))), (0, .ref (ad 0)), (1, .int (iz li)), (2, .int (iz lj))]) C.1.1 C.1.2.1 dL_isPair_275 hl (by decide) rfl (fun ls hl => ?_)
          refine g_aload_n C dL_isPair_277 rfl hl 7 rfl ?_
          refine g_ci C G (g_runVP (As := []) (rest := []) (pos := 0) C G X (q_undo l hlf κ B n ad g_264 nl f nl (vu f (4 * li + 1 + 3) (bsF f li lj)) F9 M9 hnn x_265) (cwV 0 C.1.2.2.2.2 gL_isPair_X7_undo rfl rfl rfl (by decide +kernel) ⟨Nat.le_of_ble_eq_true rfl, Nat.le_of_ble_eq_true rfl⟩) (by omega) x_265.he (T := TX7) (N := 8) rfl rfl hl rfl (Nat.le_of_ble_eq_true rfl) dL_isPair_278 ⟨Nat.le_of_ble_eq_true rfl, Nat.le_of_ble_eq_true rfl⟩) (fun z_270 g_271 H locs hw G => ?_)
          obtain ⟨x_272, f_273, e_274⟩ := hw
          have f_275 := frX.tr f_268 f_273
          refine lv_istore (lv' := [(10, .int (iz z_270)), (7, .int (iz 1)), (9, .int (iz (bsF f li lj))), (8, .int (iz (f (4 * li + 4)))), (6, .int (iz (f 0))), (5, .int (iz z5)), (4, .int (iz z4)), (3, .int (iz (coF f li lj))), (0, .ref (ad 0)), (1, .int (iz li)), (2, .int (iz lj))]) C.1.1 C.1.2.1 dL_isPair_281 hl (by decide) rfl (fun ls hl => ?_)
          refine g_iload C dL_isPair_283 hl 1 rfl ?_
          refine g_if_eq (tgt := 313) C (by decide) dL_isPair_285 (by decide) (fun c9 => absurd c9 (by decide)) (fun _ => ?_)
          refine g_aload_n C dL_isPair_288 rfl hl 8 rfl ?_
          refine g_iload_n C dL_isPair_289 rfl hl 9 rfl ?_
          refine g_iconst (a := 3) C dL_isPair_290 rfl ?_
          refine g_ci C G (g_runVP (As := [.int (iz li), .int (iz 3)]) (rest := []) (pos := 0) C G X (q_layer l hlf κ B n ad g_271 HP0 nl f F9 M9 li 3 hnn x_272 hli (by decide)) (cwV 2 C.1.2.2.2.2 gL_isPair_X7_layer rfl rfl rfl (by decide +kernel) ⟨Nat.le_of_ble_eq_true rfl, Nat.le_of_ble_eq_true rfl⟩) (by omega) x_272.he (T := TX7) (N := 8) rfl rfl hl rfl (Nat.le_of_ble_eq_true rfl) dL_isPair_291 ⟨Nat.le_of_ble_eq_true rfl, Nat.le_of_ble_eq_true rfl⟩) (fun z_276 g_277 H locs hw G => ?_)
          obtain ⟨x_278, f_279, e_280⟩ := hw
          have f_281 := frX.tr f_275 f_279
          replace e_280 : z_276 = f (4 * li + 4) := e_280.trans lyF_3
          replace e_280 := e_280.symm
          subst e_280
          refine g_iload C dL_isPair_294 hl 3 rfl ?_
          refine g_icmp_ne (tgt := 313) C (by omega) (by omega) dL_isPair_296 (by decide) (fun c_282 => absurd c_282 (by omega)) (fun c_282 => ?_)
          refine g_aload_n C dL_isPair_299 rfl hl 8 rfl ?_
          refine g_iload_n C dL_isPair_300 rfl hl 9 rfl ?_
          refine g_iload_n C dL_isPair_301 rfl hl 10 rfl ?_
          refine g_ci C G (g_runVP (As := [.int (iz li), .int (iz lj)]) (rest := []) (pos := 0) C G X (q_common l hlf κ B n ad g_277 HP0 nl f F9 M9 li lj hnn x_278 hli hlj) (cwV 2 C.1.2.2.2.2 gL_isPair_X7_common rfl rfl rfl (by decide +kernel) ⟨Nat.le_of_ble_eq_true rfl, Nat.le_of_ble_eq_true rfl⟩) (by omega) x_278.he (T := TX7) (N := 8) rfl rfl hl rfl (Nat.le_of_ble_eq_true rfl) dL_isPair_302 ⟨Nat.le_of_ble_eq_true rfl, Nat.le_of_ble_eq_true rfl⟩) (fun z_283 g_284 H locs hw G => ?_)
          obtain ⟨x_285, f_286, e_287⟩ := hw
          have f_288 := frX.tr f_281 f_286
          replace e_287 := e_287.symm
          subst e_287
          refine g_iload_n C dL_isPair_305 rfl hl 7 rfl ?_
          refine g_icmp_ne (tgt := 313) C (by omega) (by omega) dL_isPair_306 (by decide) (fun c_289 => absurd c_289 (by omega)) (fun c_289 => ?_)
          refine g_iconst (a := 1) C dL_isPair_309 rfl ?_
          refine g_goto (tgt := 314) C dL_isPair_310 (by decide) ?_
          refine g_zret C G hr hlk (by decide) (Nat.le_of_ble_eq_true rfl) (Nat.le_of_ble_eq_true rfl) dL_isPair_314 ?_
          exact ⟨x_285.any, f_288, rfl⟩
  · refine g_iload C dL_isPair_93 hl 3 rfl ?_
    refine g_bipush (a := (-9)) C dL_isPair_95 (by decide) ?_
    refine g_icmp_ne (tgt := 130) C (by omega) (by omega) dL_isPair_97 (by decide) (fun c_290 => absurd c_290 (by omega)) (fun c_290 => ?_)
    refine g_goto (tgt := 126) C dL_isPair_100 (by decide) ?_
    refine g_iconst (a := 1) C dL_isPair_126 rfl ?_
    refine g_goto (tgt := 131) C dL_isPair_127 (by decide) ?_
    refine lv_istore (lv' := [(7, .int (iz 1)), (6, .int (iz (f 0))), (5, .int (iz z5)), (4, .int (iz z4)), (3, .int (iz (coF f li lj))), (0, .ref (ad 0)), (1, .int (iz li)), (2, .int (iz lj))]) C.1.1 C.1.2.1 dL_isPair_131 hl (by decide) rfl (fun ls hl => ?_)
    refine g_aload_n C dL_isPair_133 rfl hl 5 rfl ?_
    refine g_iload_n C dL_isPair_134 rfl hl 6 rfl ?_
    refine g_iconst (a := 3) C dL_isPair_135 rfl ?_
    refine g_ci C G (g_runVP (As := [.int (iz li), .int (iz 3)]) (rest := []) (pos := 0) C G X (q_layer l hlf κ B n ad g_52 HP nl f F9 M9 li 3 hnn x_53 hli (by decide)) (cwV 2 C.1.2.2.2.2 gL_isPair_X7_layer rfl rfl rfl (by decide +kernel) ⟨Nat.le_of_ble_eq_true rfl, Nat.le_of_ble_eq_true rfl⟩) (by omega) x_53.he (T := TX7) (N := 8) rfl rfl hl rfl (Nat.le_of_ble_eq_true rfl) dL_isPair_136 ⟨Nat.le_of_ble_eq_true rfl, Nat.le_of_ble_eq_true rfl⟩) (fun z_291 g_292 H locs hw G => ?_)
    obtain ⟨x_293, f_294, e_295⟩ := hw
    have f_296 := frX.tr f_56 f_294
    replace e_295 : z_291 = f (4 * li + 4) := e_295.trans lyF_3
    replace e_295 := e_295.symm
    subst e_295
    refine lv_istore (lv' := [(8, .int (iz (f (4 * li + 4)))), (7, .int (iz 1)), (6, .int (iz (f 0))), (5, .int (iz z5)), (4, .int (iz z4)), (3, .int (iz (coF f li lj))), (0, .ref (ad 0)), (1, .int (iz li)), (2, .int (iz lj))]) C.1.1 C.1.2.1 dL_isPair_139 hl (by decide) rfl (fun ls hl => ?_)
    refine g_iload C dL_isPair_141 hl 3 rfl ?_
    refine g_if_lt (tgt := 229) C (by omega) dL_isPair_143 (by decide) (fun c_297 => ?_) (fun c_297 => ?_)
    · refine g_iload_n C dL_isPair_229 rfl hl 7 rfl ?_
      refine g_iload_n C dL_isPair_230 rfl hl 8 rfl ?_
      refine g_icmp_eq (tgt := 283) C (by omega) (by omega) dL_isPair_231 (by decide) (fun c_298 => ?_) (fun c_298 => ?_)
      · refine g_iload C dL_isPair_283 hl 1 rfl ?_
        refine g_if_eq (tgt := 313) C (by decide) dL_isPair_285 (by decide) (fun c9 => absurd c9 (by decide)) (fun _ => ?_)
        refine g_aload_n C dL_isPair_288 rfl hl 6 rfl ?_
        refine g_iload_n C dL_isPair_289 rfl hl 7 rfl ?_
        refine g_iconst (a := 3) C dL_isPair_290 rfl ?_
        refine g_ci C G (g_runVP (As := [.int (iz li), .int (iz 3)]) (rest := []) (pos := 0) C G X (q_layer l hlf κ B n ad g_292 HP nl f F9 M9 li 3 hnn x_293 hli (by decide)) (cwV 2 C.1.2.2.2.2 gL_isPair_X7_layer rfl rfl rfl (by decide +kernel) ⟨Nat.le_of_ble_eq_true rfl, Nat.le_of_ble_eq_true rfl⟩) (by omega) x_293.he (T := TX7) (N := 8) rfl rfl hl rfl (Nat.le_of_ble_eq_true rfl) dL_isPair_291 ⟨Nat.le_of_ble_eq_true rfl, Nat.le_of_ble_eq_true rfl⟩) (fun z_299 g_300 H locs hw G => ?_)
        obtain ⟨x_301, f_302, e_303⟩ := hw
        have f_304 := frX.tr f_296 f_302
        replace e_303 : z_299 = f (4 * li + 4) := e_303.trans lyF_3
        replace e_303 := e_303.symm
        subst e_303
        refine g_iload C dL_isPair_294 hl 0 rfl ?_
        refine g_icmp_ne (tgt := 313) C (by omega) (by omega) dL_isPair_296 (by decide) (fun c_305 => absurd c_305 (by omega)) (fun c_305 => ?_)
        refine g_aload_n C dL_isPair_299 rfl hl 6 rfl ?_
        refine g_iload_n C dL_isPair_300 rfl hl 7 rfl ?_
        refine g_iload_n C dL_isPair_301 rfl hl 8 rfl ?_
        refine g_ci C G (g_runVP (As := [.int (iz li), .int (iz lj)]) (rest := []) (pos := 0) C G X (q_common l hlf κ B n ad g_300 HP nl f F9 M9 li lj hnn x_301 hli hlj) (cwV 2 C.1.2.2.2.2 gL_isPair_X7_common rfl rfl rfl (by decide +kernel) ⟨Nat.le_of_ble_eq_true rfl, Nat.le_of_ble_eq_true rfl⟩) (by omega) x_301.he (T := TX7) (N := 8) rfl rfl hl rfl (Nat.le_of_ble_eq_true rfl) dL_isPair_302 ⟨Nat.le_of_ble_eq_true rfl, Nat.le_of_ble_eq_true rfl⟩) (fun z_306 g_307 H locs hw G => ?_)
        obtain ⟨x_308, f_309, e_310⟩ := hw
        have f_311 := frX.tr f_304 f_309
        replace e_310 := e_310.symm
        subst e_310
        refine g_iload_n C dL_isPair_305 rfl hl 5 rfl ?_
        refine g_icmp_ne (tgt := 313) C (by omega) (by omega) dL_isPair_306 (by decide) (fun c_312 => absurd c_312 (by omega)) (fun c_312 => ?_)
        refine g_iconst (a := 1) C dL_isPair_309 rfl ?_
        refine g_goto (tgt := 314) C dL_isPair_310 (by decide) ?_
        refine g_zret C G hr hlk (by decide) (Nat.le_of_ble_eq_true rfl) (Nat.le_of_ble_eq_true rfl) dL_isPair_314 ?_
        exact ⟨x_308.any, f_311, rfl⟩
      · have hne2 : li ≠ lj := by omega
        have hbs := bs_st hok hli hlj hne2
        refine g_aload_n C dL_isPair_234 rfl hl 6 rfl ?_
        refine g_iload_n C dL_isPair_235 rfl hl 7 rfl ?_
        refine g_iload_n C dL_isPair_236 rfl hl 8 rfl ?_
        refine g_ci C G (g_runVP (As := [.int (iz li), .int (iz lj)]) (rest := []) (pos := 0) C G X (q_bestStart l hlf κ B n ad g_292 HP nl f F9 M9 li lj hnn x_293 hli hlj hne2) (cwV 2 C.1.2.2.2.2 gL_isPair_X7_bestStart rfl rfl rfl (by decide +kernel) ⟨Nat.le_of_ble_eq_true rfl, Nat.le_of_ble_eq_true rfl⟩) (by omega) x_293.he (T := TX7) (N := 8) rfl rfl hl rfl (Nat.le_of_ble_eq_true rfl) dL_isPair_237 ⟨Nat.le_of_ble_eq_true rfl, Nat.le_of_ble_eq_true rfl⟩) (fun z_313 g_314 H locs hw G => ?_)
        obtain ⟨x_315, f_316, e_317⟩ := hw
        have f_318 := frX.tr f_296 f_316
        replace e_317 := e_317.symm
        subst e_317
        refine lv_istore (lv' := [(9, .int (iz (bsF f li lj))), (8, .int (iz (f (4 * li + 4)))), (7, .int (iz 1)), (6, .int (iz (f 0))), (5, .int (iz z5)), (4, .int (iz z4)), (3, .int (iz (coF f li lj))), (0, .ref (ad 0)), (1, .int (iz li)), (2, .int (iz lj))]) C.1.1 C.1.2.1 dL_isPair_240 hl (by decide) rfl (fun ls hl => ?_)
        refine g_iload C dL_isPair_242 hl 2 rfl ?_
        refine g_if_eq (tgt := 274) C (by decide) dL_isPair_244 (by decide) (fun c9 => absurd c9 (by decide)) (fun _ => ?_)
        refine g_aload_n C dL_isPair_247 rfl hl 7 rfl ?_
        refine g_iload_n C dL_isPair_248 rfl hl 8 rfl ?_
        refine g_iconst (a := 3) C dL_isPair_249 rfl ?_
        refine g_iload C dL_isPair_250 hl 0 rfl ?_
        refine g_ci C G (g_runVP (As := [.int (iz li), .int (iz 3), .int (iz (bsF f li lj))]) (rest := []) (pos := 0) C G X (q_change l hlf κ B n ad g_314 HP nl f F9 M9 li 3 (bsF f li lj) hnn x_315 hli (Or.inr (Or.inr (Or.inr ⟨rfl, by omega, by omega⟩)))) (cwV 3 C.1.2.2.2.2 gL_isPair_X7_change rfl rfl rfl (by decide +kernel) ⟨Nat.le_of_ble_eq_true rfl, Nat.le_of_ble_eq_true rfl⟩) (by omega) x_315.he (T := TX7) (N := 8) rfl rfl hl rfl (Nat.le_of_ble_eq_true rfl) dL_isPair_252 ⟨Nat.le_of_ble_eq_true rfl, Nat.le_of_ble_eq_true rfl⟩) (fun z_319 g_320 H locs hw G => ?_)
        obtain ⟨x_321, f_322, e_323⟩ := hw
        have f_324 := frX.tr f_318 f_322
        rw [show 4 * li + 1 + 3 = 4 * li + 4 by omega] at e_323
        replace e_323 := e_323.symm
        subst e_323
        have hc1 := co_le (f := (vu f (4 * li + 1 + 3) (bsF f li lj))) li lj
        have hc2 := cn_le (f := (vu f (4 * li + 1 + 3) (bsF f li lj))) li
        have hc3 := cn_le (f := (vu f (4 * li + 1 + 3) (bsF f li lj))) lj
        refine g_iload C dL_isPair_255 hl 1 rfl ?_
        refine g_icmp_ne (tgt := 274) C (by omega) (by omega) dL_isPair_257 (by decide) (fun c_325 => absurd c_325 (by omega)) (fun c_325 => ?_)
        refine g_aload_n C dL_isPair_260 rfl hl 7 rfl ?_
        refine g_iload_n C dL_isPair_261 rfl hl 8 rfl ?_
        refine g_iload_n C dL_isPair_262 rfl hl 9 rfl ?_
        refine g_ci C G (g_runVP (As := [.int (iz li), .int (iz lj)]) (rest := []) (pos := 0) C G X (q_common l hlf κ B n ad g_320 (HPl nl f) nl (vu f (4 * li + 1 + 3) (bsF f li lj)) F9 M9 li lj hnn x_321 hli hlj) (cwV 2 C.1.2.2.2.2 gL_isPair_X7_common rfl rfl rfl (by decide +kernel) ⟨Nat.le_of_ble_eq_true rfl, Nat.le_of_ble_eq_true rfl⟩) (by omega) x_321.he (T := TX7) (N := 8) rfl rfl hl rfl (Nat.le_of_ble_eq_true rfl) dL_isPair_263 ⟨Nat.le_of_ble_eq_true rfl, Nat.le_of_ble_eq_true rfl⟩) (fun z_326 g_327 H locs hw G => ?_)
        obtain ⟨x_328, f_329, e_330⟩ := hw
        have f_331 := frX.tr f_324 f_329
        refine g_iload_n C dL_isPair_266 rfl hl 6 rfl ?_
        refine g_icmp_lt (tgt := 274) C (by omega) (by omega) dL_isPair_267 (by decide) (fun c_332 => absurd c_332 (by omega)) (fun c_332 => ?_)
        refine g_iconst (a := 1) C dL_isPair_270 rfl ?_
        refine g_goto (tgt := 275) C dL_isPair_271 (by decide) ?_
        refine lv_istore (lv' := [(7, .int (iz 1)), (9, .int (iz (bsF f li lj))), (8, .int (iz (f (4 * li + 4)))), (6, .int (iz (f 0))), (5, .int (iz z5)), (4, .int (iz z4)), (3, .int (iz (coF f li lj))), (0, .ref (ad 0)), (1, .int (iz li)), (2, .int (iz lj))]) C.1.1 C.1.2.1 dL_isPair_275 hl (by decide) rfl (fun ls hl => ?_)
        refine g_aload_n C dL_isPair_277 rfl hl 7 rfl ?_
        refine g_ci C G (g_runVP (As := []) (rest := []) (pos := 0) C G X (q_undo l hlf κ B n ad g_327 nl f nl (vu f (4 * li + 1 + 3) (bsF f li lj)) F9 M9 hnn x_328) (cwV 0 C.1.2.2.2.2 gL_isPair_X7_undo rfl rfl rfl (by decide +kernel) ⟨Nat.le_of_ble_eq_true rfl, Nat.le_of_ble_eq_true rfl⟩) (by omega) x_328.he (T := TX7) (N := 8) rfl rfl hl rfl (Nat.le_of_ble_eq_true rfl) dL_isPair_278 ⟨Nat.le_of_ble_eq_true rfl, Nat.le_of_ble_eq_true rfl⟩) (fun z_333 g_334 H locs hw G => ?_)
        obtain ⟨x_335, f_336, e_337⟩ := hw
        have f_338 := frX.tr f_331 f_336
        refine lv_istore (lv' := [(10, .int (iz z_333)), (7, .int (iz 1)), (9, .int (iz (bsF f li lj))), (8, .int (iz (f (4 * li + 4)))), (6, .int (iz (f 0))), (5, .int (iz z5)), (4, .int (iz z4)), (3, .int (iz (coF f li lj))), (0, .ref (ad 0)), (1, .int (iz li)), (2, .int (iz lj))]) C.1.1 C.1.2.1 dL_isPair_281 hl (by decide) rfl (fun ls hl => ?_)
        refine g_iload C dL_isPair_283 hl 1 rfl ?_
        refine g_if_eq (tgt := 313) C (by decide) dL_isPair_285 (by decide) (fun c9 => absurd c9 (by decide)) (fun _ => ?_)
        refine g_aload_n C dL_isPair_288 rfl hl 8 rfl ?_
        refine g_iload_n C dL_isPair_289 rfl hl 9 rfl ?_
        refine g_iconst (a := 3) C dL_isPair_290 rfl ?_
        refine g_ci C G (g_runVP (As := [.int (iz li), .int (iz 3)]) (rest := []) (pos := 0) C G X (q_layer l hlf κ B n ad g_334 HP0 nl f F9 M9 li 3 hnn x_335 hli (by decide)) (cwV 2 C.1.2.2.2.2 gL_isPair_X7_layer rfl rfl rfl (by decide +kernel) ⟨Nat.le_of_ble_eq_true rfl, Nat.le_of_ble_eq_true rfl⟩) (by omega) x_335.he (T := TX7) (N := 8) rfl rfl hl rfl (Nat.le_of_ble_eq_true rfl) dL_isPair_291 ⟨Nat.le_of_ble_eq_true rfl, Nat.le_of_ble_eq_true rfl⟩) (fun z_339 g_340 H locs hw G => ?_)
        obtain ⟨x_341, f_342, e_343⟩ := hw
        have f_344 := frX.tr f_338 f_342
        replace e_343 : z_339 = f (4 * li + 4) := e_343.trans lyF_3
        replace e_343 := e_343.symm
        subst e_343
        refine g_iload C dL_isPair_294 hl 3 rfl ?_
        refine g_icmp_ne (tgt := 313) C (by omega) (by omega) dL_isPair_296 (by decide) (fun c_345 => absurd c_345 (by omega)) (fun c_345 => ?_)
        refine g_aload_n C dL_isPair_299 rfl hl 8 rfl ?_
        refine g_iload_n C dL_isPair_300 rfl hl 9 rfl ?_
        refine g_iload_n C dL_isPair_301 rfl hl 10 rfl ?_
        refine g_ci C G (g_runVP (As := [.int (iz li), .int (iz lj)]) (rest := []) (pos := 0) C G X (q_common l hlf κ B n ad g_340 HP0 nl f F9 M9 li lj hnn x_341 hli hlj) (cwV 2 C.1.2.2.2.2 gL_isPair_X7_common rfl rfl rfl (by decide +kernel) ⟨Nat.le_of_ble_eq_true rfl, Nat.le_of_ble_eq_true rfl⟩) (by omega) x_341.he (T := TX7) (N := 8) rfl rfl hl rfl (Nat.le_of_ble_eq_true rfl) dL_isPair_302 ⟨Nat.le_of_ble_eq_true rfl, Nat.le_of_ble_eq_true rfl⟩) (fun z_346 g_347 H locs hw G => ?_)
        obtain ⟨x_348, f_349, e_350⟩ := hw
        have f_351 := frX.tr f_344 f_349
        replace e_350 := e_350.symm
        subst e_350
        refine g_iload_n C dL_isPair_305 rfl hl 7 rfl ?_
        refine g_icmp_ne (tgt := 313) C (by omega) (by omega) dL_isPair_306 (by decide) (fun c_352 => absurd c_352 (by omega)) (fun c_352 => ?_)
        refine g_iconst (a := 1) C dL_isPair_309 rfl ?_
        refine g_goto (tgt := 314) C dL_isPair_310 (by decide) ?_
        refine g_zret C G hr hlk (by decide) (Nat.le_of_ble_eq_true rfl) (Nat.le_of_ble_eq_true rfl) dL_isPair_314 ?_
        exact ⟨x_348.any, f_351, rfl⟩
    · refine g_iload_n C dL_isPair_146 rfl hl 7 rfl ?_
      refine g_iload_n C dL_isPair_147 rfl hl 8 rfl ?_
      refine g_icmp_eq (tgt := 229) C (by omega) (by omega) dL_isPair_148 (by decide) (fun c_353 => ?_) (fun c_353 => ?_)
      · refine g_iload_n C dL_isPair_229 rfl hl 7 rfl ?_
        refine g_iload_n C dL_isPair_230 rfl hl 8 rfl ?_
        refine g_icmp_eq (tgt := 283) C (by omega) (by omega) dL_isPair_231 (by decide) (fun c_354 => ?_) (fun c_354 => ?_)
        · refine g_iload C dL_isPair_283 hl 1 rfl ?_
          refine g_if_eq (tgt := 313) C (by decide) dL_isPair_285 (by decide) (fun c9 => absurd c9 (by decide)) (fun _ => ?_)
          refine g_aload_n C dL_isPair_288 rfl hl 6 rfl ?_
          refine g_iload_n C dL_isPair_289 rfl hl 7 rfl ?_
          refine g_iconst (a := 3) C dL_isPair_290 rfl ?_
          refine g_ci C G (g_runVP (As := [.int (iz li), .int (iz 3)]) (rest := []) (pos := 0) C G X (q_layer l hlf κ B n ad g_292 HP nl f F9 M9 li 3 hnn x_293 hli (by decide)) (cwV 2 C.1.2.2.2.2 gL_isPair_X7_layer rfl rfl rfl (by decide +kernel) ⟨Nat.le_of_ble_eq_true rfl, Nat.le_of_ble_eq_true rfl⟩) (by omega) x_293.he (T := TX7) (N := 8) rfl rfl hl rfl (Nat.le_of_ble_eq_true rfl) dL_isPair_291 ⟨Nat.le_of_ble_eq_true rfl, Nat.le_of_ble_eq_true rfl⟩) (fun z_355 g_356 H locs hw G => ?_)
          obtain ⟨x_357, f_358, e_359⟩ := hw
          have f_360 := frX.tr f_296 f_358
          replace e_359 : z_355 = f (4 * li + 4) := e_359.trans lyF_3
          replace e_359 := e_359.symm
          subst e_359
          refine g_iload C dL_isPair_294 hl 0 rfl ?_
          refine g_icmp_ne (tgt := 313) C (by omega) (by omega) dL_isPair_296 (by decide) (fun c_361 => absurd c_361 (by omega)) (fun c_361 => ?_)
          refine g_aload_n C dL_isPair_299 rfl hl 6 rfl ?_
          refine g_iload_n C dL_isPair_300 rfl hl 7 rfl ?_
          refine g_iload_n C dL_isPair_301 rfl hl 8 rfl ?_
          refine g_ci C G (g_runVP (As := [.int (iz li), .int (iz lj)]) (rest := []) (pos := 0) C G X (q_common l hlf κ B n ad g_356 HP nl f F9 M9 li lj hnn x_357 hli hlj) (cwV 2 C.1.2.2.2.2 gL_isPair_X7_common rfl rfl rfl (by decide +kernel) ⟨Nat.le_of_ble_eq_true rfl, Nat.le_of_ble_eq_true rfl⟩) (by omega) x_357.he (T := TX7) (N := 8) rfl rfl hl rfl (Nat.le_of_ble_eq_true rfl) dL_isPair_302 ⟨Nat.le_of_ble_eq_true rfl, Nat.le_of_ble_eq_true rfl⟩) (fun z_362 g_363 H locs hw G => ?_)
          obtain ⟨x_364, f_365, e_366⟩ := hw
          have f_367 := frX.tr f_360 f_365
          replace e_366 := e_366.symm
          subst e_366
          refine g_iload_n C dL_isPair_305 rfl hl 5 rfl ?_
          refine g_icmp_ne (tgt := 313) C (by omega) (by omega) dL_isPair_306 (by decide) (fun c_368 => absurd c_368 (by omega)) (fun c_368 => ?_)
          refine g_iconst (a := 1) C dL_isPair_309 rfl ?_
          refine g_goto (tgt := 314) C dL_isPair_310 (by decide) ?_
          refine g_zret C G hr hlk (by decide) (Nat.le_of_ble_eq_true rfl) (Nat.le_of_ble_eq_true rfl) dL_isPair_314 ?_
          exact ⟨x_364.any, f_367, rfl⟩
        · have hne2 : li ≠ lj := by omega
          have hbs := bs_st hok hli hlj hne2
          refine g_aload_n C dL_isPair_234 rfl hl 6 rfl ?_
          refine g_iload_n C dL_isPair_235 rfl hl 7 rfl ?_
          refine g_iload_n C dL_isPair_236 rfl hl 8 rfl ?_
          refine g_ci C G (g_runVP (As := [.int (iz li), .int (iz lj)]) (rest := []) (pos := 0) C G X (q_bestStart l hlf κ B n ad g_292 HP nl f F9 M9 li lj hnn x_293 hli hlj hne2) (cwV 2 C.1.2.2.2.2 gL_isPair_X7_bestStart rfl rfl rfl (by decide +kernel) ⟨Nat.le_of_ble_eq_true rfl, Nat.le_of_ble_eq_true rfl⟩) (by omega) x_293.he (T := TX7) (N := 8) rfl rfl hl rfl (Nat.le_of_ble_eq_true rfl) dL_isPair_237 ⟨Nat.le_of_ble_eq_true rfl, Nat.le_of_ble_eq_true rfl⟩) (fun z_369 g_370 H locs hw G => ?_)
          obtain ⟨x_371, f_372, e_373⟩ := hw
          have f_374 := frX.tr f_296 f_372
          replace e_373 := e_373.symm
          subst e_373
          refine lv_istore (lv' := [(9, .int (iz (bsF f li lj))), (8, .int (iz (f (4 * li + 4)))), (7, .int (iz 1)), (6, .int (iz (f 0))), (5, .int (iz z5)), (4, .int (iz z4)), (3, .int (iz (coF f li lj))), (0, .ref (ad 0)), (1, .int (iz li)), (2, .int (iz lj))]) C.1.1 C.1.2.1 dL_isPair_240 hl (by decide) rfl (fun ls hl => ?_)
          refine g_iload C dL_isPair_242 hl 2 rfl ?_
          refine g_if_eq (tgt := 274) C (by decide) dL_isPair_244 (by decide) (fun c9 => absurd c9 (by decide)) (fun _ => ?_)
          refine g_aload_n C dL_isPair_247 rfl hl 7 rfl ?_
          refine g_iload_n C dL_isPair_248 rfl hl 8 rfl ?_
          refine g_iconst (a := 3) C dL_isPair_249 rfl ?_
          refine g_iload C dL_isPair_250 hl 0 rfl ?_
          refine g_ci C G (g_runVP (As := [.int (iz li), .int (iz 3), .int (iz (bsF f li lj))]) (rest := []) (pos := 0) C G X (q_change l hlf κ B n ad g_370 HP nl f F9 M9 li 3 (bsF f li lj) hnn x_371 hli (Or.inr (Or.inr (Or.inr ⟨rfl, by omega, by omega⟩)))) (cwV 3 C.1.2.2.2.2 gL_isPair_X7_change rfl rfl rfl (by decide +kernel) ⟨Nat.le_of_ble_eq_true rfl, Nat.le_of_ble_eq_true rfl⟩) (by omega) x_371.he (T := TX7) (N := 8) rfl rfl hl rfl (Nat.le_of_ble_eq_true rfl) dL_isPair_252 ⟨Nat.le_of_ble_eq_true rfl, Nat.le_of_ble_eq_true rfl⟩) (fun z_375 g_376 H locs hw G => ?_)
          obtain ⟨x_377, f_378, e_379⟩ := hw
          have f_380 := frX.tr f_374 f_378
          rw [show 4 * li + 1 + 3 = 4 * li + 4 by omega] at e_379
          replace e_379 := e_379.symm
          subst e_379
          have hc1 := co_le (f := (vu f (4 * li + 1 + 3) (bsF f li lj))) li lj
          have hc2 := cn_le (f := (vu f (4 * li + 1 + 3) (bsF f li lj))) li
          have hc3 := cn_le (f := (vu f (4 * li + 1 + 3) (bsF f li lj))) lj
          refine g_iload C dL_isPair_255 hl 1 rfl ?_
          refine g_icmp_ne (tgt := 274) C (by omega) (by omega) dL_isPair_257 (by decide) (fun c_381 => absurd c_381 (by omega)) (fun c_381 => ?_)
          refine g_aload_n C dL_isPair_260 rfl hl 7 rfl ?_
          refine g_iload_n C dL_isPair_261 rfl hl 8 rfl ?_
          refine g_iload_n C dL_isPair_262 rfl hl 9 rfl ?_
          refine g_ci C G (g_runVP (As := [.int (iz li), .int (iz lj)]) (rest := []) (pos := 0) C G X (q_common l hlf κ B n ad g_376 (HPl nl f) nl (vu f (4 * li + 1 + 3) (bsF f li lj)) F9 M9 li lj hnn x_377 hli hlj) (cwV 2 C.1.2.2.2.2 gL_isPair_X7_common rfl rfl rfl (by decide +kernel) ⟨Nat.le_of_ble_eq_true rfl, Nat.le_of_ble_eq_true rfl⟩) (by omega) x_377.he (T := TX7) (N := 8) rfl rfl hl rfl (Nat.le_of_ble_eq_true rfl) dL_isPair_263 ⟨Nat.le_of_ble_eq_true rfl, Nat.le_of_ble_eq_true rfl⟩) (fun z_382 g_383 H locs hw G => ?_)
          obtain ⟨x_384, f_385, e_386⟩ := hw
          have f_387 := frX.tr f_380 f_385
          refine g_iload_n C dL_isPair_266 rfl hl 6 rfl ?_
          refine g_icmp_lt (tgt := 274) C (by omega) (by omega) dL_isPair_267 (by decide) (fun c_388 => absurd c_388 (by omega)) (fun c_388 => ?_)
          refine g_iconst (a := 1) C dL_isPair_270 rfl ?_
          refine g_goto (tgt := 275) C dL_isPair_271 (by decide) ?_
          refine lv_istore (lv' := [(7, .int (iz 1)), (9, .int (iz (bsF f li lj))), (8, .int (iz (f (4 * li + 4)))), (6, .int (iz (f 0))), (5, .int (iz z5)), (4, .int (iz z4)), (3, .int (iz (coF f li lj))), (0, .ref (ad 0)), (1, .int (iz li)), (2, .int (iz lj))]) C.1.1 C.1.2.1 dL_isPair_275 hl (by decide) rfl (fun ls hl => ?_)
          refine g_aload_n C dL_isPair_277 rfl hl 7 rfl ?_
          refine g_ci C G (g_runVP (As := []) (rest := []) (pos := 0) C G X (q_undo l hlf κ B n ad g_383 nl f nl (vu f (4 * li + 1 + 3) (bsF f li lj)) F9 M9 hnn x_384) (cwV 0 C.1.2.2.2.2 gL_isPair_X7_undo rfl rfl rfl (by decide +kernel) ⟨Nat.le_of_ble_eq_true rfl, Nat.le_of_ble_eq_true rfl⟩) (by omega) x_384.he (T := TX7) (N := 8) rfl rfl hl rfl (Nat.le_of_ble_eq_true rfl) dL_isPair_278 ⟨Nat.le_of_ble_eq_true rfl, Nat.le_of_ble_eq_true rfl⟩) (fun z_389 g_390 H locs hw G => ?_)
          obtain ⟨x_391, f_392, e_393⟩ := hw
          have f_394 := frX.tr f_387 f_392
          refine lv_istore (lv' := [(10, .int (iz z_389)), (7, .int (iz 1)), (9, .int (iz (bsF f li lj))), (8, .int (iz (f (4 * li + 4)))), (6, .int (iz (f 0))), (5, .int (iz z5)), (4, .int (iz z4)), (3, .int (iz (coF f li lj))), (0, .ref (ad 0)), (1, .int (iz li)), (2, .int (iz lj))]) C.1.1 C.1.2.1 dL_isPair_281 hl (by decide) rfl (fun ls hl => ?_)
          refine g_iload C dL_isPair_283 hl 1 rfl ?_
          refine g_if_eq (tgt := 313) C (by decide) dL_isPair_285 (by decide) (fun c9 => absurd c9 (by decide)) (fun _ => ?_)
          refine g_aload_n C dL_isPair_288 rfl hl 8 rfl ?_
          refine g_iload_n C dL_isPair_289 rfl hl 9 rfl ?_
          refine g_iconst (a := 3) C dL_isPair_290 rfl ?_
          refine g_ci C G (g_runVP (As := [.int (iz li), .int (iz 3)]) (rest := []) (pos := 0) C G X (q_layer l hlf κ B n ad g_390 HP0 nl f F9 M9 li 3 hnn x_391 hli (by decide)) (cwV 2 C.1.2.2.2.2 gL_isPair_X7_layer rfl rfl rfl (by decide +kernel) ⟨Nat.le_of_ble_eq_true rfl, Nat.le_of_ble_eq_true rfl⟩) (by omega) x_391.he (T := TX7) (N := 8) rfl rfl hl rfl (Nat.le_of_ble_eq_true rfl) dL_isPair_291 ⟨Nat.le_of_ble_eq_true rfl, Nat.le_of_ble_eq_true rfl⟩) (fun z_395 g_396 H locs hw G => ?_)
          obtain ⟨x_397, f_398, e_399⟩ := hw
          have f_400 := frX.tr f_394 f_398
          replace e_399 : z_395 = f (4 * li + 4) := e_399.trans lyF_3
          replace e_399 := e_399.symm
          subst e_399
          refine g_iload C dL_isPair_294 hl 3 rfl ?_
          refine g_icmp_ne (tgt := 313) C (by omega) (by omega) dL_isPair_296 (by decide) (fun c_401 => absurd c_401 (by omega)) (fun c_401 => ?_)
          refine g_aload_n C dL_isPair_299 rfl hl 8 rfl ?_
          refine g_iload_n C dL_isPair_300 rfl hl 9 rfl ?_
          refine g_iload_n C dL_isPair_301 rfl hl 10 rfl ?_
          refine g_ci C G (g_runVP (As := [.int (iz li), .int (iz lj)]) (rest := []) (pos := 0) C G X (q_common l hlf κ B n ad g_396 HP0 nl f F9 M9 li lj hnn x_397 hli hlj) (cwV 2 C.1.2.2.2.2 gL_isPair_X7_common rfl rfl rfl (by decide +kernel) ⟨Nat.le_of_ble_eq_true rfl, Nat.le_of_ble_eq_true rfl⟩) (by omega) x_397.he (T := TX7) (N := 8) rfl rfl hl rfl (Nat.le_of_ble_eq_true rfl) dL_isPair_302 ⟨Nat.le_of_ble_eq_true rfl, Nat.le_of_ble_eq_true rfl⟩) (fun z_402 g_403 H locs hw G => ?_)
          obtain ⟨x_404, f_405, e_406⟩ := hw
          have f_407 := frX.tr f_400 f_405
          replace e_406 := e_406.symm
          subst e_406
          refine g_iload_n C dL_isPair_305 rfl hl 7 rfl ?_
          refine g_icmp_ne (tgt := 313) C (by omega) (by omega) dL_isPair_306 (by decide) (fun c_408 => absurd c_408 (by omega)) (fun c_408 => ?_)
          refine g_iconst (a := 1) C dL_isPair_309 rfl ?_
          refine g_goto (tgt := 314) C dL_isPair_310 (by decide) ?_
          refine g_zret C G hr hlk (by decide) (Nat.le_of_ble_eq_true rfl) (Nat.le_of_ble_eq_true rfl) dL_isPair_314 ?_
          exact ⟨x_404.any, f_407, rfl⟩
      · have hne : li ≠ lj := by omega
        have hts := tr_st hok hli hlj hne htrn (by omega)
        have m0 : 0 ≤ (f (4 * li + 4) + z5) % f 0 := Int.emod_nonneg _ (by omega)
        have m1 : (f (4 * li + 4) + z5) % f 0 < f 0 := Int.emod_lt_of_pos _ (by omega)
        refine g_iload C dL_isPair_151 hl 1 rfl ?_
        refine g_if_eq (tgt := 220) C (by decide) dL_isPair_153 (by decide) (fun c9 => absurd c9 (by decide)) (fun _ => ?_)
        refine g_aload_n C dL_isPair_156 rfl hl 6 rfl ?_
        refine g_iload_n C dL_isPair_157 rfl hl 7 rfl ?_
        refine g_iconst (a := 3) C dL_isPair_158 rfl ?_
        refine g_iload C dL_isPair_159 hl 0 rfl ?_
        refine g_iload C dL_isPair_161 hl 3 rfl ?_
        refine g_iadd C dL_isPair_163 ?_
        refine g_iload C dL_isPair_164 hl 2 rfl ?_
        refine g_irem C (by omega) (by omega) (by omega) dL_isPair_166 ?_
        rw [show Int.tmod (f (4 * li + 4) + z5) (f 0) = (f (4 * li + 4) + z5) % f 0 from tmod_pos (by omega)]
        refine g_ci C G (g_runVP (As := [.int (iz li), .int (iz 3), .int (iz ((f (4 * li + 4) + z5) % f 0))]) (rest := []) (pos := 0) C G X (q_change l hlf κ B n ad g_292 HP nl f F9 M9 li 3 ((f (4 * li + 4) + z5) % f 0) hnn x_293 hli (Or.inr (Or.inr (Or.inr ⟨rfl, by omega, by omega⟩)))) (cwV 3 C.1.2.2.2.2 gL_isPair_X7_change rfl rfl rfl (by decide +kernel) ⟨Nat.le_of_ble_eq_true rfl, Nat.le_of_ble_eq_true rfl⟩) (by omega) x_293.he (T := TX7) (N := 8) rfl rfl hl rfl (Nat.le_of_ble_eq_true rfl) dL_isPair_167 ⟨Nat.le_of_ble_eq_true rfl, Nat.le_of_ble_eq_true rfl⟩) (fun z_409 g_410 H locs hw G => ?_)
        obtain ⟨x_411, f_412, e_413⟩ := hw
        have f_414 := frX.tr f_296 f_412
        rw [show 4 * li + 1 + 3 = 4 * li + 4 by omega] at e_413
        replace e_413 := e_413.symm
        subst e_413
        have hc1 := co_le (f := (vu f (4 * li + 1 + 3) ((f (4 * li + 4) + z5) % f 0))) li lj
        have hc2 := cn_le (f := (vu f (4 * li + 1 + 3) ((f (4 * li + 4) + z5) % f 0))) li
        have hc3 := cn_le (f := (vu f (4 * li + 1 + 3) ((f (4 * li + 4) + z5) % f 0))) lj
        refine g_iload C dL_isPair_170 hl 0 rfl ?_
        refine g_icmp_ne (tgt := 220) C (by omega) (by omega) dL_isPair_172 (by decide) (fun c_415 => absurd c_415 (by omega)) (fun c_415 => ?_)
        refine g_aload_n C dL_isPair_175 rfl hl 6 rfl ?_
        refine g_iload_n C dL_isPair_176 rfl hl 7 rfl ?_
        refine g_iload_n C dL_isPair_177 rfl hl 8 rfl ?_
        refine g_ci C G (g_runVP (As := [.int (iz li), .int (iz lj)]) (rest := []) (pos := 0) C G X (q_common l hlf κ B n ad g_410 (HPl nl f) nl (vu f (4 * li + 1 + 3) ((f (4 * li + 4) + z5) % f 0)) F9 M9 li lj hnn x_411 hli hlj) (cwV 2 C.1.2.2.2.2 gL_isPair_X7_common rfl rfl rfl (by decide +kernel) ⟨Nat.le_of_ble_eq_true rfl, Nat.le_of_ble_eq_true rfl⟩) (by omega) x_411.he (T := TX7) (N := 8) rfl rfl hl rfl (Nat.le_of_ble_eq_true rfl) dL_isPair_178 ⟨Nat.le_of_ble_eq_true rfl, Nat.le_of_ble_eq_true rfl⟩) (fun z_416 g_417 H locs hw G => ?_)
        obtain ⟨x_418, f_419, e_420⟩ := hw
        have f_421 := frX.tr f_414 f_419
        refine g_aload_n C dL_isPair_181 rfl hl 6 rfl ?_
        refine g_iload_n C dL_isPair_182 rfl hl 7 rfl ?_
        refine g_bipush (a := 7) C dL_isPair_183 (by decide) ?_
        refine g_ci C G (g_runVP (As := [.int (iz li), .int (iz 7)]) (rest := [.int (iz z_416)]) (pos := 0) C G X (q_layer l hlf κ B n ad g_417 (HPl nl f) nl (vu f (4 * li + 1 + 3) ((f (4 * li + 4) + z5) % f 0)) F9 M9 li 7 hnn x_418 hli (by decide)) (cwV 2 C.1.2.2.2.2 gL_isPair_X7_layer rfl rfl rfl (by decide +kernel) ⟨Nat.le_of_ble_eq_true rfl, Nat.le_of_ble_eq_true rfl⟩) (by omega) x_418.he (T := TX7) (N := 8) rfl rfl hl rfl (Nat.le_of_ble_eq_true rfl) dL_isPair_185 ⟨Nat.le_of_ble_eq_true rfl, Nat.le_of_ble_eq_true rfl⟩) (fun z_422 g_423 H locs hw G => ?_)
        obtain ⟨x_424, f_425, e_426⟩ := hw
        have f_427 := frX.tr f_421 f_425
        replace e_426 : z_422 = ((cntS (fun x y => PTl (vu f (4 * li + 1 + 3) ((f (4 * li + 4) + z5) % f 0)) li x y) : Nat) : Int) := e_426.trans (lyF_7.trans (rfl))
        replace e_426 := e_426.symm
        subst e_426
        refine g_icmp_ne (tgt := 220) C (by omega) (by omega) dL_isPair_188 (by decide) (fun c_428 => absurd c_428 (by omega)) (fun c_428 => ?_)
        refine g_aload_n C dL_isPair_191 rfl hl 6 rfl ?_
        refine g_iload_n C dL_isPair_192 rfl hl 7 rfl ?_
        refine g_iload_n C dL_isPair_193 rfl hl 8 rfl ?_
        refine g_ci C G (g_runVP (As := [.int (iz li), .int (iz lj)]) (rest := []) (pos := 0) C G X (q_common l hlf κ B n ad g_423 (HPl nl f) nl (vu f (4 * li + 1 + 3) ((f (4 * li + 4) + z5) % f 0)) F9 M9 li lj hnn x_424 hli hlj) (cwV 2 C.1.2.2.2.2 gL_isPair_X7_common rfl rfl rfl (by decide +kernel) ⟨Nat.le_of_ble_eq_true rfl, Nat.le_of_ble_eq_true rfl⟩) (by omega) x_424.he (T := TX7) (N := 8) rfl rfl hl rfl (Nat.le_of_ble_eq_true rfl) dL_isPair_194 ⟨Nat.le_of_ble_eq_true rfl, Nat.le_of_ble_eq_true rfl⟩) (fun z_429 g_430 H locs hw G => ?_)
        obtain ⟨x_431, f_432, e_433⟩ := hw
        have f_434 := frX.tr f_427 f_432
        refine g_aload_n C dL_isPair_197 rfl hl 6 rfl ?_
        refine g_iload_n C dL_isPair_198 rfl hl 8 rfl ?_
        refine g_bipush (a := 7) C dL_isPair_199 (by decide) ?_
        refine g_ci C G (g_runVP (As := [.int (iz lj), .int (iz 7)]) (rest := [.int (iz z_429)]) (pos := 0) C G X (q_layer l hlf κ B n ad g_430 (HPl nl f) nl (vu f (4 * li + 1 + 3) ((f (4 * li + 4) + z5) % f 0)) F9 M9 lj 7 hnn x_431 hlj (by decide)) (cwV 2 C.1.2.2.2.2 gL_isPair_X7_layer rfl rfl rfl (by decide +kernel) ⟨Nat.le_of_ble_eq_true rfl, Nat.le_of_ble_eq_true rfl⟩) (by omega) x_431.he (T := TX7) (N := 8) rfl rfl hl rfl (Nat.le_of_ble_eq_true rfl) dL_isPair_201 ⟨Nat.le_of_ble_eq_true rfl, Nat.le_of_ble_eq_true rfl⟩) (fun z_435 g_436 H locs hw G => ?_)
        obtain ⟨x_437, f_438, e_439⟩ := hw
        have f_440 := frX.tr f_434 f_438
        replace e_439 : z_435 = ((cntS (fun x y => PTl (vu f (4 * li + 1 + 3) ((f (4 * li + 4) + z5) % f 0)) lj x y) : Nat) : Int) := e_439.trans (lyF_7.trans (rfl))
        replace e_439 := e_439.symm
        subst e_439
        refine g_icmp_ne (tgt := 220) C (by omega) (by omega) dL_isPair_204 (by decide) (fun c_441 => absurd c_441 (by omega)) (fun c_441 => ?_)
        refine g_aload_n C dL_isPair_207 rfl hl 6 rfl ?_
        refine g_iload_n C dL_isPair_208 rfl hl 7 rfl ?_
        refine g_iload_n C dL_isPair_209 rfl hl 8 rfl ?_
        refine g_ci C G (g_runVP (As := [.int (iz li), .int (iz lj)]) (rest := []) (pos := 0) C G X (q_turned l hlf κ B n ad g_436 (HPl nl f) nl (vu f (4 * li + 1 + 3) ((f (4 * li + 4) + z5) % f 0)) F9 M9 li lj hnn x_437 hli hlj) (cwV 2 C.1.2.2.2.2 gL_isPair_X7_turned rfl rfl rfl (by decide +kernel) ⟨Nat.le_of_ble_eq_true rfl, Nat.le_of_ble_eq_true rfl⟩) (by omega) x_437.he (T := TX7) (N := 8) rfl rfl hl rfl (Nat.le_of_ble_eq_true rfl) dL_isPair_210 ⟨Nat.le_of_ble_eq_true rfl, Nat.le_of_ble_eq_true rfl⟩) (fun z_442 g_443 H locs hw G => ?_)
        obtain ⟨x_444, f_445, e_446⟩ := hw
        have f_447 := frX.tr f_440 f_445
        have e9 := tr_0 hok hli hlj hne htrn (by omega) e_446
        subst e9
        refine g_if_ne (tgt := 220) C (by decide) dL_isPair_213 (by decide) (fun c9 => absurd c9 (by decide)) (fun _ => ?_)
        refine g_iconst (a := 1) C dL_isPair_216 rfl ?_
        refine g_goto (tgt := 221) C dL_isPair_217 (by decide) ?_
        refine lv_istore (lv' := [(7, .int (iz 1)), (8, .int (iz (f (4 * li + 4)))), (6, .int (iz (f 0))), (5, .int (iz z5)), (4, .int (iz z4)), (3, .int (iz (coF f li lj))), (0, .ref (ad 0)), (1, .int (iz li)), (2, .int (iz lj))]) C.1.1 C.1.2.1 dL_isPair_221 hl (by decide) rfl (fun ls hl => ?_)
        refine g_aload_n C dL_isPair_223 rfl hl 6 rfl ?_
        refine g_ci C G (g_runVP (As := []) (rest := []) (pos := 0) C G X (q_undo l hlf κ B n ad g_443 nl f nl (vu f (4 * li + 1 + 3) ((f (4 * li + 4) + z5) % f 0)) F9 M9 hnn x_444) (cwV 0 C.1.2.2.2.2 gL_isPair_X7_undo rfl rfl rfl (by decide +kernel) ⟨Nat.le_of_ble_eq_true rfl, Nat.le_of_ble_eq_true rfl⟩) (by omega) x_444.he (T := TX7) (N := 8) rfl rfl hl rfl (Nat.le_of_ble_eq_true rfl) dL_isPair_224 ⟨Nat.le_of_ble_eq_true rfl, Nat.le_of_ble_eq_true rfl⟩) (fun z_448 g_449 H locs hw G => ?_)
        obtain ⟨x_450, f_451, e_452⟩ := hw
        have f_453 := frX.tr f_447 f_451
        refine lv_istore (lv' := [(9, .int (iz z_448)), (7, .int (iz 1)), (8, .int (iz (f (4 * li + 4)))), (6, .int (iz (f 0))), (5, .int (iz z5)), (4, .int (iz z4)), (3, .int (iz (coF f li lj))), (0, .ref (ad 0)), (1, .int (iz li)), (2, .int (iz lj))]) C.1.1 C.1.2.1 dL_isPair_227 hl (by decide) rfl (fun ls hl => ?_)
        refine g_iload_n C dL_isPair_229 rfl hl 8 rfl ?_
        refine g_iload_n C dL_isPair_230 rfl hl 9 rfl ?_
        refine g_icmp_eq (tgt := 283) C (by omega) (by omega) dL_isPair_231 (by decide) (fun c_454 => ?_) (fun c_454 => ?_)
        · refine g_iload C dL_isPair_283 hl 1 rfl ?_
          refine g_if_eq (tgt := 313) C (by decide) dL_isPair_285 (by decide) (fun c9 => absurd c9 (by decide)) (fun _ => ?_)
          refine g_aload_n C dL_isPair_288 rfl hl 7 rfl ?_
          refine g_iload_n C dL_isPair_289 rfl hl 8 rfl ?_
          refine g_iconst (a := 3) C dL_isPair_290 rfl ?_
          refine g_ci C G (g_runVP (As := [.int (iz li), .int (iz 3)]) (rest := []) (pos := 0) C G X (q_layer l hlf κ B n ad g_449 HP0 nl f F9 M9 li 3 hnn x_450 hli (by decide)) (cwV 2 C.1.2.2.2.2 gL_isPair_X7_layer rfl rfl rfl (by decide +kernel) ⟨Nat.le_of_ble_eq_true rfl, Nat.le_of_ble_eq_true rfl⟩) (by omega) x_450.he (T := TX7) (N := 8) rfl rfl hl rfl (Nat.le_of_ble_eq_true rfl) dL_isPair_291 ⟨Nat.le_of_ble_eq_true rfl, Nat.le_of_ble_eq_true rfl⟩) (fun z_455 g_456 H locs hw G => ?_)
          obtain ⟨x_457, f_458, e_459⟩ := hw
          have f_460 := frX.tr f_453 f_458
          replace e_459 : z_455 = f (4 * li + 4) := e_459.trans lyF_3
          replace e_459 := e_459.symm
          subst e_459
          refine g_iload C dL_isPair_294 hl 2 rfl ?_
          refine g_icmp_ne (tgt := 313) C (by omega) (by omega) dL_isPair_296 (by decide) (fun c_461 => absurd c_461 (by omega)) (fun c_461 => ?_)
          refine g_aload_n C dL_isPair_299 rfl hl 7 rfl ?_
          refine g_iload_n C dL_isPair_300 rfl hl 8 rfl ?_
          refine g_iload_n C dL_isPair_301 rfl hl 9 rfl ?_
          refine g_ci C G (g_runVP (As := [.int (iz li), .int (iz lj)]) (rest := []) (pos := 0) C G X (q_common l hlf κ B n ad g_456 HP0 nl f F9 M9 li lj hnn x_457 hli hlj) (cwV 2 C.1.2.2.2.2 gL_isPair_X7_common rfl rfl rfl (by decide +kernel) ⟨Nat.le_of_ble_eq_true rfl, Nat.le_of_ble_eq_true rfl⟩) (by omega) x_457.he (T := TX7) (N := 8) rfl rfl hl rfl (Nat.le_of_ble_eq_true rfl) dL_isPair_302 ⟨Nat.le_of_ble_eq_true rfl, Nat.le_of_ble_eq_true rfl⟩) (fun z_462 g_463 H locs hw G => ?_)
          obtain ⟨x_464, f_465, e_466⟩ := hw
          have f_467 := frX.tr f_460 f_465
          replace e_466 := e_466.symm
          subst e_466
          refine g_iload_n C dL_isPair_305 rfl hl 6 rfl ?_
          refine g_icmp_ne (tgt := 313) C (by omega) (by omega) dL_isPair_306 (by decide) (fun c_468 => absurd c_468 (by omega)) (fun c_468 => ?_)
          refine g_iconst (a := 1) C dL_isPair_309 rfl ?_
          refine g_goto (tgt := 314) C dL_isPair_310 (by decide) ?_
          refine g_zret C G hr hlk (by decide) (Nat.le_of_ble_eq_true rfl) (Nat.le_of_ble_eq_true rfl) dL_isPair_314 ?_
          exact ⟨x_464.any, f_467, rfl⟩
        · have hne2 : li ≠ lj := by omega
          have hbs := bs_st hok hli hlj hne2
          refine g_aload_n C dL_isPair_234 rfl hl 7 rfl ?_
          refine g_iload_n C dL_isPair_235 rfl hl 8 rfl ?_
          refine g_iload_n C dL_isPair_236 rfl hl 9 rfl ?_
          refine g_ci C G (g_runVP (As := [.int (iz li), .int (iz lj)]) (rest := []) (pos := 0) C G X (q_bestStart l hlf κ B n ad g_449 HP0 nl f F9 M9 li lj hnn x_450 hli hlj hne2) (cwV 2 C.1.2.2.2.2 gL_isPair_X7_bestStart rfl rfl rfl (by decide +kernel) ⟨Nat.le_of_ble_eq_true rfl, Nat.le_of_ble_eq_true rfl⟩) (by omega) x_450.he (T := TX7) (N := 8) rfl rfl hl rfl (Nat.le_of_ble_eq_true rfl) dL_isPair_237 ⟨Nat.le_of_ble_eq_true rfl, Nat.le_of_ble_eq_true rfl⟩) (fun z_469 g_470 H locs hw G => ?_)
          obtain ⟨x_471, f_472, e_473⟩ := hw
          have f_474 := frX.tr f_453 f_472
          replace e_473 := e_473.symm
          subst e_473
          refine lv_istore (lv' := [(9, .int (iz (bsF f li lj))), (7, .int (iz 1)), (8, .int (iz (f (4 * li + 4)))), (6, .int (iz (f 0))), (5, .int (iz z5)), (4, .int (iz z4)), (3, .int (iz (coF f li lj))), (0, .ref (ad 0)), (1, .int (iz li)), (2, .int (iz lj))]) C.1.1 C.1.2.1 dL_isPair_240 hl (by decide) rfl (fun ls hl => ?_)
          refine g_iload C dL_isPair_242 hl 1 rfl ?_
          refine g_if_eq (tgt := 274) C (by decide) dL_isPair_244 (by decide) (fun c9 => absurd c9 (by decide)) (fun _ => ?_)
          refine g_aload_n C dL_isPair_247 rfl hl 7 rfl ?_
          refine g_iload_n C dL_isPair_248 rfl hl 8 rfl ?_
          refine g_iconst (a := 3) C dL_isPair_249 rfl ?_
          refine g_iload C dL_isPair_250 hl 0 rfl ?_
          refine g_ci C G (g_runVP (As := [.int (iz li), .int (iz 3), .int (iz (bsF f li lj))]) (rest := []) (pos := 0) C G X (q_change l hlf κ B n ad g_470 HP0 nl f F9 M9 li 3 (bsF f li lj) hnn x_471 hli (Or.inr (Or.inr (Or.inr ⟨rfl, by omega, by omega⟩)))) (cwV 3 C.1.2.2.2.2 gL_isPair_X7_change rfl rfl rfl (by decide +kernel) ⟨Nat.le_of_ble_eq_true rfl, Nat.le_of_ble_eq_true rfl⟩) (by omega) x_471.he (T := TX7) (N := 8) rfl rfl hl rfl (Nat.le_of_ble_eq_true rfl) dL_isPair_252 ⟨Nat.le_of_ble_eq_true rfl, Nat.le_of_ble_eq_true rfl⟩) (fun z_475 g_476 H locs hw G => ?_)
          obtain ⟨x_477, f_478, e_479⟩ := hw
          have f_480 := frX.tr f_474 f_478
          rw [show 4 * li + 1 + 3 = 4 * li + 4 by omega] at e_479
          replace e_479 := e_479.symm
          subst e_479
          have hc1 := co_le (f := (vu f (4 * li + 1 + 3) (bsF f li lj))) li lj
          have hc2 := cn_le (f := (vu f (4 * li + 1 + 3) (bsF f li lj))) li
          have hc3 := cn_le (f := (vu f (4 * li + 1 + 3) (bsF f li lj))) lj
          refine g_iload C dL_isPair_255 hl 2 rfl ?_
          refine g_icmp_ne (tgt := 274) C (by omega) (by omega) dL_isPair_257 (by decide) (fun c_481 => absurd c_481 (by omega)) (fun c_481 => ?_)
          refine g_aload_n C dL_isPair_260 rfl hl 7 rfl ?_
          refine g_iload_n C dL_isPair_261 rfl hl 8 rfl ?_
          refine g_iload_n C dL_isPair_262 rfl hl 9 rfl ?_
          refine g_ci C G (g_runVP (As := [.int (iz li), .int (iz lj)]) (rest := []) (pos := 0) C G X (q_common l hlf κ B n ad g_476 (HPl nl f) nl (vu f (4 * li + 1 + 3) (bsF f li lj)) F9 M9 li lj hnn x_477 hli hlj) (cwV 2 C.1.2.2.2.2 gL_isPair_X7_common rfl rfl rfl (by decide +kernel) ⟨Nat.le_of_ble_eq_true rfl, Nat.le_of_ble_eq_true rfl⟩) (by omega) x_477.he (T := TX7) (N := 8) rfl rfl hl rfl (Nat.le_of_ble_eq_true rfl) dL_isPair_263 ⟨Nat.le_of_ble_eq_true rfl, Nat.le_of_ble_eq_true rfl⟩) (fun z_482 g_483 H locs hw G => ?_)
          obtain ⟨x_484, f_485, e_486⟩ := hw
          have f_487 := frX.tr f_480 f_485
          refine g_iload_n C dL_isPair_266 rfl hl 6 rfl ?_
          refine g_icmp_lt (tgt := 274) C (by omega) (by omega) dL_isPair_267 (by decide) (fun c_488 => absurd c_488 (by omega)) (fun c_488 => ?_)
          refine g_iconst (a := 1) C dL_isPair_270 rfl ?_
          refine g_goto (tgt := 275) C dL_isPair_271 (by decide) ?_
          refine lv_istore (lv' := [(7, .int (iz 1)), (9, .int (iz (bsF f li lj))), (8, .int (iz (f (4 * li + 4)))), (6, .int (iz (f 0))), (5, .int (iz z5)), (4, .int (iz z4)), (3, .int (iz (coF f li lj))), (0, .ref (ad 0)), (1, .int (iz li)), (2, .int (iz lj))]) C.1.1 C.1.2.1 dL_isPair_275 hl (by decide) rfl (fun ls hl => ?_)
          refine g_aload_n C dL_isPair_277 rfl hl 7 rfl ?_
          refine g_ci C G (g_runVP (As := []) (rest := []) (pos := 0) C G X (q_undo l hlf κ B n ad g_483 nl f nl (vu f (4 * li + 1 + 3) (bsF f li lj)) F9 M9 hnn x_484) (cwV 0 C.1.2.2.2.2 gL_isPair_X7_undo rfl rfl rfl (by decide +kernel) ⟨Nat.le_of_ble_eq_true rfl, Nat.le_of_ble_eq_true rfl⟩) (by omega) x_484.he (T := TX7) (N := 8) rfl rfl hl rfl (Nat.le_of_ble_eq_true rfl) dL_isPair_278 ⟨Nat.le_of_ble_eq_true rfl, Nat.le_of_ble_eq_true rfl⟩) (fun z_489 g_490 H locs hw G => ?_)
          obtain ⟨x_491, f_492, e_493⟩ := hw
          have f_494 := frX.tr f_487 f_492
          refine lv_istore (lv' := [(10, .int (iz z_489)), (7, .int (iz 1)), (9, .int (iz (bsF f li lj))), (8, .int (iz (f (4 * li + 4)))), (6, .int (iz (f 0))), (5, .int (iz z5)), (4, .int (iz z4)), (3, .int (iz (coF f li lj))), (0, .ref (ad 0)), (1, .int (iz li)), (2, .int (iz lj))]) C.1.1 C.1.2.1 dL_isPair_281 hl (by decide) rfl (fun ls hl => ?_)
          refine g_iload C dL_isPair_283 hl 1 rfl ?_
          refine g_if_eq (tgt := 313) C (by decide) dL_isPair_285 (by decide) (fun c9 => absurd c9 (by decide)) (fun _ => ?_)
          refine g_aload_n C dL_isPair_288 rfl hl 8 rfl ?_
          refine g_iload_n C dL_isPair_289 rfl hl 9 rfl ?_
          refine g_iconst (a := 3) C dL_isPair_290 rfl ?_
          refine g_ci C G (g_runVP (As := [.int (iz li), .int (iz 3)]) (rest := []) (pos := 0) C G X (q_layer l hlf κ B n ad g_490 HP0 nl f F9 M9 li 3 hnn x_491 hli (by decide)) (cwV 2 C.1.2.2.2.2 gL_isPair_X7_layer rfl rfl rfl (by decide +kernel) ⟨Nat.le_of_ble_eq_true rfl, Nat.le_of_ble_eq_true rfl⟩) (by omega) x_491.he (T := TX7) (N := 8) rfl rfl hl rfl (Nat.le_of_ble_eq_true rfl) dL_isPair_291 ⟨Nat.le_of_ble_eq_true rfl, Nat.le_of_ble_eq_true rfl⟩) (fun z_495 g_496 H locs hw G => ?_)
          obtain ⟨x_497, f_498, e_499⟩ := hw
          have f_500 := frX.tr f_494 f_498
          replace e_499 : z_495 = f (4 * li + 4) := e_499.trans lyF_3
          replace e_499 := e_499.symm
          subst e_499
          refine g_iload C dL_isPair_294 hl 3 rfl ?_
          refine g_icmp_ne (tgt := 313) C (by omega) (by omega) dL_isPair_296 (by decide) (fun c_501 => absurd c_501 (by omega)) (fun c_501 => ?_)
          refine g_aload_n C dL_isPair_299 rfl hl 8 rfl ?_
          refine g_iload_n C dL_isPair_300 rfl hl 9 rfl ?_
          refine g_iload_n C dL_isPair_301 rfl hl 10 rfl ?_
          refine g_ci C G (g_runVP (As := [.int (iz li), .int (iz lj)]) (rest := []) (pos := 0) C G X (q_common l hlf κ B n ad g_496 HP0 nl f F9 M9 li lj hnn x_497 hli hlj) (cwV 2 C.1.2.2.2.2 gL_isPair_X7_common rfl rfl rfl (by decide +kernel) ⟨Nat.le_of_ble_eq_true rfl, Nat.le_of_ble_eq_true rfl⟩) (by omega) x_497.he (T := TX7) (N := 8) rfl rfl hl rfl (Nat.le_of_ble_eq_true rfl) dL_isPair_302 ⟨Nat.le_of_ble_eq_true rfl, Nat.le_of_ble_eq_true rfl⟩) (fun z_502 g_503 H locs hw G => ?_)
          obtain ⟨x_504, f_505, e_506⟩ := hw
          have f_507 := frX.tr f_500 f_505
          replace e_506 := e_506.symm
          subst e_506
          refine g_iload_n C dL_isPair_305 rfl hl 7 rfl ?_
          refine g_icmp_ne (tgt := 313) C (by omega) (by omega) dL_isPair_306 (by decide) (fun c_508 => absurd c_508 (by omega)) (fun c_508 => ?_)
          refine g_iconst (a := 1) C dL_isPair_309 rfl ?_
          refine g_goto (tgt := 314) C dL_isPair_310 (by decide) ?_
          refine g_zret C G hr hlk (by decide) (Nat.le_of_ble_eq_true rfl) (Nat.le_of_ble_eq_true rfl) dL_isPair_314 ?_
          exact ⟨x_504.any, f_507, rfl⟩
