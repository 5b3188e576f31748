/-! THE LAW: change -/
abbrev gCR : Type := Int × Int × (Int → Int) × (Int → Int) × (Int → Int × (Int → Int))
noncomputable def chG (kk li more nl : Int) (f F9 : Int → Int) (M9 : Int → Int × (Int → Int)) : gCR :=
  if kk = 0 then (f 0, nl, tkr nl f (12 + lowF more 19), F9, M9)
  else if kk = 1 then (if nl = 0 then (f 25, nl, vu f 25 0, F9, M9) else (f (4 * li + 1 + 0), nl, vu f (4 * li + 1 + 0) (5 + lowF more 16), F9, M9))
  else if kk = 2 then (if nl = 0 then (f 0, nl, tkr nl f 12, F9, M9) else (f (4 * li + 1 + 1), nl, vu f (4 * li + 1 + 1) (lowF more 2), F9, M9))
  else if kk = 3 then (if nl = 0 then (f 25, nl, vu f 25 0, F9, M9) else (f (4 * li + 1 + 2), nl, vu f (4 * li + 1 + 2) (lowF more 21), F9, M9))
  else if kk = 4 then (if nl = 0 then (f 0, nl, tkr nl f 24, F9, M9) else (f (4 * li + 1 + 3), nl, vu f (4 * li + 1 + 3) (lowF more (f 0)), F9, M9))
  else if kk = 5 then (if nl = 0 then (f 25, nl, vu f 25 0, F9, M9) else (nl - 1, nl - 1, drv nl f li, F9, M9))
  else if kk = 6 ∨ kk = 7 then (if nl = 0 then (fitN nl (ntv f (Int.tdiv (1000 * lowF more (f 0) + lowF (shF more 6) 301) 1000) (Int.tmod (1000 * lowF more (f 0) + lowF (shF more 6) 301) 1000)), nl, ntv f (Int.tdiv (1000 * lowF more (f 0) + lowF (shF more 6) 301) 1000) (Int.tmod (1000 * lowF more (f 0) + lowF (shF more 6) 301) 1000), F9, M9) else (fitN nl (ntv f (Int.tdiv (peF f li (lowF more 500)) 1000) (Int.tmod (peF f li (lowF more 500)) 1000)), nl, ntv f (Int.tdiv (peF f li (lowF more 500)) 1000) (Int.tmod (peF f li (lowF more 500)) 1000), F9, M9))
  else if kk = 8 then (if lowF more 3 = 0 then (f 25, nl, vu f 25 0, F9, M9) else (fitN nl (ntv f (lowF more (f 0)) (180 + lowF (shF more 8) 40)), nl, ntv f (lowF more (f 0)) (180 + lowF (shF more 8) 40), F9, M9))
  else if kk = 9 then (if lowF more 2 = 0 then (nl, nl, f, vu F9 (lowF (shF more 2) 2) 1, fun i => if i = lowF (shF more 2) 2 then (nl, f) else M9 i) else if F9 (lowF (shF more 2) 2) = 1 then ((M9 (lowF (shF more 2) 2)).1, (M9 (lowF (shF more 2) 2)).1, (M9 (lowF (shF more 2) 2)).2, F9, M9) else (-1000, nl, f, F9, M9))
  else if nl = 6 then (nl - 1, nl - 1, drv nl f li, F9, M9)
  else (nl, nl + 1, v4 f nl (5 + lowF more 16) (lowF (shF more 5) 2) (lowF (shF more 7) 21) (lowF (shF more 13) (f 0)), F9, M9)
noncomputable def chT (v more nl : Int) (f F9 : Int → Int) (M9 : Int → Int × (Int → Int)) : gCR := chG (lowF v 13) (if nl = 0 then 0 else lowF (shF v 6) nl) more nl f F9 M9
set_option maxHeartbeats 4000000 in
set_option maxRecDepth 100000 in
theorem c_L_change (l : Launch) (hlf : l.stackTraces = false) (κ : gKap) (B n : Nat) (ad : Nat → Nat) (g : Nat → va_E) (HP : gHP) (nl : Int) (f : Int → Int) (F9 : Int → Int) (M9 : Int → Int × (Int → Int)) (v : Int) (more : Int) (hnn : 192 ≤ n) (h : XI κ ad g HP nl f F9 M9) (hv : inI v) (hmo : inI more) : Met l yL_change wsL_change ({ frames := 8, cells := 12, slots := 72, locals := 145 }) (gPreX κ B n ad g [.ref (ad 0), .int (iz v), .int (iz more)]) (gQi κ B n ad (fun z g' => z = (chT v more nl f F9 M9).1 ∧ XI κ ad g' HP0 (chT v more nl f F9 M9).2.1 (chT v more nl f F9 M9).2.2.1 (chT v more nl f F9 M9).2.2.2.1 (chT v more nl f F9 M9).2.2.2.2 ∧ frX n g g')) 12 72 (gFree B) := by
  refine g_metP RL (cc := cL_change) (maxL := 7) (ret := (some .int)) (by decide) rfl rfl (Nat.le_of_ble_eq_true rfl) ?_
  intro p e s m args below meth c C hr hlk X G ls hl
  have hl : lv_has ls 7 [(0, .ref (ad 0)), (1, .int (iz v)), (2, .int (iz more))] := hl
  have hok := h.ok
  have hn6 := hok.1
  have hr0 := hok.2.1
  refine g_aload_n C dL_change_0 rfl hl 0 rfl ?_
  refine g_iconst (a := 1) C dL_change_1 rfl ?_
  refine g_ci C G (g_runVP (As := [.int (iz 1)]) (rest := []) (pos := 0) C G X (q_about l hlf κ B n ad g HP nl f F9 M9 1 hnn h (by decide)) (cwV 1 C.1.2.2.2.2 gL_change_X7_about rfl rfl rfl (by decide +kernel) ⟨Nat.le_of_ble_eq_true rfl, Nat.le_of_ble_eq_true rfl⟩) (by omega) h.he (T := TX7) (N := 8) rfl rfl hl rfl (Nat.le_of_ble_eq_true rfl) dL_change_2 ⟨Nat.le_of_ble_eq_true rfl, Nat.le_of_ble_eq_true rfl⟩) (fun z_1 g_2 H locs hw G => ?_)
  obtain ⟨x_3, f_4, e_5⟩ := hw
  replace e_5 : z_1 = nl := e_5.trans abF_1
  replace e_5 := e_5.symm
  subst e_5
  refine lv_istore_n (lv' := [(3, .int (iz nl)), (0, .ref (ad 0)), (1, .int (iz v)), (2, .int (iz more))]) C.1.1 C.1.2.1 dL_change_5 rfl hl (by decide) rfl (fun ls hl => ?_)
  refine g_aload_n C dL_change_6 rfl hl 1 rfl ?_
  refine g_iconst (a := 0) C dL_change_7 rfl ?_
  refine g_ci C G (g_runVP (As := [.int (iz 0)]) (rest := []) (pos := 0) C G X (q_about l hlf κ B n ad g_2 HP nl f F9 M9 0 hnn x_3 (by decide)) (cwV 1 C.1.2.2.2.2 gL_change_X7_about rfl rfl rfl (by decide +kernel) ⟨Nat.le_of_ble_eq_true rfl, Nat.le_of_ble_eq_true rfl⟩) (by omega) x_3.he (T := TX7) (N := 8) rfl rfl hl rfl (Nat.le_of_ble_eq_true rfl) dL_change_8 ⟨Nat.le_of_ble_eq_true rfl, Nat.le_of_ble_eq_true rfl⟩) (fun z_6 g_7 H locs hw G => ?_)
  obtain ⟨x_8, f_9, e_10⟩ := hw
  have f_11 := frX.tr f_4 f_9
  replace e_10 : z_6 = f 0 := e_10.trans abF_0
  replace e_10 := e_10.symm
  subst e_10
  refine lv_istore (lv' := [(4, .int (iz (f 0))), (3, .int (iz nl)), (0, .ref (ad 0)), (1, .int (iz v)), (2, .int (iz more))]) C.1.1 C.1.2.1 dL_change_11 hl (by decide) rfl (fun ls hl => ?_)
  refine g_iload_n C dL_change_13 rfl hl 1 rfl ?_
  refine g_if_ne (tgt := 21) C (by omega) dL_change_14 (by decide) (fun c_12 => ?_) (fun c_12 => ?_)
  · have hz : ¬ nl = 0 := by omega
    refine g_iload_n C dL_change_21 rfl hl 3 rfl ?_
    refine g_bipush (a := 6) C dL_change_22 (by decide) ?_
    refine g_ishr C dL_change_24 ?_
    refine g_iload_n C dL_change_25 rfl hl 1 rfl ?_
    refine g_ci C G (g_runS (As := [.int (iz (shF v 6)), .int (iz nl)]) (rest := []) C G (c_L_low l κ B n ad g_7 (shF v 6) nl (by first | exact shF_in _ _ | exact rI_in _ | omega) (by omega)) (va_cwS 2 C.1.2.2.2.2 gL_change_L_low rfl rfl rfl (by decide +kernel) ⟨Nat.le_of_ble_eq_true rfl, Nat.le_of_ble_eq_true rfl⟩) rfl hl rfl (Nat.le_of_ble_eq_true rfl) dL_change_26 ⟨Nat.le_of_ble_eq_true rfl, Nat.le_of_ble_eq_true rfl⟩) (fun z_13 g9 H locs hw G => ?_)
    obtain ⟨hg9, e_14⟩ := hw
    replace hg9 := hg9.symm
    subst hg9
    have r_15 : 0 ≤ z_13 ∧ z_13 < nl := by rw [e_14]; exact lowF_rg (by omega)
    replace e_14 := e_14.symm
    subst e_14
    refine lv_istore (lv' := [(5, .int (iz (lowF (shF v 6) nl))), (4, .int (iz (f 0))), (3, .int (iz nl)), (0, .ref (ad 0)), (1, .int (iz v)), (2, .int (iz more))]) C.1.1 C.1.2.1 dL_change_29 hl (by decide) rfl (fun ls hl => ?_)
    refine g_iload_n C dL_change_31 rfl hl 4 rfl ?_
    refine g_bipush (a := 13) C dL_change_32 (by decide) ?_
    refine g_ci C G (g_runS (As := [.int (iz v), .int (iz 13)]) (rest := []) C G (c_L_low l κ B n ad g_7 v 13 (by first | exact shF_in _ _ | exact rI_in _ | omega) (by omega)) (va_cwS 2 C.1.2.2.2.2 gL_change_L_low rfl rfl rfl (by decide +kernel) ⟨Nat.le_of_ble_eq_true rfl, Nat.le_of_ble_eq_true rfl⟩) rfl hl rfl (Nat.le_of_ble_eq_true rfl) dL_change_34 ⟨Nat.le_of_ble_eq_true rfl, Nat.le_of_ble_eq_true rfl⟩) (fun z_16 g9 H locs hw G => ?_)
    obtain ⟨hg9, e_17⟩ := hw
    replace hg9 := hg9.symm
    subst hg9
    have r_18 : 0 ≤ z_16 ∧ z_16 < 13 := by rw [e_17]; exact lowF_rg (by omega)
    replace e_17 := e_17.symm
    subst e_17
    by_cases e_19 : lowF v 13 = 0
    · refine g_tswIn (v := 0) (off := 55) (tgt := 92) C dL_change_37 e_19 (by decide) (by decide) (by decide) (by decide) (by decide) ?_
      refine g_aload_n C dL_change_92 rfl hl 3 rfl ?_
      refine g_bipush (a := 12) C dL_change_93 (by decide) ?_
      refine g_iload_n C dL_change_95 rfl hl 5 rfl ?_
      refine g_bipush (a := 19) C dL_change_96 (by decide) ?_
      refine g_ci C G (g_runS (As := [.int (iz more), .int (iz 19)]) (rest := [.int (iz 12), .ref (ad 0)]) C G (c_L_low l κ B n ad g_7 more 19 (by first | exact shF_in _ _ | exact rI_in _ | omega) (by omega)) (va_cwS 2 C.1.2.2.2.2 gL_change_L_low rfl rfl rfl (by decide +kernel) ⟨Nat.le_of_ble_eq_true rfl, Nat.le_of_ble_eq_true rfl⟩) rfl hl rfl (Nat.le_of_ble_eq_true rfl) dL_change_98 ⟨Nat.le_of_ble_eq_true rfl, Nat.le_of_ble_eq_true rfl⟩) (fun z_20 g9 H locs hw G => ?_)
      obtain ⟨hg9, e_21⟩ := hw
      replace hg9 := hg9.symm
      subst hg9
      have r_22 : 0 ≤ z_20 ∧ z_20 < 19 := by rw [e_21]; exact lowF_rg (by omega)
      replace e_21 := e_21.symm
      subst e_21
      refine g_iadd C dL_change_101 ?_
      refine g_ci C G (g_runVP (As := [.int (iz (12 + (lowF more 19)))]) (rest := []) (pos := 0) C G X (q_setRing l hlf κ B n ad g_7 HP nl f F9 M9 (12 + (lowF more 19)) hnn x_8 (by omega)) (cwV 1 C.1.2.2.2.2 gL_change_X7_setRing rfl rfl rfl (by decide +kernel) ⟨Nat.le_of_ble_eq_true rfl, Nat.le_of_ble_eq_true rfl⟩) (by omega) x_8.he (T := TX7) (N := 8) rfl rfl hl rfl (Nat.le_of_ble_eq_true rfl) dL_change_102 ⟨Nat.le_of_ble_eq_true rfl, Nat.le_of_ble_eq_true rfl⟩) (fun z_23 g_24 H locs hw G => ?_)
      obtain ⟨x_25, f_26, e_27⟩ := hw
      have f_28 := frX.tr f_11 f_26
      refine g_iret C G hr hlk (Nat.le_of_ble_eq_true rfl) (Nat.le_of_ble_eq_true rfl) dL_change_105 ?_
      have ec : chT v more nl f F9 M9 = (f 0, nl, tkr nl f (12 + (lowF more 19)), F9, M9) := by
        unfold chT
        rw [if_neg hz]
        unfold chG
        first | (rw [if_pos (by omega)]; done) | (rw [if_pos (by omega)]; rfl)
      rw [ec]
      exact ⟨e_27, x_25.any, f_28⟩
    by_cases e_29 : lowF v 13 = 1
    · refine g_tswIn (v := 1) (off := 69) (tgt := 106) C dL_change_37 e_29 (by decide) (by decide) (by decide) (by decide) (by decide) ?_
      refine g_iload_n C dL_change_106 rfl hl 2 rfl ?_
      refine g_if_ne (tgt := 117) C (by omega) dL_change_107 (by decide) (fun c_30 => ?_) (fun c_30 => absurd c_30 (by omega))
      refine g_aload_n C dL_change_117 rfl hl 3 rfl ?_
      refine g_iload C dL_change_118 hl 0 rfl ?_
      refine g_iconst (a := 0) C dL_change_120 rfl ?_
      refine g_iconst (a := 5) C dL_change_121 rfl ?_
      refine g_iload_n C dL_change_122 rfl hl 5 rfl ?_
      refine g_bipush (a := 16) C dL_change_123 (by decide) ?_
      refine g_ci C G (g_runS (As := [.int (iz more), .int (iz 16)]) (rest := [.int (iz 5), .int (iz 0), .int (iz (lowF (shF v 6) nl)), .ref (ad 0)]) C G (c_L_low l κ B n ad g_7 more 16 (by first | exact shF_in _ _ | exact rI_in _ | omega) (by omega)) (va_cwS 2 C.1.2.2.2.2 gL_change_L_low rfl rfl rfl (by decide +kernel) ⟨Nat.le_of_ble_eq_true rfl, Nat.le_of_ble_eq_true rfl⟩) rfl hl rfl (Nat.le_of_ble_eq_true rfl) dL_change_125 ⟨Nat.le_of_ble_eq_true rfl, Nat.le_of_ble_eq_true rfl⟩) (fun z_31 g9 H locs hw G => ?_)
      obtain ⟨hg9, e_32⟩ := hw
      replace hg9 := hg9.symm
      subst hg9
      have r_33 : 0 ≤ z_31 ∧ z_31 < 16 := by rw [e_32]; exact lowF_rg (by omega)
      replace e_32 := e_32.symm
      subst e_32
      refine g_iadd C dL_change_128 ?_
      refine g_ci C G (g_runVP (As := [.int (iz (lowF (shF v 6) nl)), .int (iz 0), .int (iz (5 + (lowF more 16)))]) (rest := []) (pos := 0) C G X (q_change l hlf κ B n ad g_7 HP nl f F9 M9 (lowF (shF v 6) nl) 0 (5 + (lowF more 16)) hnn x_8 ⟨by omega, by omega⟩ (Or.inl ⟨rfl, by omega, by omega⟩)) (cwV 3 C.1.2.2.2.2 gL_change_X7_change rfl rfl rfl (by decide +kernel) ⟨Nat.le_of_ble_eq_true rfl, Nat.le_of_ble_eq_true rfl⟩) (by omega) x_8.he (T := TX7) (N := 8) rfl rfl hl rfl (Nat.le_of_ble_eq_true rfl) dL_change_129 ⟨Nat.le_of_ble_eq_true rfl, Nat.le_of_ble_eq_true rfl⟩) (fun z_34 g_35 H locs hw G => ?_)
      obtain ⟨x_36, f_37, e_38⟩ := hw
      have f_39 := frX.tr f_11 f_37
      refine g_iret C G hr hlk (Nat.le_of_ble_eq_true rfl) (Nat.le_of_ble_eq_true rfl) dL_change_132 ?_
      have ec : chT v more nl f F9 M9 = (f (4 * (lowF (shF v 6) nl) + 1 + 0), nl, vu f (4 * (lowF (shF v 6) nl) + 1 + 0) (5 + (lowF more 16)), F9, M9) := by
        unfold chT
        rw [if_neg hz]
        unfold chG
        first | (rw [if_neg (by omega), if_pos (by omega), if_neg hz]; done) | (rw [if_neg (by omega), if_pos (by omega), if_neg hz]; rfl)
      rw [ec]
      exact ⟨e_38, x_36.any, f_39⟩
    by_cases e_40 : lowF v 13 = 2
    · refine g_tswIn (v := 2) (off := 96) (tgt := 133) C dL_change_37 e_40 (by decide) (by decide) (by decide) (by decide) (by decide) ?_
      refine g_iload_n C dL_change_133 rfl hl 2 rfl ?_
      refine g_if_ne (tgt := 146) C (by omega) dL_change_134 (by decide) (fun c_41 => ?_) (fun c_41 => absurd c_41 (by omega))
      refine g_aload_n C dL_change_146 rfl hl 3 rfl ?_
      refine g_iload C dL_change_147 hl 0 rfl ?_
      refine g_iconst (a := 1) C dL_change_149 rfl ?_
      refine g_iload_n C dL_change_150 rfl hl 5 rfl ?_
      refine g_iconst (a := 2) C dL_change_151 rfl ?_
      refine g_ci C G (g_runS (As := [.int (iz more), .int (iz 2)]) (rest := [.int (iz 1), .int (iz (lowF (shF v 6) nl)), .ref (ad 0)]) C G (c_L_low l κ B n ad g_7 more 2 (by first | exact shF_in _ _ | exact rI_in _ | omega) (by omega)) (va_cwS 2 C.1.2.2.2.2 gL_change_L_low rfl rfl rfl (by decide +kernel) ⟨Nat.le_of_ble_eq_true rfl, Nat.le_of_ble_eq_true rfl⟩) rfl hl rfl (Nat.le_of_ble_eq_true rfl) dL_change_152 ⟨Nat.le_of_ble_eq_true rfl, Nat.le_of_ble_eq_true rfl⟩) (fun z_42 g9 H locs hw G => ?_)
      obtain ⟨hg9, e_43⟩ := hw
      replace hg9 := hg9.symm
      subst hg9
      have r_44 : 0 ≤ z_42 ∧ z_42 < 2 := by rw [e_43]; exact lowF_rg (by omega)
      replace e_43 := e_43.symm
      subst e_43
      refine g_ci C G (g_runVP (As := [.int (iz (lowF (shF v 6) nl)), .int (iz 1), .int (iz (lowF more 2))]) (rest := []) (pos := 0) C G X (q_change l hlf κ B n ad g_7 HP nl f F9 M9 (lowF (shF v 6) nl) 1 (lowF more 2) hnn x_8 ⟨by omega, by omega⟩ (Or.inr (Or.inl ⟨rfl, by omega⟩))) (cwV 3 C.1.2.2.2.2 gL_change_X7_change rfl rfl rfl (by decide +kernel) ⟨Nat.le_of_ble_eq_true rfl, Nat.le_of_ble_eq_true rfl⟩) (by omega) x_8.he (T := TX7) (N := 8) rfl rfl hl rfl (Nat.le_of_ble_eq_true rfl) dL_change_155 ⟨Nat.le_of_ble_eq_true rfl, Nat.le_of_ble_eq_true rfl⟩) (fun z_45 g_46 H locs hw G => ?_)
      obtain ⟨x_47, f_48, e_49⟩ := hw
      have f_50 := frX.tr f_11 f_48
      refine g_iret C G hr hlk (Nat.le_of_ble_eq_true rfl) (Nat.le_of_ble_eq_true rfl) dL_change_158 ?_
      have ec : chT v more nl f F9 M9 = (f (4 * (lowF (shF v 6) nl) + 1 + 1), nl, vu f (4 * (lowF (shF v 6) nl) + 1 + 1) (lowF more 2), F9, M9) := by
        unfold chT
        rw [if_neg hz]
        unfold chG
        first | (rw [if_neg (by omega), if_neg (by omega), if_pos (by omega), if_neg hz]; done) | (rw [if_neg (by omega), if_neg (by omega), if_pos (by omega), if_neg hz]; rfl)
      rw [ec]
      exact ⟨e_49, x_47.any, f_50⟩
    by_cases e_51 : lowF v 13 = 3
    · refine g_tswIn (v := 3) (off := 122) (tgt := 159) C dL_change_37 e_51 (by decide) (by decide) (by decide) (by decide) (by decide) ?_
      refine g_iload_n C dL_change_159 rfl hl 2 rfl ?_
      refine g_if_ne (tgt := 170) C (by omega) dL_change_160 (by decide) (fun c_52 => ?_) (fun c_52 => absurd c_52 (by omega))
      refine g_aload_n C dL_change_170 rfl hl 3 rfl ?_
      refine g_iload C dL_change_171 hl 0 rfl ?_
      refine g_iconst (a := 2) C dL_change_173 rfl ?_
      refine g_iload_n C dL_change_174 rfl hl 5 rfl ?_
      refine g_bipush (a := 21) C dL_change_175 (by decide) ?_
      refine g_ci C G (g_runS (As := [.int (iz more), .int (iz 21)]) (rest := [.int (iz 2), .int (iz (lowF (shF v 6) nl)), .ref (ad 0)]) C G (c_L_low l κ B n ad g_7 more 21 (by first | exact shF_in _ _ | exact rI_in _ | omega) (by omega)) (va_cwS 2 C.1.2.2.2.2 gL_change_L_low rfl rfl rfl (by decide +kernel) ⟨Nat.le_of_ble_eq_true rfl, Nat.le_of_ble_eq_true rfl⟩) rfl hl rfl (Nat.le_of_ble_eq_true rfl) dL_change_177 ⟨Nat.le_of_ble_eq_true rfl, Nat.le_of_ble_eq_true rfl⟩) (fun z_53 g9 H locs hw G => ?_)
      obtain ⟨hg9, e_54⟩ := hw
      replace hg9 := hg9.symm
      subst hg9
      have r_55 : 0 ≤ z_53 ∧ z_53 < 21 := by rw [e_54]; exact lowF_rg (by omega)
      replace e_54 := e_54.symm
      subst e_54
      refine g_ci C G (g_runVP (As := [.int (iz (lowF (shF v 6) nl)), .int (iz 2), .int (iz (lowF more 21))]) (rest := []) (pos := 0) C G X (q_change l hlf κ B n ad g_7 HP nl f F9 M9 (lowF (shF v 6) nl) 2 (lowF more 21) hnn x_8 ⟨by omega, by omega⟩ (Or.inr (Or.inr (Or.inl ⟨rfl, by omega, by omega⟩)))) (cwV 3 C.1.2.2.2.2 gL_change_X7_change rfl rfl rfl (by decide +kernel) ⟨Nat.le_of_ble_eq_true rfl, Nat.le_of_ble_eq_true rfl⟩) (by omega) x_8.he (T := TX7) (N := 8) rfl rfl hl rfl (Nat.le_of_ble_eq_true rfl) dL_change_180 ⟨Nat.le_of_ble_eq_true rfl, Nat.le_of_ble_eq_true rfl⟩) (fun z_56 g_57 H locs hw G => ?_)
      obtain ⟨x_58, f_59, e_60⟩ := hw
      have f_61 := frX.tr f_11 f_59
      refine g_iret C G hr hlk (Nat.le_of_ble_eq_true rfl) (Nat.le_of_ble_eq_true rfl) dL_change_183 ?_
      have ec : chT v more nl f F9 M9 = (f (4 * (lowF (shF v 6) nl) + 1 + 2), nl, vu f (4 * (lowF (shF v 6) nl) + 1 + 2) (lowF more 21), F9, M9) := by
        unfold chT
        rw [if_neg hz]
        unfold chG
        first | (rw [if_neg (by omega), if_neg (by omega), if_neg (by omega), if_pos (by omega), if_neg hz]; done) | (rw [if_neg (by omega), if_neg (by omega), if_neg (by omega), if_pos (by omega), if_neg hz]; rfl)
      rw [ec]
      exact ⟨e_60, x_58.any, f_61⟩
    by_cases e_62 : lowF v 13 = 4
    · refine g_tswIn (v := 4) (off := 147) (tgt := 184) C dL_change_37 e_62 (by decide) (by decide) (by decide) (by decide) (by decide) ?_
      refine g_iload_n C dL_change_184 rfl hl 2 rfl ?_
      refine g_if_ne (tgt := 197) C (by omega) dL_change_185 (by decide) (fun c_63 => ?_) (fun c_63 => absurd c_63 (by omega))
      refine g_aload_n C dL_change_197 rfl hl 3 rfl ?_
      refine g_iload C dL_change_198 hl 0 rfl ?_
      refine g_iconst (a := 3) C dL_change_200 rfl ?_
      refine g_iload_n C dL_change_201 rfl hl 5 rfl ?_
      refine g_iload C dL_change_202 hl 1 rfl ?_
      refine g_ci C G (g_runS (As := [.int (iz more), .int (iz (f 0))]) (rest := [.int (iz 3), .int (iz (lowF (shF v 6) nl)), .ref (ad 0)]) C G (c_L_low l κ B n ad g_7 more (f 0) (by first | exact shF_in _ _ | exact rI_in _ | omega) (by omega)) (va_cwS 2 C.1.2.2.2.2 gL_change_L_low rfl rfl rfl (by decide +kernel) ⟨Nat.le_of_ble_eq_true rfl, Nat.le_of_ble_eq_true rfl⟩) rfl hl rfl (Nat.le_of_ble_eq_true rfl) dL_change_204 ⟨Nat.le_of_ble_eq_true rfl, Nat.le_of_ble_eq_true rfl⟩) (fun z_64 g9 H locs hw G => ?_)
      obtain ⟨hg9, e_65⟩ := hw
      replace hg9 := hg9.symm
      subst hg9
      have r_66 : 0 ≤ z_64 ∧ z_64 < f 0 := by rw [e_65]; exact lowF_rg (by omega)
      replace e_65 := e_65.symm
      subst e_65
      refine g_ci C G (g_runVP (As := [.int (iz (lowF (shF v 6) nl)), .int (iz 3), .int (iz (lowF more (f 0)))]) (rest := []) (pos := 0) C G X (q_change l hlf κ B n ad g_7 HP nl f F9 M9 (lowF (shF v 6) nl) 3 (lowF more (f 0)) hnn x_8 ⟨by omega, by omega⟩ (Or.inr (Or.inr (Or.inr ⟨rfl, by omega, by omega⟩)))) (cwV 3 C.1.2.2.2.2 gL_change_X7_change rfl rfl rfl (by decide +kernel) ⟨Nat.le_of_ble_eq_true rfl, Nat.le_of_ble_eq_true rfl⟩) (by omega) x_8.he (T := TX7) (N := 8) rfl rfl hl rfl (Nat.le_of_ble_eq_true rfl) dL_change_207 ⟨Nat.le_of_ble_eq_true rfl, Nat.le_of_ble_eq_true rfl⟩) (fun z_67 g_68 H locs hw G => ?_)
      obtain ⟨x_69, f_70, e_71⟩ := hw
      have f_72 := frX.tr f_11 f_70
      refine g_iret C G hr hlk (Nat.le_of_ble_eq_true rfl) (Nat.le_of_ble_eq_true rfl) dL_change_210 ?_
      have ec : chT v more nl f F9 M9 = (f (4 * (lowF (shF v 6) nl) + 1 + 3), nl, vu f (4 * (lowF (shF v 6) nl) + 1 + 3) (lowF more (f 0)), F9, M9) := by
        unfold chT
        rw [if_neg hz]
        unfold chG
        first | (rw [if_neg (by omega), if_neg (by omega), if_neg (by omega), if_neg (by omega), if_pos (by omega), if_neg hz]; done) | (rw [if_neg (by omega), if_neg (by omega), if_neg (by omega), if_neg (by omega), if_pos (by omega), if_neg hz]; rfl)
      rw [ec]
      exact ⟨e_71, x_69.any, f_72⟩
    by_cases e_73 : lowF v 13 = 5
    · refine g_tswIn (v := 5) (off := 174) (tgt := 211) C dL_change_37 e_73 (by decide) (by decide) (by decide) (by decide) (by decide) ?_
      refine g_iload_n C dL_change_211 rfl hl 2 rfl ?_
      refine g_if_ne (tgt := 222) C (by omega) dL_change_212 (by decide) (fun c_74 => ?_) (fun c_74 => absurd c_74 (by omega))
      refine g_aload_n C dL_change_222 rfl hl 3 rfl ?_
      refine g_iload C dL_change_223 hl 0 rfl ?_
      refine g_ci C G (g_runVP (As := [.int (iz (lowF (shF v 6) nl))]) (rest := []) (pos := 0) C G X (q_remove l hlf κ B n ad g_7 HP nl f F9 M9 (lowF (shF v 6) nl) hnn x_8 ⟨by omega, by omega⟩) (cwV 1 C.1.2.2.2.2 gL_change_X7_remove rfl rfl rfl (by decide +kernel) ⟨Nat.le_of_ble_eq_true rfl, Nat.le_of_ble_eq_true rfl⟩) (by omega) x_8.he (T := TX7) (N := 8) rfl rfl hl rfl (Nat.le_of_ble_eq_true rfl) dL_change_225 ⟨Nat.le_of_ble_eq_true rfl, Nat.le_of_ble_eq_true rfl⟩) (fun z_75 g_76 H locs hw G => ?_)
      obtain ⟨x_77, f_78, e_79⟩ := hw
      have f_80 := frX.tr f_11 f_78
      refine g_iret C G hr hlk (Nat.le_of_ble_eq_true rfl) (Nat.le_of_ble_eq_true rfl) dL_change_228 ?_
      have ec : chT v more nl f F9 M9 = (nl - 1, nl - 1, drv nl f (lowF (shF v 6) nl), F9, M9) := by
        unfold chT
        rw [if_neg hz]
        unfold chG
        first | (rw [if_neg (by omega), if_neg (by omega), if_neg (by omega), if_neg (by omega), if_neg (by omega), if_pos (by omega), if_neg hz]; done) | (rw [if_neg (by omega), if_neg (by omega), if_neg (by omega), if_neg (by omega), if_neg (by omega), if_pos (by omega), if_neg hz]; rfl)
      rw [ec]
      exact ⟨e_79, x_77.any, f_80⟩
    by_cases e_81 : lowF v 13 = 6
    · refine g_tswIn (v := 6) (off := 192) (tgt := 229) C dL_change_37 e_81 (by decide) (by decide) (by decide) (by decide) (by decide) ?_
      refine g_iload_n C dL_change_229 rfl hl 2 rfl ?_
      refine g_if_ne (tgt := 257) C (by omega) dL_change_230 (by decide) (fun c_82 => ?_) (fun c_82 => absurd c_82 (by omega))
      refine g_aload_n C dL_change_257 rfl hl 3 rfl ?_
      refine g_iload C dL_change_258 hl 0 rfl ?_
      refine g_iload_n C dL_change_260 rfl hl 5 rfl ?_
      refine g_sipush (a := 500) C dL_change_261 (by decide) ?_
      refine g_ci C G (g_runS (As := [.int (iz more), .int (iz 500)]) (rest := [.int (iz (lowF (shF v 6) nl)), .ref (ad 0)]) C G (c_L_low l κ B n ad g_7 more 500 (by first | exact shF_in _ _ | exact rI_in _ | omega) (by omega)) (va_cwS 2 C.1.2.2.2.2 gL_change_L_low rfl rfl rfl (by decide +kernel) ⟨Nat.le_of_ble_eq_true rfl, Nat.le_of_ble_eq_true rfl⟩) rfl hl rfl (Nat.le_of_ble_eq_true rfl) dL_change_264 ⟨Nat.le_of_ble_eq_true rfl, Nat.le_of_ble_eq_true rfl⟩) (fun z_83 g9 H locs hw G => ?_)
      obtain ⟨hg9, e_84⟩ := hw
      replace hg9 := hg9.symm
      subst hg9
      have r_85 : 0 ≤ z_83 ∧ z_83 < 500 := by rw [e_84]; exact lowF_rg (by omega)
      replace e_84 := e_84.symm
      subst e_84
      refine g_i2l C (by omega) dL_change_267 ?_
      refine g_ci C G (g_runVP (As := [.int (iz (lowF (shF v 6) nl)), .long (jz (lowF more 500))]) (rest := []) (pos := 0) C G X (q_pen l hlf κ B n ad g_7 HP nl f F9 M9 (lowF (shF v 6) nl) (lowF more 500) hnn x_8 ⟨by omega, by omega⟩ (by omega)) (cwV 2 C.1.2.2.2.2 gL_change_X7_pen rfl rfl rfl (by decide +kernel) ⟨Nat.le_of_ble_eq_true rfl, Nat.le_of_ble_eq_true rfl⟩) (by omega) x_8.he (T := TX7) (N := 8) rfl rfl hl rfl (Nat.le_of_ble_eq_true rfl) dL_change_268 ⟨Nat.le_of_ble_eq_true rfl, Nat.le_of_ble_eq_true rfl⟩) (fun z_86 g_87 H locs hw G => ?_)
      obtain ⟨x_88, f_89, e_90⟩ := hw
      have f_91 := frX.tr f_11 f_89
      replace e_90 := e_90.symm
      subst e_90
      have q := pe_all hok (l := lowF (shF v 6) nl) ⟨by omega, by omega⟩ (lowF more 500)
      have qq : (0 ≤ Int.tdiv (peF f (lowF (shF v 6) nl) (lowF more 500)) 1000 ∧ Int.tdiv (peF f (lowF (shF v 6) nl) (lowF more 500)) 1000 < f 0) ∧ 0 ≤ Int.tmod (peF f (lowF (shF v 6) nl) (lowF more 500)) 1000 ∧ Int.tmod (peF f (lowF (shF v 6) nl) (lowF more 500)) 1000 ≤ 300 := by rw [q.1, q.2.1]; omega
      refine lv_istore (lv' := [(6, .int (iz (peF f (lowF (shF v 6) nl) (lowF more 500)))), (5, .int (iz (lowF (shF v 6) nl))), (4, .int (iz (f 0))), (3, .int (iz nl)), (0, .ref (ad 0)), (1, .int (iz v)), (2, .int (iz more))]) C.1.1 C.1.2.1 dL_change_271 hl (by decide) rfl (fun ls hl => ?_)
      refine g_aload_n C dL_change_273 rfl hl 4 rfl ?_
      refine g_iload C dL_change_274 hl 0 rfl ?_
      refine g_sipush (a := 1000) C dL_change_276 (by decide) ?_
      refine g_idiv C (by omega) (by decide) (by decide) dL_change_279 ?_
      refine g_iload C dL_change_280 hl 0 rfl ?_
      refine g_sipush (a := 1000) C dL_change_282 (by decide) ?_
      refine g_irem C (by omega) (by decide) (by decide) dL_change_285 ?_
      refine g_ci C G (g_runVP (As := [.int (iz (Int.tdiv (peF f (lowF (shF v 6) nl) (lowF more 500)) 1000)), .int (iz (Int.tmod (peF f (lowF (shF v 6) nl) (lowF more 500)) 1000))]) (rest := []) (pos := 0) C G X (q_see l hlf κ B n ad g_87 HP nl f F9 M9 (Int.tdiv (peF f (lowF (shF v 6) nl) (lowF more 500)) 1000) (Int.tmod (peF f (lowF (shF v 6) nl) (lowF more 500)) 1000) hnn x_88 qq.1 qq.2) (cwV 2 C.1.2.2.2.2 gL_change_X7_see rfl rfl rfl (by decide +kernel) ⟨Nat.le_of_ble_eq_true rfl, Nat.le_of_ble_eq_true rfl⟩) (by omega) x_88.he (T := TX7) (N := 8) rfl rfl hl rfl (Nat.le_of_ble_eq_true rfl) dL_change_286 ⟨Nat.le_of_ble_eq_true rfl, Nat.le_of_ble_eq_true rfl⟩) (fun z_92 g_93 H locs hw G => ?_)
      obtain ⟨x_94, f_95, e_96⟩ := hw
      have f_97 := frX.tr f_91 f_95
      refine g_iret C G hr hlk (Nat.le_of_ble_eq_true rfl) (Nat.le_of_ble_eq_true rfl) dL_change_289 ?_
      have ec : chT v more nl f F9 M9 = (fitN nl (ntv f (Int.tdiv (peF f (lowF (shF v 6) nl) (lowF more 500)) 1000) (Int.tmod (peF f (lowF (shF v 6) nl) (lowF more 500)) 1000)), nl, ntv f (Int.tdiv (peF f (lowF (shF v 6) nl) (lowF more 500)) 1000) (Int.tmod (peF f (lowF (shF v 6) nl) (lowF more 500)) 1000), F9, M9) := by
        unfold chT
        rw [if_neg hz]
        unfold chG
        first | (rw [if_neg (by omega), if_neg (by omega), if_neg (by omega), if_neg (by omega), if_neg (by omega), if_neg (by omega), if_pos (by omega), if_neg hz]; done) | (rw [if_neg (by omega), if_neg (by omega), if_neg (by omega), if_neg (by omega), if_neg (by omega), if_neg (by omega), if_pos (by omega), if_neg hz]; rfl)
      rw [ec]
      exact ⟨e_96, x_94.any, f_97⟩
    by_cases e_98 : lowF v 13 = 7
    · refine g_tswIn (v := 7) (off := 192) (tgt := 229) C dL_change_37 e_98 (by decide) (by decide) (by decide) (by decide) (by decide) ?_
      refine g_iload_n C dL_change_229 rfl hl 2 rfl ?_
      refine g_if_ne (tgt := 257) C (by omega) dL_change_230 (by decide) (fun c_99 => ?_) (fun c_99 => absurd c_99 (by omega))
      refine g_aload_n C dL_change_257 rfl hl 3 rfl ?_
      refine g_iload C dL_change_258 hl 0 rfl ?_
      refine g_iload_n C dL_change_260 rfl hl 5 rfl ?_
      refine g_sipush (a := 500) C dL_change_261 (by decide) ?_
      refine g_ci C G (g_runS (As := [.int (iz more), .int (iz 500)]) (rest := [.int (iz (lowF (shF v 6) nl)), .ref (ad 0)]) C G (c_L_low l κ B n ad g_7 more 500 (by first | exact shF_in _ _ | exact rI_in _ | omega) (by omega)) (va_cwS 2 C.1.2.2.2.2 gL_change_L_low rfl rfl rfl (by decide +kernel) ⟨Nat.le_of_ble_eq_true rfl, Nat.le_of_ble_eq_true rfl⟩) rfl hl rfl (Nat.le_of_ble_eq_true rfl) dL_change_264 ⟨Nat.le_of_ble_eq_true rfl, Nat.le_of_ble_eq_true rfl⟩) (fun z_100 g9 H locs hw G => ?_)
      obtain ⟨hg9, e_101⟩ := hw
      replace hg9 := hg9.symm
      subst hg9
      have r_102 : 0 ≤ z_100 ∧ z_100 < 500 := by rw [e_101]; exact lowF_rg (by omega)
      replace e_101 := e_101.symm
      subst e_101
      refine g_i2l C (by omega) dL_change_267 ?_
      refine g_ci C G (g_runVP (As := [.int (iz (lowF (shF v 6) nl)), .long (jz (lowF more 500))]) (rest := []) (pos := 0) C G X (q_pen l hlf κ B n ad g_7 HP nl f F9 M9 (lowF (shF v 6) nl) (lowF more 500) hnn x_8 ⟨by omega, by omega⟩ (by omega)) (cwV 2 C.1.2.2.2.2 gL_change_X7_pen rfl rfl rfl (by decide +kernel) ⟨Nat.le_of_ble_eq_true rfl, Nat.le_of_ble_eq_true rfl⟩) (by omega) x_8.he (T := TX7) (N := 8) rfl rfl hl rfl (Nat.le_of_ble_eq_true rfl) dL_change_268 ⟨Nat.le_of_ble_eq_true rfl, Nat.le_of_ble_eq_true rfl⟩) (fun z_103 g_104 H locs hw G => ?_)
      obtain ⟨x_105, f_106, e_107⟩ := hw
      have f_108 := frX.tr f_11 f_106
      replace e_107 := e_107.symm
      subst e_107
      have q := pe_all hok (l := lowF (shF v 6) nl) ⟨by omega, by omega⟩ (lowF more 500)
      have qq : (0 ≤ Int.tdiv (peF f (lowF (shF v 6) nl) (lowF more 500)) 1000 ∧ Int.tdiv (peF f (lowF (shF v 6) nl) (lowF more 500)) 1000 < f 0) ∧ 0 ≤ Int.tmod (peF f (lowF (shF v 6) nl) (lowF more 500)) 1000 ∧ Int.tmod (peF f (lowF (shF v 6) nl) (lowF more 500)) 1000 ≤ 300 := by rw [q.1, q.2.1]; omega
      refine lv_istore (lv' := [(6, .int (iz (peF f (lowF (shF v 6) nl) (lowF more 500)))), (5, .int (iz (lowF (shF v 6) nl))), (4, .int (iz (f 0))), (3, .int (iz nl)), (0, .ref (ad 0)), (1, .int (iz v)), (2, .int (iz more))]) C.1.1 C.1.2.1 dL_change_271 hl (by decide) rfl (fun ls hl => ?_)
      refine g_aload_n C dL_change_273 rfl hl 4 rfl ?_
      refine g_iload C dL_change_274 hl 0 rfl ?_
      refine g_sipush (a := 1000) C dL_change_276 (by decide) ?_
      refine g_idiv C (by omega) (by decide) (by decide) dL_change_279 ?_
      refine g_iload C dL_change_280 hl 0 rfl ?_
      refine g_sipush (a := 1000) C dL_change_282 (by decide) ?_
      refine g_irem C (by omega) (by decide) (by decide) dL_change_285 ?_
      refine g_ci C G (g_runVP (As := [.int (iz (Int.tdiv (peF f (lowF (shF v 6) nl) (lowF more 500)) 1000)), .int (iz (Int.tmod (peF f (lowF (shF v 6) nl) (lowF more 500)) 1000))]) (rest := []) (pos := 0) C G X (q_see l hlf κ B n ad g_104 HP nl f F9 M9 (Int.tdiv (peF f (lowF (shF v 6) nl) (lowF more 500)) 1000) (Int.tmod (peF f (lowF (shF v 6) nl) (lowF more 500)) 1000) hnn x_105 qq.1 qq.2) (cwV 2 C.1.2.2.2.2 gL_change_X7_see rfl rfl rfl (by decide +kernel) ⟨Nat.le_of_ble_eq_true rfl, Nat.le_of_ble_eq_true rfl⟩) (by omega) x_105.he (T := TX7) (N := 8) rfl rfl hl rfl (Nat.le_of_ble_eq_true rfl) dL_change_286 ⟨Nat.le_of_ble_eq_true rfl, Nat.le_of_ble_eq_true rfl⟩) (fun z_109 g_110 H locs hw G => ?_)
      obtain ⟨x_111, f_112, e_113⟩ := hw
      have f_114 := frX.tr f_108 f_112
      refine g_iret C G hr hlk (Nat.le_of_ble_eq_true rfl) (Nat.le_of_ble_eq_true rfl) dL_change_289 ?_
      have ec : chT v more nl f F9 M9 = (fitN nl (ntv f (Int.tdiv (peF f (lowF (shF v 6) nl) (lowF more 500)) 1000) (Int.tmod (peF f (lowF (shF v 6) nl) (lowF more 500)) 1000)), nl, ntv f (Int.tdiv (peF f (lowF (shF v 6) nl) (lowF more 500)) 1000) (Int.tmod (peF f (lowF (shF v 6) nl) (lowF more 500)) 1000), F9, M9) := by
        unfold chT
        rw [if_neg hz]
        unfold chG
        first | (rw [if_neg (by omega), if_neg (by omega), if_neg (by omega), if_neg (by omega), if_neg (by omega), if_neg (by omega), if_pos (by omega), if_neg hz]; done) | (rw [if_neg (by omega), if_neg (by omega), if_neg (by omega), if_neg (by omega), if_neg (by omega), if_neg (by omega), if_pos (by omega), if_neg hz]; rfl)
      rw [ec]
      exact ⟨e_113, x_111.any, f_114⟩
    by_cases e_115 : lowF v 13 = 8
    · refine g_tswIn (v := 8) (off := 253) (tgt := 290) C dL_change_37 e_115 (by decide) (by decide) (by decide) (by decide) (by decide) ?_
      refine g_iload_n C dL_change_290 rfl hl 5 rfl ?_
      refine g_iconst (a := 3) C dL_change_291 rfl ?_
      refine g_ci C G (g_runS (As := [.int (iz more), .int (iz 3)]) (rest := []) C G (c_L_low l κ B n ad g_7 more 3 (by first | exact shF_in _ _ | exact rI_in _ | omega) (by omega)) (va_cwS 2 C.1.2.2.2.2 gL_change_L_low rfl rfl rfl (by decide +kernel) ⟨Nat.le_of_ble_eq_true rfl, Nat.le_of_ble_eq_true rfl⟩) rfl hl rfl (Nat.le_of_ble_eq_true rfl) dL_change_292 ⟨Nat.le_of_ble_eq_true rfl, Nat.le_of_ble_eq_true rfl⟩) (fun z_116 g9 H locs hw G => ?_)
      obtain ⟨hg9, e_117⟩ := hw
      replace hg9 := hg9.symm
      subst hg9
      have r_118 : 0 ≤ z_116 ∧ z_116 < 3 := by rw [e_117]; exact lowF_rg (by omega)
      replace e_117 := e_117.symm
      subst e_117
      refine g_if_ne (tgt := 305) C (by omega) dL_change_295 (by decide) (fun c_119 => ?_) (fun c_119 => ?_)
      · refine g_aload_n C dL_change_305 rfl hl 3 rfl ?_
        refine g_iload_n C dL_change_306 rfl hl 5 rfl ?_
        refine g_iload C dL_change_307 hl 1 rfl ?_
        refine g_ci C G (g_runS (As := [.int (iz more), .int (iz (f 0))]) (rest := [.ref (ad 0)]) C G (c_L_low l κ B n ad g_7 more (f 0) (by first | exact shF_in _ _ | exact rI_in _ | omega) (by omega)) (va_cwS 2 C.1.2.2.2.2 gL_change_L_low rfl rfl rfl (by decide +kernel) ⟨Nat.le_of_ble_eq_true rfl, Nat.le_of_ble_eq_true rfl⟩) rfl hl rfl (Nat.le_of_ble_eq_true rfl) dL_change_309 ⟨Nat.le_of_ble_eq_true rfl, Nat.le_of_ble_eq_true rfl⟩) (fun z_120 g9 H locs hw G => ?_)
        obtain ⟨hg9, e_121⟩ := hw
        replace hg9 := hg9.symm
        subst hg9
        have r_122 : 0 ≤ z_120 ∧ z_120 < f 0 := by rw [e_121]; exact lowF_rg (by omega)
        replace e_121 := e_121.symm
        subst e_121
        refine g_sipush (a := 180) C dL_change_312 (by decide) ?_
        refine g_iload_n C dL_change_315 rfl hl 5 rfl ?_
        refine g_bipush (a := 8) C dL_change_316 (by decide) ?_
        refine g_ishr C dL_change_318 ?_
        refine g_bipush (a := 40) C dL_change_319 (by decide) ?_
        refine g_ci C G (g_runS (As := [.int (iz (shF more 8)), .int (iz 40)]) (rest := [.int (iz 180), .int (iz (lowF more (f 0))), .ref (ad 0)]) C G (c_L_low l κ B n ad g_7 (shF more 8) 40 (by first | exact shF_in _ _ | exact rI_in _ | omega) (by omega)) (va_cwS 2 C.1.2.2.2.2 gL_change_L_low rfl rfl rfl (by decide +kernel) ⟨Nat.le_of_ble_eq_true rfl, Nat.le_of_ble_eq_true rfl⟩) rfl hl rfl (Nat.le_of_ble_eq_true rfl) dL_change_321 ⟨Nat.le_of_ble_eq_true rfl, Nat.le_of_ble_eq_true rfl⟩) (fun z_123 g9 H locs hw G => ?_)
        obtain ⟨hg9, e_124⟩ := hw
        replace hg9 := hg9.symm
        subst hg9
        have r_125 : 0 ≤ z_123 ∧ z_123 < 40 := by rw [e_124]; exact lowF_rg (by omega)
        replace e_124 := e_124.symm
        subst e_124
        refine g_iadd C dL_change_324 ?_
        refine g_ci C G (g_runVP (As := [.int (iz (lowF more (f 0))), .int (iz (180 + (lowF (shF more 8) 40)))]) (rest := []) (pos := 0) C G X (q_see l hlf κ B n ad g_7 HP nl f F9 M9 (lowF more (f 0)) (180 + (lowF (shF more 8) 40)) hnn x_8 (by omega) (by omega)) (cwV 2 C.1.2.2.2.2 gL_change_X7_see rfl rfl rfl (by decide +kernel) ⟨Nat.le_of_ble_eq_true rfl, Nat.le_of_ble_eq_true rfl⟩) (by omega) x_8.he (T := TX7) (N := 8) rfl rfl hl rfl (Nat.le_of_ble_eq_true rfl) dL_change_325 ⟨Nat.le_of_ble_eq_true rfl, Nat.le_of_ble_eq_true rfl⟩) (fun z_126 g_127 H locs hw G => ?_)
        obtain ⟨x_128, f_129, e_130⟩ := hw
        have f_131 := frX.tr f_11 f_129
        refine g_iret C G hr hlk (Nat.le_of_ble_eq_true rfl) (Nat.le_of_ble_eq_true rfl) dL_change_328 ?_
        have ec : chT v more nl f F9 M9 = (fitN nl (ntv f (lowF more (f 0)) (180 + (lowF (shF more 8) 40))), nl, ntv f (lowF more (f 0)) (180 + (lowF (shF more 8) 40)), F9, M9) := by
          unfold chT
          rw [if_neg hz]
          unfold chG
          first | (rw [if_neg (by omega), if_neg (by omega), if_neg (by omega), if_neg (by omega), if_neg (by omega), if_neg (by omega), if_neg (by omega), if_pos (by omega), if_neg (by omega)]; done) | (rw [if_neg (by omega), if_neg (by omega), if_neg (by omega), if_neg (by omega), if_neg (by omega), if_neg (by omega), if_neg (by omega), if_pos (by omega), if_neg (by omega)]; rfl)
        rw [ec]
        exact ⟨e_130, x_128.any, f_131⟩
      · refine g_aload_n C dL_change_298 rfl hl 3 rfl ?_
        refine g_ci C G (g_runVP (As := []) (rest := []) (pos := 0) C G X (q_forget l hlf κ B n ad g_7 HP nl f F9 M9 hnn x_8) (cwV 0 C.1.2.2.2.2 gL_change_X7_forget rfl rfl rfl (by decide +kernel) ⟨Nat.le_of_ble_eq_true rfl, Nat.le_of_ble_eq_true rfl⟩) (by omega) x_8.he (T := TX7) (N := 8) rfl rfl hl rfl (Nat.le_of_ble_eq_true rfl) dL_change_299 ⟨Nat.le_of_ble_eq_true rfl, Nat.le_of_ble_eq_true rfl⟩) (fun z_132 g_133 H locs hw G => ?_)
        obtain ⟨x_134, f_135, e_136⟩ := hw
        have f_137 := frX.tr f_11 f_135
        refine g_goto (tgt := 328) C dL_change_302 (by decide) ?_
        refine g_iret C G hr hlk (Nat.le_of_ble_eq_true rfl) (Nat.le_of_ble_eq_true rfl) dL_change_328 ?_
        have ec : chT v more nl f F9 M9 = (f 25, nl, vu f 25 0, F9, M9) := by
          unfold chT
          rw [if_neg hz]
          unfold chG
          first | (rw [if_neg (by omega), if_neg (by omega), if_neg (by omega), if_neg (by omega), if_neg (by omega), if_neg (by omega), if_neg (by omega), if_pos (by omega), if_pos (by omega)]; done) | (rw [if_neg (by omega), if_neg (by omega), if_neg (by omega), if_neg (by omega), if_neg (by omega), if_neg (by omega), if_neg (by omega), if_pos (by omega), if_pos (by omega)]; rfl)
        rw [ec]
        exact ⟨e_136, x_134.any, f_137⟩
    by_cases e_138 : lowF v 13 = 9
    · refine g_tswIn (v := 9) (off := 292) (tgt := 329) C dL_change_37 e_138 (by decide) (by decide) (by decide) (by decide) (by decide) ?_
      refine g_iload_n C dL_change_329 rfl hl 5 rfl ?_
      refine g_iconst (a := 2) C dL_change_330 rfl ?_
      refine g_ci C G (g_runS (As := [.int (iz more), .int (iz 2)]) (rest := []) C G (c_L_low l κ B n ad g_7 more 2 (by first | exact shF_in _ _ | exact rI_in _ | omega) (by omega)) (va_cwS 2 C.1.2.2.2.2 gL_change_L_low rfl rfl rfl (by decide +kernel) ⟨Nat.le_of_ble_eq_true rfl, Nat.le_of_ble_eq_true rfl⟩) rfl hl rfl (Nat.le_of_ble_eq_true rfl) dL_change_331 ⟨Nat.le_of_ble_eq_true rfl, Nat.le_of_ble_eq_true rfl⟩) (fun z_139 g9 H locs hw G => ?_)
      obtain ⟨hg9, e_140⟩ := hw
      replace hg9 := hg9.symm
      subst hg9
      have r_141 : 0 ≤ z_139 ∧ z_139 < 2 := by rw [e_140]; exact lowF_rg (by omega)
      replace e_140 := e_140.symm
      subst e_140
      refine g_if_ne (tgt := 351) C (by omega) dL_change_334 (by decide) (fun c_142 => ?_) (fun c_142 => ?_)
      · refine g_aload_n C dL_change_351 rfl hl 3 rfl ?_
        refine g_iload_n C dL_change_352 rfl hl 5 rfl ?_
        refine g_iconst (a := 2) C dL_change_353 rfl ?_
        refine g_ishr C dL_change_354 ?_
        refine g_iconst (a := 2) C dL_change_355 rfl ?_
        refine g_ci C G (g_runS (As := [.int (iz (shF more 2)), .int (iz 2)]) (rest := [.ref (ad 0)]) C G (c_L_low l κ B n ad g_7 (shF more 2) 2 (by first | exact shF_in _ _ | exact rI_in _ | omega) (by omega)) (va_cwS 2 C.1.2.2.2.2 gL_change_L_low rfl rfl rfl (by decide +kernel) ⟨Nat.le_of_ble_eq_true rfl, Nat.le_of_ble_eq_true rfl⟩) rfl hl rfl (Nat.le_of_ble_eq_true rfl) dL_change_356 ⟨Nat.le_of_ble_eq_true rfl, Nat.le_of_ble_eq_true rfl⟩) (fun z_143 g9 H locs hw G => ?_)
        obtain ⟨hg9, e_144⟩ := hw
        replace hg9 := hg9.symm
        subst hg9
        have r_145 : 0 ≤ z_143 ∧ z_143 < 2 := by rw [e_144]; exact lowF_rg (by omega)
        replace e_144 := e_144.symm
        subst e_144
        refine g_ci C G (g_runSXP (As := [.ref (ad 0), .int (iz (lowF (shF more 2) 2))]) (rest := []) C G X (c_L_restored l hlf κ B n ad g_7 HP nl f F9 M9 (lowF (shF more 2) 2) hnn x_8 (by omega)) (vx_cwSW (hh := [(0, 5, 6, 15)]) 2 C.1.2.2.2.2 gL_change_L_restored rfl rfl rfl (by decide +kernel) ⟨Nat.le_of_ble_eq_true rfl, Nat.le_of_ble_eq_true rfl⟩) rfl hl rfl (Nat.le_of_ble_eq_true rfl) dL_change_359 ⟨Nat.le_of_ble_eq_true rfl, Nat.le_of_ble_eq_true rfl⟩) (fun z_146 g_147 H locs hw G => ?_)
        obtain ⟨hw9, f_149⟩ := hw
        rcases hw9 with ⟨hb9, e_150, x_148⟩ | ⟨hb9, e_150, x_148⟩
        · refine g_iret C G hr hlk (Nat.le_of_ble_eq_true rfl) (Nat.le_of_ble_eq_true rfl) dL_change_362 ?_
          have ec : chT v more nl f F9 M9 = ((M9 (lowF (shF more 2) 2)).1, (M9 (lowF (shF more 2) 2)).1, (M9 (lowF (shF more 2) 2)).2, F9, M9) := by
            unfold chT
            rw [if_neg hz]
            unfold chG
            first | (rw [if_neg (by omega), if_neg (by omega), if_neg (by omega), if_neg (by omega), if_neg (by omega), if_neg (by omega), if_neg (by omega), if_neg (by omega), if_pos (by omega), if_neg (by omega), if_pos hb9]; done) | (rw [if_neg (by omega), if_neg (by omega), if_neg (by omega), if_neg (by omega), if_neg (by omega), if_neg (by omega), if_neg (by omega), if_neg (by omega), if_pos (by omega), if_neg (by omega), if_pos hb9]; rfl)
          rw [ec]
          exact ⟨e_150, x_148.any, (frX.tr f_11 f_149)⟩
        · refine g_iret C G hr hlk (Nat.le_of_ble_eq_true rfl) (Nat.le_of_ble_eq_true rfl) dL_change_362 ?_
          have ec : chT v more nl f F9 M9 = ((-1000), nl, f, F9, M9) := by
            unfold chT
            rw [if_neg hz]
            unfold chG
            first | (rw [if_neg (by omega), if_neg (by omega), if_neg (by omega), if_neg (by omega), if_neg (by omega), if_neg (by omega), if_neg (by omega), if_neg (by omega), if_pos (by omega), if_neg (by omega), if_neg (by omega)]; done) | (rw [if_neg (by omega), if_neg (by omega), if_neg (by omega), if_neg (by omega), if_neg (by omega), if_neg (by omega), if_neg (by omega), if_neg (by omega), if_pos (by omega), if_neg (by omega), if_neg (by omega)]; rfl)
          rw [ec]
          exact ⟨e_150, x_148.any, (frX.tr f_11 f_149)⟩
      · refine g_aload_n C dL_change_337 rfl hl 3 rfl ?_
        refine g_iload_n C dL_change_338 rfl hl 5 rfl ?_
        refine g_iconst (a := 2) C dL_change_339 rfl ?_
        refine g_ishr C dL_change_340 ?_
        refine g_iconst (a := 2) C dL_change_341 rfl ?_
        refine g_ci C G (g_runS (As := [.int (iz (shF more 2)), .int (iz 2)]) (rest := [.ref (ad 0)]) C G (c_L_low l κ B n ad g_7 (shF more 2) 2 (by first | exact shF_in _ _ | exact rI_in _ | omega) (by omega)) (va_cwS 2 C.1.2.2.2.2 gL_change_L_low rfl rfl rfl (by decide +kernel) ⟨Nat.le_of_ble_eq_true rfl, Nat.le_of_ble_eq_true rfl⟩) rfl hl rfl (Nat.le_of_ble_eq_true rfl) dL_change_342 ⟨Nat.le_of_ble_eq_true rfl, Nat.le_of_ble_eq_true rfl⟩) (fun z_151 g9 H locs hw G => ?_)
        obtain ⟨hg9, e_152⟩ := hw
        replace hg9 := hg9.symm
        subst hg9
        have r_153 : 0 ≤ z_151 ∧ z_151 < 2 := by rw [e_152]; exact lowF_rg (by omega)
        replace e_152 := e_152.symm
        subst e_152
        refine g_ci C G (g_runVP (As := [.int (iz (lowF (shF more 2) 2))]) (rest := []) (pos := 0) C G X (q_save l hlf κ B n ad g_7 HP nl f F9 M9 (lowF (shF more 2) 2) hnn x_8 (by omega)) (cwV 1 C.1.2.2.2.2 gL_change_X7_save rfl rfl rfl (by decide +kernel) ⟨Nat.le_of_ble_eq_true rfl, Nat.le_of_ble_eq_true rfl⟩) (by omega) x_8.he (T := TX7) (N := 8) rfl rfl hl rfl (Nat.le_of_ble_eq_true rfl) dL_change_345 ⟨Nat.le_of_ble_eq_true rfl, Nat.le_of_ble_eq_true rfl⟩) (fun z_154 g_155 H locs hw G => ?_)
        obtain ⟨x_156, f_157, e_158⟩ := hw
        have f_159 := frX.tr f_11 f_157
        refine g_goto (tgt := 362) C dL_change_348 (by decide) ?_
        refine g_iret C G hr hlk (Nat.le_of_ble_eq_true rfl) (Nat.le_of_ble_eq_true rfl) dL_change_362 ?_
        have ec : chT v more nl f F9 M9 = (nl, nl, f, vu F9 (lowF (shF more 2) 2) 1, fun i => if i = lowF (shF more 2) 2 then (nl, f) else M9 i) := by
          unfold chT
          rw [if_neg hz]
          unfold chG
          first | (rw [if_neg (by omega), if_neg (by omega), if_neg (by omega), if_neg (by omega), if_neg (by omega), if_neg (by omega), if_neg (by omega), if_neg (by omega), if_pos (by omega), if_pos (by omega)]; done) | (rw [if_neg (by omega), if_neg (by omega), if_neg (by omega), if_neg (by omega), if_neg (by omega), if_neg (by omega), if_neg (by omega), if_neg (by omega), if_pos (by omega), if_pos (by omega)]; rfl)
        rw [ec]
        exact ⟨e_158, x_156.any, f_159⟩
    refine g_tswOut (tgt := 363) C (by omega) dL_change_37 (by omega) (by decide) ?_
    refine g_iload_n C dL_change_363 rfl hl 2 rfl ?_
    refine g_bipush (a := 6) C dL_change_364 (by decide) ?_
    refine g_icmp_ne (tgt := 378) C (by omega) (by decide) dL_change_366 (by decide) (fun c_160 => ?_) (fun c_160 => ?_)
    · refine g_aload_n C dL_change_378 rfl hl 3 rfl ?_
      refine g_iconst (a := 5) C dL_change_379 rfl ?_
      refine g_iload_n C dL_change_380 rfl hl 5 rfl ?_
      refine g_bipush (a := 16) C dL_change_381 (by decide) ?_
      refine g_ci C G (g_runS (As := [.int (iz more), .int (iz 16)]) (rest := [.int (iz 5), .ref (ad 0)]) C G (c_L_low l κ B n ad g_7 more 16 (by first | exact shF_in _ _ | exact rI_in _ | omega) (by omega)) (va_cwS 2 C.1.2.2.2.2 gL_change_L_low rfl rfl rfl (by decide +kernel) ⟨Nat.le_of_ble_eq_true rfl, Nat.le_of_ble_eq_true rfl⟩) rfl hl rfl (Nat.le_of_ble_eq_true rfl) dL_change_383 ⟨Nat.le_of_ble_eq_true rfl, Nat.le_of_ble_eq_true rfl⟩) (fun z_161 g9 H locs hw G => ?_)
      obtain ⟨hg9, e_162⟩ := hw
      replace hg9 := hg9.symm
      subst hg9
      have r_163 : 0 ≤ z_161 ∧ z_161 < 16 := by rw [e_162]; exact lowF_rg (by omega)
      replace e_162 := e_162.symm
      subst e_162
      refine g_iadd C dL_change_386 ?_
      refine g_iload_n C dL_change_387 rfl hl 5 rfl ?_
      refine g_iconst (a := 5) C dL_change_388 rfl ?_
      refine g_ishr C dL_change_389 ?_
      refine g_iconst (a := 2) C dL_change_390 rfl ?_
      refine g_ci C G (g_runS (As := [.int (iz (shF more 5)), .int (iz 2)]) (rest := [.int (iz (5 + (lowF more 16))), .ref (ad 0)]) C G (c_L_low l κ B n ad g_7 (shF more 5) 2 (by first | exact shF_in _ _ | exact rI_in _ | omega) (by omega)) (va_cwS 2 C.1.2.2.2.2 gL_change_L_low rfl rfl rfl (by decide +kernel) ⟨Nat.le_of_ble_eq_true rfl, Nat.le_of_ble_eq_true rfl⟩) rfl hl rfl (Nat.le_of_ble_eq_true rfl) dL_change_391 ⟨Nat.le_of_ble_eq_true rfl, Nat.le_of_ble_eq_true rfl⟩) (fun z_164 g9 H locs hw G => ?_)
      obtain ⟨hg9, e_165⟩ := hw
      replace hg9 := hg9.symm
      subst hg9
      have r_166 : 0 ≤ z_164 ∧ z_164 < 2 := by rw [e_165]; exact lowF_rg (by omega)
      replace e_165 := e_165.symm
      subst e_165
      refine g_iload_n C dL_change_394 rfl hl 5 rfl ?_
      refine g_bipush (a := 7) C dL_change_395 (by decide) ?_
      refine g_ishr C dL_change_397 ?_
      refine g_bipush (a := 21) C dL_change_398 (by decide) ?_
      refine g_ci C G (g_runS (As := [.int (iz (shF more 7)), .int (iz 21)]) (rest := [.int (iz (lowF (shF more 5) 2)), .int (iz (5 + (lowF more 16))), .ref (ad 0)]) C G (c_L_low l κ B n ad g_7 (shF more 7) 21 (by first | exact shF_in _ _ | exact rI_in _ | omega) (by omega)) (va_cwS 2 C.1.2.2.2.2 gL_change_L_low rfl rfl rfl (by decide +kernel) ⟨Nat.le_of_ble_eq_true rfl, Nat.le_of_ble_eq_true rfl⟩) rfl hl rfl (Nat.le_of_ble_eq_true rfl) dL_change_400 ⟨Nat.le_of_ble_eq_true rfl, Nat.le_of_ble_eq_true rfl⟩) (fun z_167 g9 H locs hw G => ?_)
      obtain ⟨hg9, e_168⟩ := hw
      replace hg9 := hg9.symm
      subst hg9
      have r_169 : 0 ≤ z_167 ∧ z_167 < 21 := by rw [e_168]; exact lowF_rg (by omega)
      replace e_168 := e_168.symm
      subst e_168
      refine g_iload_n C dL_change_403 rfl hl 5 rfl ?_
      refine g_bipush (a := 13) C dL_change_404 (by decide) ?_
      refine g_ishr C dL_change_406 ?_
      refine g_iload C dL_change_407 hl 1 rfl ?_
      refine g_ci C G (g_runS (As := [.int (iz (shF more 13)), .int (iz (f 0))]) (rest := [.int (iz (lowF (shF more 7) 21)), .int (iz (lowF (shF more 5) 2)), .int (iz (5 + (lowF more 16))), .ref (ad 0)]) C G (c_L_low l κ B n ad g_7 (shF more 13) (f 0) (by first | exact shF_in _ _ | exact rI_in _ | omega) (by omega)) (va_cwS 2 C.1.2.2.2.2 gL_change_L_low rfl rfl rfl (by decide +kernel) ⟨Nat.le_of_ble_eq_true rfl, Nat.le_of_ble_eq_true rfl⟩) rfl hl rfl (Nat.le_of_ble_eq_true rfl) dL_change_409 ⟨Nat.le_of_ble_eq_true rfl, Nat.le_of_ble_eq_true rfl⟩) (fun z_170 g9 H locs hw G => ?_)
      obtain ⟨hg9, e_171⟩ := hw
      replace hg9 := hg9.symm
      subst hg9
      have r_172 : 0 ≤ z_170 ∧ z_170 < f 0 := by rw [e_171]; exact lowF_rg (by omega)
      replace e_171 := e_171.symm
      subst e_171
      refine g_ci C G (g_runVP (As := [.int (iz (5 + (lowF more 16))), .int (iz (lowF (shF more 5) 2)), .int (iz (lowF (shF more 7) 21)), .int (iz (lowF (shF more 13) (f 0)))]) (rest := []) (pos := 0) C G X (q_addLayer l hlf κ B n ad g_7 HP nl f F9 M9 (5 + (lowF more 16)) (lowF (shF more 5) 2) (lowF (shF more 7) 21) (lowF (shF more 13) (f 0)) hnn x_8 ⟨⟨by omega, by omega⟩, by omega, ⟨by omega, by omega⟩, by omega, by omega⟩ (by omega)) (cwV 4 C.1.2.2.2.2 gL_change_X7_addLayer rfl rfl rfl (by decide +kernel) ⟨Nat.le_of_ble_eq_true rfl, Nat.le_of_ble_eq_true rfl⟩) (by omega) x_8.he (T := TX7) (N := 8) rfl rfl hl rfl (Nat.le_of_ble_eq_true rfl) dL_change_412 ⟨Nat.le_of_ble_eq_true rfl, Nat.le_of_ble_eq_true rfl⟩) (fun z_173 g_174 H locs hw G => ?_)
      obtain ⟨x_175, f_176, e_177⟩ := hw
      have f_178 := frX.tr f_11 f_176
      refine g_iret C G hr hlk (Nat.le_of_ble_eq_true rfl) (Nat.le_of_ble_eq_true rfl) dL_change_415 ?_
      have ec : chT v more nl f F9 M9 = (nl, nl + 1, v4 f nl (5 + (lowF more 16)) (lowF (shF more 5) 2) (lowF (shF more 7) 21) (lowF (shF more 13) (f 0)), F9, M9) := by
        unfold chT
        rw [if_neg hz]
        unfold chG
        first | (rw [if_neg (by omega), if_neg (by omega), if_neg (by omega), if_neg (by omega), if_neg (by omega), if_neg (by omega), if_neg (by omega), if_neg (by omega), if_neg (by omega), if_neg (by omega)]; done) | (rw [if_neg (by omega), if_neg (by omega), if_neg (by omega), if_neg (by omega), if_neg (by omega), if_neg (by omega), if_neg (by omega), if_neg (by omega), if_neg (by omega), if_neg (by omega)]; rfl)
      rw [ec]
      exact ⟨e_177, x_175.any, f_178⟩
    · refine g_aload_n C dL_change_369 rfl hl 3 rfl ?_
      refine g_iload C dL_change_370 hl 0 rfl ?_
      refine g_ci C G (g_runVP (As := [.int (iz (lowF (shF v 6) nl))]) (rest := []) (pos := 0) C G X (q_remove l hlf κ B n ad g_7 HP nl f F9 M9 (lowF (shF v 6) nl) hnn x_8 ⟨by omega, by omega⟩) (cwV 1 C.1.2.2.2.2 gL_change_X7_remove rfl rfl rfl (by decide +kernel) ⟨Nat.le_of_ble_eq_true rfl, Nat.le_of_ble_eq_true rfl⟩) (by omega) x_8.he (T := TX7) (N := 8) rfl rfl hl rfl (Nat.le_of_ble_eq_true rfl) dL_change_372 ⟨Nat.le_of_ble_eq_true rfl, Nat.le_of_ble_eq_true rfl⟩) (fun z_179 g_180 H locs hw G => ?_)
      obtain ⟨x_181, f_182, e_183⟩ := hw
      have f_184 := frX.tr f_11 f_182
      refine g_goto (tgt := 415) C dL_change_375 (by decide) ?_
      refine g_iret C G hr hlk (Nat.le_of_ble_eq_true rfl) (Nat.le_of_ble_eq_true rfl) dL_change_415 ?_
      have ec : chT v more nl f F9 M9 = (nl - 1, nl - 1, drv nl f (lowF (shF v 6) nl), F9, M9) := by
        unfold chT
        rw [if_neg hz]
        unfold chG
        first | (rw [if_neg (by omega), if_neg (by omega), if_neg (by omega), if_neg (by omega), if_neg (by omega), if_neg (by omega), if_neg (by omega), if_neg (by omega), if_neg (by omega), if_pos (by omega)]; done) | (rw [if_neg (by omega), if_neg (by omega), if_neg (by omega), if_neg (by omega), if_neg (by omega), if_neg (by omega), if_neg (by omega), if_neg (by omega), if_neg (by omega), if_pos (by omega)]; rfl)
      rw [ec]
      exact ⟨e_183, x_181.any, f_184⟩
  · have hz : nl = 0 := by omega
    refine g_iconst (a := 0) C dL_change_17 rfl ?_
    refine g_goto (tgt := 29) C dL_change_18 (by decide) ?_
    refine lv_istore (lv' := [(5, .int (iz 0)), (4, .int (iz (f 0))), (3, .int (iz nl)), (0, .ref (ad 0)), (1, .int (iz v)), (2, .int (iz more))]) C.1.1 C.1.2.1 dL_change_29 hl (by decide) rfl (fun ls hl => ?_)
    refine g_iload_n C dL_change_31 rfl hl 4 rfl ?_
    refine g_bipush (a := 13) C dL_change_32 (by decide) ?_
    refine g_ci C G (g_runS (As := [.int (iz v), .int (iz 13)]) (rest := []) C G (c_L_low l κ B n ad g_7 v 13 (by first | exact shF_in _ _ | exact rI_in _ | omega) (by omega)) (va_cwS 2 C.1.2.2.2.2 gL_change_L_low rfl rfl rfl (by decide +kernel) ⟨Nat.le_of_ble_eq_true rfl, Nat.le_of_ble_eq_true rfl⟩) rfl hl rfl (Nat.le_of_ble_eq_true rfl) dL_change_34 ⟨Nat.le_of_ble_eq_true rfl, Nat.le_of_ble_eq_true rfl⟩) (fun z_185 g9 H locs hw G => ?_)
    obtain ⟨hg9, e_186⟩ := hw
    replace hg9 := hg9.symm
    subst hg9
    have r_187 : 0 ≤ z_185 ∧ z_185 < 13 := by rw [e_186]; exact lowF_rg (by omega)
    replace e_186 := e_186.symm
    subst e_186
    by_cases e_188 : lowF v 13 = 0
    · refine g_tswIn (v := 0) (off := 55) (tgt := 92) C dL_change_37 e_188 (by decide) (by decide) (by decide) (by decide) (by decide) ?_
      refine g_aload_n C dL_change_92 rfl hl 3 rfl ?_
      refine g_bipush (a := 12) C dL_change_93 (by decide) ?_
      refine g_iload_n C dL_change_95 rfl hl 5 rfl ?_
      refine g_bipush (a := 19) C dL_change_96 (by decide) ?_
      refine g_ci C G (g_runS (As := [.int (iz more), .int (iz 19)]) (rest := [.int (iz 12), .ref (ad 0)]) C G (c_L_low l κ B n ad g_7 more 19 (by first | exact shF_in _ _ | exact rI_in _ | omega) (by omega)) (va_cwS 2 C.1.2.2.2.2 gL_change_L_low rfl rfl rfl (by decide +kernel) ⟨Nat.le_of_ble_eq_true rfl, Nat.le_of_ble_eq_true rfl⟩) rfl hl rfl (Nat.le_of_ble_eq_true rfl) dL_change_98 ⟨Nat.le_of_ble_eq_true rfl, Nat.le_of_ble_eq_true rfl⟩) (fun z_189 g9 H locs hw G => ?_)
      obtain ⟨hg9, e_190⟩ := hw
      replace hg9 := hg9.symm
      subst hg9
      have r_191 : 0 ≤ z_189 ∧ z_189 < 19 := by rw [e_190]; exact lowF_rg (by omega)
      replace e_190 := e_190.symm
      subst e_190
      refine g_iadd C dL_change_101 ?_
      refine g_ci C G (g_runVP (As := [.int (iz (12 + (lowF more 19)))]) (rest := []) (pos := 0) C G X (q_setRing l hlf κ B n ad g_7 HP nl f F9 M9 (12 + (lowF more 19)) hnn x_8 (by omega)) (cwV 1 C.1.2.2.2.2 gL_change_X7_setRing rfl rfl rfl (by decide +kernel) ⟨Nat.le_of_ble_eq_true rfl, Nat.le_of_ble_eq_true rfl⟩) (by omega) x_8.he (T := TX7) (N := 8) rfl rfl hl rfl (Nat.le_of_ble_eq_true rfl) dL_change_102 ⟨Nat.le_of_ble_eq_true rfl, Nat.le_of_ble_eq_true rfl⟩) (fun z_192 g_193 H locs hw G => ?_)
      obtain ⟨x_194, f_195, e_196⟩ := hw
      have f_197 := frX.tr f_11 f_195
      refine g_iret C G hr hlk (Nat.le_of_ble_eq_true rfl) (Nat.le_of_ble_eq_true rfl) dL_change_105 ?_
      have ec : chT v more nl f F9 M9 = (f 0, nl, tkr nl f (12 + (lowF more 19)), F9, M9) := by
        unfold chT
        rw [if_pos hz]
        unfold chG
        first | (rw [if_pos (by omega)]; done) | (rw [if_pos (by omega)]; rfl)
      rw [ec]
      exact ⟨e_196, x_194.any, f_197⟩
    by_cases e_198 : lowF v 13 = 1
    · refine g_tswIn (v := 1) (off := 69) (tgt := 106) C dL_change_37 e_198 (by decide) (by decide) (by decide) (by decide) (by decide) ?_
      refine g_iload_n C dL_change_106 rfl hl 2 rfl ?_
      refine g_if_ne (tgt := 117) C (by omega) dL_change_107 (by decide) (fun c_199 => absurd c_199 (by omega)) (fun c_199 => ?_)
      refine g_aload_n C dL_change_110 rfl hl 3 rfl ?_
      refine g_ci C G (g_runVP (As := []) (rest := []) (pos := 0) C G X (q_forget l hlf κ B n ad g_7 HP nl f F9 M9 hnn x_8) (cwV 0 C.1.2.2.2.2 gL_change_X7_forget rfl rfl rfl (by decide +kernel) ⟨Nat.le_of_ble_eq_true rfl, Nat.le_of_ble_eq_true rfl⟩) (by omega) x_8.he (T := TX7) (N := 8) rfl rfl hl rfl (Nat.le_of_ble_eq_true rfl) dL_change_111 ⟨Nat.le_of_ble_eq_true rfl, Nat.le_of_ble_eq_true rfl⟩) (fun z_200 g_201 H locs hw G => ?_)
      obtain ⟨x_202, f_203, e_204⟩ := hw
      have f_205 := frX.tr f_11 f_203
      refine g_goto (tgt := 132) C dL_change_114 (by decide) ?_
      refine g_iret C G hr hlk (Nat.le_of_ble_eq_true rfl) (Nat.le_of_ble_eq_true rfl) dL_change_132 ?_
      have ec : chT v more nl f F9 M9 = (f 25, nl, vu f 25 0, F9, M9) := by
        unfold chT
        rw [if_pos hz]
        unfold chG
        first | (rw [if_neg (by omega), if_pos (by omega), if_pos hz]; done) | (rw [if_neg (by omega), if_pos (by omega), if_pos hz]; rfl)
      rw [ec]
      exact ⟨e_204, x_202.any, f_205⟩
    by_cases e_206 : lowF v 13 = 2
    · refine g_tswIn (v := 2) (off := 96) (tgt := 133) C dL_change_37 e_206 (by decide) (by decide) (by decide) (by decide) (by decide) ?_
      refine g_iload_n C dL_change_133 rfl hl 2 rfl ?_
      refine g_if_ne (tgt := 146) C (by omega) dL_change_134 (by decide) (fun c_207 => absurd c_207 (by omega)) (fun c_207 => ?_)
      refine g_aload_n C dL_change_137 rfl hl 3 rfl ?_
      refine g_bipush (a := 12) C dL_change_138 (by decide) ?_
      refine g_ci C G (g_runVP (As := [.int (iz 12)]) (rest := []) (pos := 0) C G X (q_setRing l hlf κ B n ad g_7 HP nl f F9 M9 12 hnn x_8 (by omega)) (cwV 1 C.1.2.2.2.2 gL_change_X7_setRing rfl rfl rfl (by decide +kernel) ⟨Nat.le_of_ble_eq_true rfl, Nat.le_of_ble_eq_true rfl⟩) (by omega) x_8.he (T := TX7) (N := 8) rfl rfl hl rfl (Nat.le_of_ble_eq_true rfl) dL_change_140 ⟨Nat.le_of_ble_eq_true rfl, Nat.le_of_ble_eq_true rfl⟩) (fun z_208 g_209 H locs hw G => ?_)
      obtain ⟨x_210, f_211, e_212⟩ := hw
      have f_213 := frX.tr f_11 f_211
      refine g_goto (tgt := 158) C dL_change_143 (by decide) ?_
      refine g_iret C G hr hlk (Nat.le_of_ble_eq_true rfl) (Nat.le_of_ble_eq_true rfl) dL_change_158 ?_
      have ec : chT v more nl f F9 M9 = (f 0, nl, tkr nl f 12, F9, M9) := by
        unfold chT
        rw [if_pos hz]
        unfold chG
        first | (rw [if_neg (by omega), if_neg (by omega), if_pos (by omega), if_pos hz]; done) | (rw [if_neg (by omega), if_neg (by omega), if_pos (by omega), if_pos hz]; rfl)
      rw [ec]
      exact ⟨e_212, x_210.any, f_213⟩
    by_cases e_214 : lowF v 13 = 3
    · refine g_tswIn (v := 3) (off := 122) (tgt := 159) C dL_change_37 e_214 (by decide) (by decide) (by decide) (by decide) (by decide) ?_
      refine g_iload_n C dL_change_159 rfl hl 2 rfl ?_
      refine g_if_ne (tgt := 170) C (by omega) dL_change_160 (by decide) (fun c_215 => absurd c_215 (by omega)) (fun c_215 => ?_)
      refine g_aload_n C dL_change_163 rfl hl 3 rfl ?_
      refine g_ci C G (g_runVP (As := []) (rest := []) (pos := 0) C G X (q_forget l hlf κ B n ad g_7 HP nl f F9 M9 hnn x_8) (cwV 0 C.1.2.2.2.2 gL_change_X7_forget rfl rfl rfl (by decide +kernel) ⟨Nat.le_of_ble_eq_true rfl, Nat.le_of_ble_eq_true rfl⟩) (by omega) x_8.he (T := TX7) (N := 8) rfl rfl hl rfl (Nat.le_of_ble_eq_true rfl) dL_change_164 ⟨Nat.le_of_ble_eq_true rfl, Nat.le_of_ble_eq_true rfl⟩) (fun z_216 g_217 H locs hw G => ?_)
      obtain ⟨x_218, f_219, e_220⟩ := hw
      have f_221 := frX.tr f_11 f_219
      refine g_goto (tgt := 183) C dL_change_167 (by decide) ?_
      refine g_iret C G hr hlk (Nat.le_of_ble_eq_true rfl) (Nat.le_of_ble_eq_true rfl) dL_change_183 ?_
      have ec : chT v more nl f F9 M9 = (f 25, nl, vu f 25 0, F9, M9) := by
        unfold chT
        rw [if_pos hz]
        unfold chG
        first | (rw [if_neg (by omega), if_neg (by omega), if_neg (by omega), if_pos (by omega), if_pos hz]; done) | (rw [if_neg (by omega), if_neg (by omega), if_neg (by omega), if_pos (by omega), if_pos hz]; rfl)
      rw [ec]
      exact ⟨e_220, x_218.any, f_221⟩
    by_cases e_222 : lowF v 13 = 4
    · refine g_tswIn (v := 4) (off := 147) (tgt := 184) C dL_change_37 e_222 (by decide) (by decide) (by decide) (by decide) (by decide) ?_
      refine g_iload_n C dL_change_184 rfl hl 2 rfl ?_
      refine g_if_ne (tgt := 197) C (by omega) dL_change_185 (by decide) (fun c_223 => absurd c_223 (by omega)) (fun c_223 => ?_)
      refine g_aload_n C dL_change_188 rfl hl 3 rfl ?_
      refine g_bipush (a := 24) C dL_change_189 (by decide) ?_
      refine g_ci C G (g_runVP (As := [.int (iz 24)]) (rest := []) (pos := 0) C G X (q_setRing l hlf κ B n ad g_7 HP nl f F9 M9 24 hnn x_8 (by omega)) (cwV 1 C.1.2.2.2.2 gL_change_X7_setRing rfl rfl rfl (by decide +kernel) ⟨Nat.le_of_ble_eq_true rfl, Nat.le_of_ble_eq_true rfl⟩) (by omega) x_8.he (T := TX7) (N := 8) rfl rfl hl rfl (Nat.le_of_ble_eq_true rfl) dL_change_191 ⟨Nat.le_of_ble_eq_true rfl, Nat.le_of_ble_eq_true rfl⟩) (fun z_224 g_225 H locs hw G => ?_)
      obtain ⟨x_226, f_227, e_228⟩ := hw
      have f_229 := frX.tr f_11 f_227
      refine g_goto (tgt := 210) C dL_change_194 (by decide) ?_
      refine g_iret C G hr hlk (Nat.le_of_ble_eq_true rfl) (Nat.le_of_ble_eq_true rfl) dL_change_210 ?_
      have ec : chT v more nl f F9 M9 = (f 0, nl, tkr nl f 24, F9, M9) := by
        unfold chT
        rw [if_pos hz]
        unfold chG
        first | (rw [if_neg (by omega), if_neg (by omega), if_neg (by omega), if_neg (by omega), if_pos (by omega), if_pos hz]; done) | (rw [if_neg (by omega), if_neg (by omega), if_neg (by omega), if_neg (by omega), if_pos (by omega), if_pos hz]; rfl)
      rw [ec]
      exact ⟨e_228, x_226.any, f_229⟩
    by_cases e_230 : lowF v 13 = 5
    · refine g_tswIn (v := 5) (off := 174) (tgt := 211) C dL_change_37 e_230 (by decide) (by decide) (by decide) (by decide) (by decide) ?_
      refine g_iload_n C dL_change_211 rfl hl 2 rfl ?_
      refine g_if_ne (tgt := 222) C (by omega) dL_change_212 (by decide) (fun c_231 => absurd c_231 (by omega)) (fun c_231 => ?_)
      refine g_aload_n C dL_change_215 rfl hl 3 rfl ?_
      refine g_ci C G (g_runVP (As := []) (rest := []) (pos := 0) C G X (q_forget l hlf κ B n ad g_7 HP nl f F9 M9 hnn x_8) (cwV 0 C.1.2.2.2.2 gL_change_X7_forget rfl rfl rfl (by decide +kernel) ⟨Nat.le_of_ble_eq_true rfl, Nat.le_of_ble_eq_true rfl⟩) (by omega) x_8.he (T := TX7) (N := 8) rfl rfl hl rfl (Nat.le_of_ble_eq_true rfl) dL_change_216 ⟨Nat.le_of_ble_eq_true rfl, Nat.le_of_ble_eq_true rfl⟩) (fun z_232 g_233 H locs hw G => ?_)
      obtain ⟨x_234, f_235, e_236⟩ := hw
      have f_237 := frX.tr f_11 f_235
      refine g_goto (tgt := 228) C dL_change_219 (by decide) ?_
      refine g_iret C G hr hlk (Nat.le_of_ble_eq_true rfl) (Nat.le_of_ble_eq_true rfl) dL_change_228 ?_
      have ec : chT v more nl f F9 M9 = (f 25, nl, vu f 25 0, F9, M9) := by
        unfold chT
        rw [if_pos hz]
        unfold chG
        first | (rw [if_neg (by omega), if_neg (by omega), if_neg (by omega), if_neg (by omega), if_neg (by omega), if_pos (by omega), if_pos hz]; done) | (rw [if_neg (by omega), if_neg (by omega), if_neg (by omega), if_neg (by omega), if_neg (by omega), if_pos (by omega), if_pos hz]; rfl)
      rw [ec]
      exact ⟨e_236, x_234.any, f_237⟩
    by_cases e_238 : lowF v 13 = 6
    · refine g_tswIn (v := 6) (off := 192) (tgt := 229) C dL_change_37 e_238 (by decide) (by decide) (by decide) (by decide) (by decide) ?_
      refine g_iload_n C dL_change_229 rfl hl 2 rfl ?_
      refine g_if_ne (tgt := 257) C (by omega) dL_change_230 (by decide) (fun c_239 => absurd c_239 (by omega)) (fun c_239 => ?_)
      refine g_sipush (a := 1000) C dL_change_233 (by decide) ?_
      refine g_iload_n C dL_change_236 rfl hl 5 rfl ?_
      refine g_iload C dL_change_237 hl 1 rfl ?_
      refine g_ci C G (g_runS (As := [.int (iz more), .int (iz (f 0))]) (rest := [.int (iz 1000)]) C G (c_L_low l κ B n ad g_7 more (f 0) (by first | exact shF_in _ _ | exact rI_in _ | omega) (by omega)) (va_cwS 2 C.1.2.2.2.2 gL_change_L_low rfl rfl rfl (by decide +kernel) ⟨Nat.le_of_ble_eq_true rfl, Nat.le_of_ble_eq_true rfl⟩) rfl hl rfl (Nat.le_of_ble_eq_true rfl) dL_change_239 ⟨Nat.le_of_ble_eq_true rfl, Nat.le_of_ble_eq_true rfl⟩) (fun z_240 g9 H locs hw G => ?_)
      obtain ⟨hg9, e_241⟩ := hw
      replace hg9 := hg9.symm
      subst hg9
      have r_242 : 0 ≤ z_240 ∧ z_240 < f 0 := by rw [e_241]; exact lowF_rg (by omega)
      replace e_241 := e_241.symm
      subst e_241
      refine g_imul C dL_change_242 ?_
      refine g_iload_n C dL_change_243 rfl hl 5 rfl ?_
      refine g_bipush (a := 6) C dL_change_244 (by decide) ?_
      refine g_ishr C dL_change_246 ?_
      refine g_sipush (a := 301) C dL_change_247 (by decide) ?_
      refine g_ci C G (g_runS (As := [.int (iz (shF more 6)), .int (iz 301)]) (rest := [.int (iz (1000 * (lowF more (f 0))))]) C G (c_L_low l κ B n ad g_7 (shF more 6) 301 (by first | exact shF_in _ _ | exact rI_in _ | omega) (by omega)) (va_cwS 2 C.1.2.2.2.2 gL_change_L_low rfl rfl rfl (by decide +kernel) ⟨Nat.le_of_ble_eq_true rfl, Nat.le_of_ble_eq_true rfl⟩) rfl hl rfl (Nat.le_of_ble_eq_true rfl) dL_change_250 ⟨Nat.le_of_ble_eq_true rfl, Nat.le_of_ble_eq_true rfl⟩) (fun z_243 g9 H locs hw G => ?_)
      obtain ⟨hg9, e_244⟩ := hw
      replace hg9 := hg9.symm
      subst hg9
      have r_245 : 0 ≤ z_243 ∧ z_243 < 301 := by rw [e_244]; exact lowF_rg (by omega)
      replace e_244 := e_244.symm
      subst e_244
      refine g_iadd C dL_change_253 ?_
      refine g_goto (tgt := 271) C dL_change_254 (by decide) ?_
      have t1 : Int.tdiv (1000 * lowF more (f 0) + lowF (shF more 6) 301) 1000 = lowF more (f 0) := by rw [tdiv_pos (by omega)]; omega
      have t2 : Int.tmod (1000 * lowF more (f 0) + lowF (shF more 6) 301) 1000 = lowF (shF more 6) 301 := by rw [tmod_pos (by omega)]; omega
      have qq : (0 ≤ Int.tdiv (1000 * lowF more (f 0) + lowF (shF more 6) 301) 1000 ∧ Int.tdiv (1000 * lowF more (f 0) + lowF (shF more 6) 301) 1000 < f 0) ∧ 0 ≤ Int.tmod (1000 * lowF more (f 0) + lowF (shF more 6) 301) 1000 ∧ Int.tmod (1000 * lowF more (f 0) + lowF (shF more 6) 301) 1000 ≤ 300 := by rw [t1, t2]; omega
      refine lv_istore (lv' := [(6, .int (iz ((1000 * (lowF more (f 0))) + (lowF (shF more 6) 301)))), (5, .int (iz 0)), (4, .int (iz (f 0))), (3, .int (iz nl)), (0, .ref (ad 0)), (1, .int (iz v)), (2, .int (iz more))]) C.1.1 C.1.2.1 dL_change_271 hl (by decide) rfl (fun ls hl => ?_)
      refine g_aload_n C dL_change_273 rfl hl 4 rfl ?_
      refine g_iload C dL_change_274 hl 0 rfl ?_
      refine g_sipush (a := 1000) C dL_change_276 (by decide) ?_
      refine g_idiv C (by omega) (by decide) (by decide) dL_change_279 ?_
      refine g_iload C dL_change_280 hl 0 rfl ?_
      refine g_sipush (a := 1000) C dL_change_282 (by decide) ?_
      refine g_irem C (by omega) (by decide) (by decide) dL_change_285 ?_
      refine g_ci C G (g_runVP (As := [.int (iz (Int.tdiv ((1000 * (lowF more (f 0))) + (lowF (shF more 6) 301)) 1000)), .int (iz (Int.tmod ((1000 * (lowF more (f 0))) + (lowF (shF more 6) 301)) 1000))]) (rest := []) (pos := 0) C G X (q_see l hlf κ B n ad g_7 HP nl f F9 M9 (Int.tdiv ((1000 * (lowF more (f 0))) + (lowF (shF more 6) 301)) 1000) (Int.tmod ((1000 * (lowF more (f 0))) + (lowF (shF more 6) 301)) 1000) hnn x_8 qq.1 qq.2) (cwV 2 C.1.2.2.2.2 gL_change_X7_see rfl rfl rfl (by decide +kernel) ⟨Nat.le_of_ble_eq_true rfl, Nat.le_of_ble_eq_true rfl⟩) (by omega) x_8.he (T := TX7) (N := 8) rfl rfl hl rfl (Nat.le_of_ble_eq_true rfl) dL_change_286 ⟨Nat.le_of_ble_eq_true rfl, Nat.le_of_ble_eq_true rfl⟩) (fun z_246 g_247 H locs hw G => ?_)
      obtain ⟨x_248, f_249, e_250⟩ := hw
      have f_251 := frX.tr f_11 f_249
      refine g_iret C G hr hlk (Nat.le_of_ble_eq_true rfl) (Nat.le_of_ble_eq_true rfl) dL_change_289 ?_
      have ec : chT v more nl f F9 M9 = (fitN nl (ntv f (Int.tdiv ((1000 * (lowF more (f 0))) + (lowF (shF more 6) 301)) 1000) (Int.tmod ((1000 * (lowF more (f 0))) + (lowF (shF more 6) 301)) 1000)), nl, ntv f (Int.tdiv ((1000 * (lowF more (f 0))) + (lowF (shF more 6) 301)) 1000) (Int.tmod ((1000 * (lowF more (f 0))) + (lowF (shF more 6) 301)) 1000), F9, M9) := by
        unfold chT
        rw [if_pos hz]
        unfold chG
        first | (rw [if_neg (by omega), if_neg (by omega), if_neg (by omega), if_neg (by omega), if_neg (by omega), if_neg (by omega), if_pos (by omega), if_pos hz]; done) | (rw [if_neg (by omega), if_neg (by omega), if_neg (by omega), if_neg (by omega), if_neg (by omega), if_neg (by omega), if_pos (by omega), if_pos hz]; rfl)
      rw [ec]
      exact ⟨e_250, x_248.any, f_251⟩
    by_cases e_252 : lowF v 13 = 7
    · refine g_tswIn (v := 7) (off := 192) (tgt := 229) C dL_change_37 e_252 (by decide) (by decide) (by decide) (by decide) (by decide) ?_
      refine g_iload_n C dL_change_229 rfl hl 2 rfl ?_
      refine g_if_ne (tgt := 257) C (by omega) dL_change_230 (by decide) (fun c_253 => absurd c_253 (by omega)) (fun c_253 => ?_)
      refine g_sipush (a := 1000) C dL_change_233 (by decide) ?_
      refine g_iload_n C dL_change_236 rfl hl 5 rfl ?_
      refine g_iload C dL_change_237 hl 1 rfl ?_
      refine g_ci C G (g_runS (As := [.int (iz more), .int (iz (f 0))]) (rest := [.int (iz 1000)]) C G (c_L_low l κ B n ad g_7 more (f 0) (by first | exact shF_in _ _ | exact rI_in _ | omega) (by omega)) (va_cwS 2 C.1.2.2.2.2 gL_change_L_low rfl rfl rfl (by decide +kernel) ⟨Nat.le_of_ble_eq_true rfl, Nat.le_of_ble_eq_true rfl⟩) rfl hl rfl (Nat.le_of_ble_eq_true rfl) dL_change_239 ⟨Nat.le_of_ble_eq_true rfl, Nat.le_of_ble_eq_true rfl⟩) (fun z_254 g9 H locs hw G => ?_)
      obtain ⟨hg9, e_255⟩ := hw
      replace hg9 := hg9.symm
      subst hg9
      have r_256 : 0 ≤ z_254 ∧ z_254 < f 0 := by rw [e_255]; exact lowF_rg (by omega)
      replace e_255 := e_255.symm
      subst e_255
      refine g_imul C dL_change_242 ?_
      refine g_iload_n C dL_change_243 rfl hl 5 rfl ?_
      refine g_bipush (a := 6) C dL_change_244 (by decide) ?_
      refine g_ishr C dL_change_246 ?_
      refine g_sipush (a := 301) C dL_change_247 (by decide) ?_
      refine g_ci C G (g_runS (As := [.int (iz (shF more 6)), .int (iz 301)]) (rest := [.int (iz (1000 * (lowF more (f 0))))]) C G (c_L_low l κ B n ad g_7 (shF more 6) 301 (by first | exact shF_in _ _ | exact rI_in _ | omega) (by omega)) (va_cwS 2 C.1.2.2.2.2 gL_change_L_low rfl rfl rfl (by decide +kernel) ⟨Nat.le_of_ble_eq_true rfl, Nat.le_of_ble_eq_true rfl⟩) rfl hl rfl (Nat.le_of_ble_eq_true rfl) dL_change_250 ⟨Nat.le_of_ble_eq_true rfl, Nat.le_of_ble_eq_true rfl⟩) (fun z_257 g9 H locs hw G => ?_)
      obtain ⟨hg9, e_258⟩ := hw
      replace hg9 := hg9.symm
      subst hg9
      have r_259 : 0 ≤ z_257 ∧ z_257 < 301 := by rw [e_258]; exact lowF_rg (by omega)
      replace e_258 := e_258.symm
      subst e_258
      refine g_iadd C dL_change_253 ?_
      refine g_goto (tgt := 271) C dL_change_254 (by decide) ?_
      have t1 : Int.tdiv (1000 * lowF more (f 0) + lowF (shF more 6) 301) 1000 = lowF more (f 0) := by rw [tdiv_pos (by omega)]; omega
      have t2 : Int.tmod (1000 * lowF more (f 0) + lowF (shF more 6) 301) 1000 = lowF (shF more 6) 301 := by rw [tmod_pos (by omega)]; omega
      have qq : (0 ≤ Int.tdiv (1000 * lowF more (f 0) + lowF (shF more 6) 301) 1000 ∧ Int.tdiv (1000 * lowF more (f 0) + lowF (shF more 6) 301) 1000 < f 0) ∧ 0 ≤ Int.tmod (1000 * lowF more (f 0) + lowF (shF more 6) 301) 1000 ∧ Int.tmod (1000 * lowF more (f 0) + lowF (shF more 6) 301) 1000 ≤ 300 := by rw [t1, t2]; omega
      refine lv_istore (lv' := [(6, .int (iz ((1000 * (lowF more (f 0))) + (lowF (shF more 6) 301)))), (5, .int (iz 0)), (4, .int (iz (f 0))), (3, .int (iz nl)), (0, .ref (ad 0)), (1, .int (iz v)), (2, .int (iz more))]) C.1.1 C.1.2.1 dL_change_271 hl (by decide) rfl (fun ls hl => ?_)
      refine g_aload_n C dL_change_273 rfl hl 4 rfl ?_
      refine g_iload C dL_change_274 hl 0 rfl ?_
      refine g_sipush (a := 1000) C dL_change_276 (by decide) ?_
      refine g_idiv C (by omega) (by decide) (by decide) dL_change_279 ?_
      refine g_iload C dL_change_280 hl 0 rfl ?_
      refine g_sipush (a := 1000) C dL_change_282 (by decide) ?_
      refine g_irem C (by omega) (by decide) (by decide) dL_change_285 ?_
      refine g_ci C G (g_runVP (As := [.int (iz (Int.tdiv ((1000 * (lowF more (f 0))) + (lowF (shF more 6) 301)) 1000)), .int (iz (Int.tmod ((1000 * (lowF more (f 0))) + (lowF (shF more 6) 301)) 1000))]) (rest := []) (pos := 0) C G X (q_see l hlf κ B n ad g_7 HP nl f F9 M9 (Int.tdiv ((1000 * (lowF more (f 0))) + (lowF (shF more 6) 301)) 1000) (Int.tmod ((1000 * (lowF more (f 0))) + (lowF (shF more 6) 301)) 1000) hnn x_8 qq.1 qq.2) (cwV 2 C.1.2.2.2.2 gL_change_X7_see rfl rfl rfl (by decide +kernel) ⟨Nat.le_of_ble_eq_true rfl, Nat.le_of_ble_eq_true rfl⟩) (by omega) x_8.he (T := TX7) (N := 8) rfl rfl hl rfl (Nat.le_of_ble_eq_true rfl) dL_change_286 ⟨Nat.le_of_ble_eq_true rfl, Nat.le_of_ble_eq_true rfl⟩) (fun z_260 g_261 H locs hw G => ?_)
      obtain ⟨x_262, f_263, e_264⟩ := hw
      have f_265 := frX.tr f_11 f_263
      refine g_iret C G hr hlk (Nat.le_of_ble_eq_true rfl) (Nat.le_of_ble_eq_true rfl) dL_change_289 ?_
      have ec : chT v more nl f F9 M9 = (fitN nl (ntv f (Int.tdiv ((1000 * (lowF more (f 0))) + (lowF (shF more 6) 301)) 1000) (Int.tmod ((1000 * (lowF more (f 0))) + (lowF (shF more 6) 301)) 1000)), nl, ntv f (Int.tdiv ((1000 * (lowF more (f 0))) + (lowF (shF more 6) 301)) 1000) (Int.tmod ((1000 * (lowF more (f 0))) + (lowF (shF more 6) 301)) 1000), F9, M9) := by
        unfold chT
        rw [if_pos hz]
        unfold chG
        first | (rw [if_neg (by omega), if_neg (by omega), if_neg (by omega), if_neg (by omega), if_neg (by omega), if_neg (by omega), if_pos (by omega), if_pos hz]; done) | (rw [if_neg (by omega), if_neg (by omega), if_neg (by omega), if_neg (by omega), if_neg (by omega), if_neg (by omega), if_pos (by omega), if_pos hz]; rfl)
      rw [ec]
      exact ⟨e_264, x_262.any, f_265⟩
    by_cases e_266 : lowF v 13 = 8
    · refine g_tswIn (v := 8) (off := 253) (tgt := 290) C dL_change_37 e_266 (by decide) (by decide) (by decide) (by decide) (by decide) ?_
      refine g_iload_n C dL_change_290 rfl hl 5 rfl ?_
      refine g_iconst (a := 3) C dL_change_291 rfl ?_
      refine g_ci C G (g_runS (As := [.int (iz more), .int (iz 3)]) (rest := []) C G (c_L_low l κ B n ad g_7 more 3 (by first | exact shF_in _ _ | exact rI_in _ | omega) (by omega)) (va_cwS 2 C.1.2.2.2.2 gL_change_L_low rfl rfl rfl (by decide +kernel) ⟨Nat.le_of_ble_eq_true rfl, Nat.le_of_ble_eq_true rfl⟩) rfl hl rfl (Nat.le_of_ble_eq_true rfl) dL_change_292 ⟨Nat.le_of_ble_eq_true rfl, Nat.le_of_ble_eq_true rfl⟩) (fun z_267 g9 H locs hw G => ?_)
      obtain ⟨hg9, e_268⟩ := hw
      replace hg9 := hg9.symm
      subst hg9
      have r_269 : 0 ≤ z_267 ∧ z_267 < 3 := by rw [e_268]; exact lowF_rg (by omega)
      replace e_268 := e_268.symm
      subst e_268
      refine g_if_ne (tgt := 305) C (by omega) dL_change_295 (by decide) (fun c_270 => ?_) (fun c_270 => ?_)
      · refine g_aload_n C dL_change_305 rfl hl 3 rfl ?_
        refine g_iload_n C dL_change_306 rfl hl 5 rfl ?_
        refine g_iload C dL_change_307 hl 1 rfl ?_
        refine g_ci C G (g_runS (As := [.int (iz more), .int (iz (f 0))]) (rest := [.ref (ad 0)]) C G (c_L_low l κ B n ad g_7 more (f 0) (by first | exact shF_in _ _ | exact rI_in _ | omega) (by omega)) (va_cwS 2 C.1.2.2.2.2 gL_change_L_low rfl rfl rfl (by decide +kernel) ⟨Nat.le_of_ble_eq_true rfl, Nat.le_of_ble_eq_true rfl⟩) rfl hl rfl (Nat.le_of_ble_eq_true rfl) dL_change_309 ⟨Nat.le_of_ble_eq_true rfl, Nat.le_of_ble_eq_true rfl⟩) (fun z_271 g9 H locs hw G => ?_)
        obtain ⟨hg9, e_272⟩ := hw
        replace hg9 := hg9.symm
        subst hg9
        have r_273 : 0 ≤ z_271 ∧ z_271 < f 0 := by rw [e_272]; exact lowF_rg (by omega)
        replace e_272 := e_272.symm
        subst e_272
        refine g_sipush (a := 180) C dL_change_312 (by decide) ?_
        refine g_iload_n C dL_change_315 rfl hl 5 rfl ?_
        refine g_bipush (a := 8) C dL_change_316 (by decide) ?_
        refine g_ishr C dL_change_318 ?_
        refine g_bipush (a := 40) C dL_change_319 (by decide) ?_
        refine g_ci C G (g_runS (As := [.int (iz (shF more 8)), .int (iz 40)]) (rest := [.int (iz 180), .int (iz (lowF more (f 0))), .ref (ad 0)]) C G (c_L_low l κ B n ad g_7 (shF more 8) 40 (by first | exact shF_in _ _ | exact rI_in _ | omega) (by omega)) (va_cwS 2 C.1.2.2.2.2 gL_change_L_low rfl rfl rfl (by decide +kernel) ⟨Nat.le_of_ble_eq_true rfl, Nat.le_of_ble_eq_true rfl⟩) rfl hl rfl (Nat.le_of_ble_eq_true rfl) dL_change_321 ⟨Nat.le_of_ble_eq_true rfl, Nat.le_of_ble_eq_true rfl⟩) (fun z_274 g9 H locs hw G => ?_)
        obtain ⟨hg9, e_275⟩ := hw
        replace hg9 := hg9.symm
        subst hg9
        have r_276 : 0 ≤ z_274 ∧ z_274 < 40 := by rw [e_275]; exact lowF_rg (by omega)
        replace e_275 := e_275.symm
        subst e_275
        refine g_iadd C dL_change_324 ?_
        refine g_ci C G (g_runVP (As := [.int (iz (lowF more (f 0))), .int (iz (180 + (lowF (shF more 8) 40)))]) (rest := []) (pos := 0) C G X (q_see l hlf κ B n ad g_7 HP nl f F9 M9 (lowF more (f 0)) (180 + (lowF (shF more 8) 40)) hnn x_8 (by omega) (by omega)) (cwV 2 C.1.2.2.2.2 gL_change_X7_see rfl rfl rfl (by decide +kernel) ⟨Nat.le_of_ble_eq_true rfl, Nat.le_of_ble_eq_true rfl⟩) (by omega) x_8.he (T := TX7) (N := 8) rfl rfl hl rfl (Nat.le_of_ble_eq_true rfl) dL_change_325 ⟨Nat.le_of_ble_eq_true rfl, Nat.le_of_ble_eq_true rfl⟩) (fun z_277 g_278 H locs hw G => ?_)
        obtain ⟨x_279, f_280, e_281⟩ := hw
        have f_282 := frX.tr f_11 f_280
        refine g_iret C G hr hlk (Nat.le_of_ble_eq_true rfl) (Nat.le_of_ble_eq_true rfl) dL_change_328 ?_
        have ec : chT v more nl f F9 M9 = (fitN nl (ntv f (lowF more (f 0)) (180 + (lowF (shF more 8) 40))), nl, ntv f (lowF more (f 0)) (180 + (lowF (shF more 8) 40)), F9, M9) := by
          unfold chT
          rw [if_pos hz]
          unfold chG
          first | (rw [if_neg (by omega), if_neg (by omega), if_neg (by omega), if_neg (by omega), if_neg (by omega), if_neg (by omega), if_neg (by omega), if_pos (by omega), if_neg (by omega)]; done) | (rw [if_neg (by omega), if_neg (by omega), if_neg (by omega), if_neg (by omega), if_neg (by omega), if_neg (by omega), if_neg (by omega), if_pos (by omega), if_neg (by omega)]; rfl)
        rw [ec]
        exact ⟨e_281, x_279.any, f_282⟩
      · refine g_aload_n C dL_change_298 rfl hl 3 rfl ?_
        refine g_ci C G (g_runVP (As := []) (rest := []) (pos := 0) C G X (q_forget l hlf κ B n ad g_7 HP nl f F9 M9 hnn x_8) (cwV 0 C.1.2.2.2.2 gL_change_X7_forget rfl rfl rfl (by decide +kernel) ⟨Nat.le_of_ble_eq_true rfl, Nat.le_of_ble_eq_true rfl⟩) (by omega) x_8.he (T := TX7) (N := 8) rfl rfl hl rfl (Nat.le_of_ble_eq_true rfl) dL_change_299 ⟨Nat.le_of_ble_eq_true rfl, Nat.le_of_ble_eq_true rfl⟩) (fun z_283 g_284 H locs hw G => ?_)
        obtain ⟨x_285, f_286, e_287⟩ := hw
        have f_288 := frX.tr f_11 f_286
        refine g_goto (tgt := 328) C dL_change_302 (by decide) ?_
        refine g_iret C G hr hlk (Nat.le_of_ble_eq_true rfl) (Nat.le_of_ble_eq_true rfl) dL_change_328 ?_
        have ec : chT v more nl f F9 M9 = (f 25, nl, vu f 25 0, F9, M9) := by
          unfold chT
          rw [if_pos hz]
          unfold chG
          first | (rw [if_neg (by omega), if_neg (by omega), if_neg (by omega), if_neg (by omega), if_neg (by omega), if_neg (by omega), if_neg (by omega), if_pos (by omega), if_pos (by omega)]; done) | (rw [if_neg (by omega), if_neg (by omega), if_neg (by omega), if_neg (by omega), if_neg (by omega), if_neg (by omega), if_neg (by omega), if_pos (by omega), if_pos (by omega)]; rfl)
        rw [ec]
        exact ⟨e_287, x_285.any, f_288⟩
    by_cases e_289 : lowF v 13 = 9
    · refine g_tswIn (v := 9) (off := 292) (tgt := 329) C dL_change_37 e_289 (by decide) (by decide) (by decide) (by decide) (by decide) ?_
      refine g_iload_n C dL_change_329 rfl hl 5 rfl ?_
      refine g_iconst (a := 2) C dL_change_330 rfl ?_
      refine g_ci C G (g_runS (As := [.int (iz more), .int (iz 2)]) (rest := []) C G (c_L_low l κ B n ad g_7 more 2 (by first | exact shF_in _ _ | exact rI_in _ | omega) (by omega)) (va_cwS 2 C.1.2.2.2.2 gL_change_L_low rfl rfl rfl (by decide +kernel) ⟨Nat.le_of_ble_eq_true rfl, Nat.le_of_ble_eq_true rfl⟩) rfl hl rfl (Nat.le_of_ble_eq_true rfl) dL_change_331 ⟨Nat.le_of_ble_eq_true rfl, Nat.le_of_ble_eq_true rfl⟩) (fun z_290 g9 H locs hw G => ?_)
      obtain ⟨hg9, e_291⟩ := hw
      replace hg9 := hg9.symm
      subst hg9
      have r_292 : 0 ≤ z_290 ∧ z_290 < 2 := by rw [e_291]; exact lowF_rg (by omega)
      replace e_291 := e_291.symm
      subst e_291
      refine g_if_ne (tgt := 351) C (by omega) dL_change_334 (by decide) (fun c_293 => ?_) (fun c_293 => ?_)
      · refine g_aload_n C dL_change_351 rfl hl 3 rfl ?_
        refine g_iload_n C dL_change_352 rfl hl 5 rfl ?_
        refine g_iconst (a := 2) C dL_change_353 rfl ?_
        refine g_ishr C dL_change_354 ?_
        refine g_iconst (a := 2) C dL_change_355 rfl ?_
        refine g_ci C G (g_runS (As := [.int (iz (shF more 2)), .int (iz 2)]) (rest := [.ref (ad 0)]) C G (c_L_low l κ B n ad g_7 (shF more 2) 2 (by first | exact shF_in _ _ | exact rI_in _ | omega) (by omega)) (va_cwS 2 C.1.2.2.2.2 gL_change_L_low rfl rfl rfl (by decide +kernel) ⟨Nat.le_of_ble_eq_true rfl, Nat.le_of_ble_eq_true rfl⟩) rfl hl rfl (Nat.le_of_ble_eq_true rfl) dL_change_356 ⟨Nat.le_of_ble_eq_true rfl, Nat.le_of_ble_eq_true rfl⟩) (fun z_294 g9 H locs hw G => ?_)
        obtain ⟨hg9, e_295⟩ := hw
        replace hg9 := hg9.symm
        subst hg9
        have r_296 : 0 ≤ z_294 ∧ z_294 < 2 := by rw [e_295]; exact lowF_rg (by omega)
        replace e_295 := e_295.symm
        subst e_295
        refine g_ci C G (g_runSXP (As := [.ref (ad 0), .int (iz (lowF (shF more 2) 2))]) (rest := []) C G X (c_L_restored l hlf κ B n ad g_7 HP nl f F9 M9 (lowF (shF more 2) 2) hnn x_8 (by omega)) (vx_cwSW (hh := [(0, 5, 6, 15)]) 2 C.1.2.2.2.2 gL_change_L_restored rfl rfl rfl (by decide +kernel) ⟨Nat.le_of_ble_eq_true rfl, Nat.le_of_ble_eq_true rfl⟩) rfl hl rfl (Nat.le_of_ble_eq_true rfl) dL_change_359 ⟨Nat.le_of_ble_eq_true rfl, Nat.le_of_ble_eq_true rfl⟩) (fun z_297 g_298 H locs hw G => ?_)
        obtain ⟨hw9, f_300⟩ := hw
        rcases hw9 with ⟨hb9, e_301, x_299⟩ | ⟨hb9, e_301, x_299⟩
        · refine g_iret C G hr hlk (Nat.le_of_ble_eq_true rfl) (Nat.le_of_ble_eq_true rfl) dL_change_362 ?_
          have ec : chT v more nl f F9 M9 = ((M9 (lowF (shF more 2) 2)).1, (M9 (lowF (shF more 2) 2)).1, (M9 (lowF (shF more 2) 2)).2, F9, M9) := by
            unfold chT
            rw [if_pos hz]
            unfold chG
            first | (rw [if_neg (by omega), if_neg (by omega), if_neg (by omega), if_neg (by omega), if_neg (by omega), if_neg (by omega), if_neg (by omega), if_neg (by omega), if_pos (by omega), if_neg (by omega), if_pos hb9]; done) | (rw [if_neg (by omega), if_neg (by omega), if_neg (by omega), if_neg (by omega), if_neg (by omega), if_neg (by omega), if_neg (by omega), if_neg (by omega), if_pos (by omega), if_neg (by omega), if_pos hb9]; rfl)
          rw [ec]
          exact ⟨e_301, x_299.any, (frX.tr f_11 f_300)⟩
        · refine g_iret C G hr hlk (Nat.le_of_ble_eq_true rfl) (Nat.le_of_ble_eq_true rfl) dL_change_362 ?_
          have ec : chT v more nl f F9 M9 = ((-1000), nl, f, F9, M9) := by
            unfold chT
            rw [if_pos hz]
            unfold chG
            first | (rw [if_neg (by omega), if_neg (by omega), if_neg (by omega), if_neg (by omega), if_neg (by omega), if_neg (by omega), if_neg (by omega), if_neg (by omega), if_pos (by omega), if_neg (by omega), if_neg (by omega)]; done) | (rw [if_neg (by omega), if_neg (by omega), if_neg (by omega), if_neg (by omega), if_neg (by omega), if_neg (by omega), if_neg (by omega), if_neg (by omega), if_pos (by omega), if_neg (by omega), if_neg (by omega)]; rfl)
          rw [ec]
          exact ⟨e_301, x_299.any, (frX.tr f_11 f_300)⟩
      · refine g_aload_n C dL_change_337 rfl hl 3 rfl ?_
        refine g_iload_n C dL_change_338 rfl hl 5 rfl ?_
        refine g_iconst (a := 2) C dL_change_339 rfl ?_
        refine g_ishr C dL_change_340 ?_
        refine g_iconst (a := 2) C dL_change_341 rfl ?_
        refine g_ci C G (g_runS (As := [.int (iz (shF more 2)), .int (iz 2)]) (rest := [.ref (ad 0)]) C G (c_L_low l κ B n ad g_7 (shF more 2) 2 (by first | exact shF_in _ _ | exact rI_in _ | omega) (by omega)) (va_cwS 2 C.1.2.2.2.2 gL_change_L_low rfl rfl rfl (by decide +kernel) ⟨Nat.le_of_ble_eq_true rfl, Nat.le_of_ble_eq_true rfl⟩) rfl hl rfl (Nat.le_of_ble_eq_true rfl) dL_change_342 ⟨Nat.le_of_ble_eq_true rfl, Nat.le_of_ble_eq_true rfl⟩) (fun z_302 g9 H locs hw G => ?_)
        obtain ⟨hg9, e_303⟩ := hw
        replace hg9 := hg9.symm
        subst hg9
        have r_304 : 0 ≤ z_302 ∧ z_302 < 2 := by rw [e_303]; exact lowF_rg (by omega)
        replace e_303 := e_303.symm
        subst e_303
        refine g_ci C G (g_runVP (As := [.int (iz (lowF (shF more 2) 2))]) (rest := []) (pos := 0) C G X (q_save l hlf κ B n ad g_7 HP nl f F9 M9 (lowF (shF more 2) 2) hnn x_8 (by omega)) (cwV 1 C.1.2.2.2.2 gL_change_X7_save rfl rfl rfl (by decide +kernel) ⟨Nat.le_of_ble_eq_true rfl, Nat.le_of_ble_eq_true rfl⟩) (by omega) x_8.he (T := TX7) (N := 8) rfl rfl hl rfl (Nat.le_of_ble_eq_true rfl) dL_change_345 ⟨Nat.le_of_ble_eq_true rfl, Nat.le_of_ble_eq_true rfl⟩) (fun z_305 g_306 H locs hw G => ?_)
        obtain ⟨x_307, f_308, e_309⟩ := hw
        have f_310 := frX.tr f_11 f_308
        refine g_goto (tgt := 362) C dL_change_348 (by decide) ?_
        refine g_iret C G hr hlk (Nat.le_of_ble_eq_true rfl) (Nat.le_of_ble_eq_true rfl) dL_change_362 ?_
        have ec : chT v more nl f F9 M9 = (nl, nl, f, vu F9 (lowF (shF more 2) 2) 1, fun i => if i = lowF (shF more 2) 2 then (nl, f) else M9 i) := by
          unfold chT
          rw [if_pos hz]
          unfold chG
          first | (rw [if_neg (by omega), if_neg (by omega), if_neg (by omega), if_neg (by omega), if_neg (by omega), if_neg (by omega), if_neg (by omega), if_neg (by omega), if_pos (by omega), if_pos (by omega)]; done) | (rw [if_neg (by omega), if_neg (by omega), if_neg (by omega), if_neg (by omega), if_neg (by omega), if_neg (by omega), if_neg (by omega), if_neg (by omega), if_pos (by omega), if_pos (by omega)]; rfl)
        rw [ec]
        exact ⟨e_309, x_307.any, f_310⟩
    refine g_tswOut (tgt := 363) C (by omega) dL_change_37 (by omega) (by decide) ?_
    refine g_iload_n C dL_change_363 rfl hl 2 rfl ?_
    refine g_bipush (a := 6) C dL_change_364 (by decide) ?_
    refine g_icmp_ne (tgt := 378) C (by omega) (by decide) dL_change_366 (by decide) (fun c_311 => ?_) (fun c_311 => ?_)
    · refine g_aload_n C dL_change_378 rfl hl 3 rfl ?_
      refine g_iconst (a := 5) C dL_change_379 rfl ?_
      refine g_iload_n C dL_change_380 rfl hl 5 rfl ?_
      refine g_bipush (a := 16) C dL_change_381 (by decide) ?_
      refine g_ci C G (g_runS (As := [.int (iz more), .int (iz 16)]) (rest := [.int (iz 5), .ref (ad 0)]) C G (c_L_low l κ B n ad g_7 more 16 (by first | exact shF_in _ _ | exact rI_in _ | omega) (by omega)) (va_cwS 2 C.1.2.2.2.2 gL_change_L_low rfl rfl rfl (by decide +kernel) ⟨Nat.le_of_ble_eq_true rfl, Nat.le_of_ble_eq_true rfl⟩) rfl hl rfl (Nat.le_of_ble_eq_true rfl) dL_change_383 ⟨Nat.le_of_ble_eq_true rfl, Nat.le_of_ble_eq_true rfl⟩) (fun z_312 g9 H locs hw G => ?_)
      obtain ⟨hg9, e_313⟩ := hw
      replace hg9 := hg9.symm
      subst hg9
      have r_314 : 0 ≤ z_312 ∧ z_312 < 16 := by rw [e_313]; exact lowF_rg (by omega)
      replace e_313 := e_313.symm
      subst e_313
      refine g_iadd C dL_change_386 ?_
      refine g_iload_n C dL_change_387 rfl hl 5 rfl ?_
      refine g_iconst (a := 5) C dL_change_388 rfl ?_
      refine g_ishr C dL_change_389 ?_
      refine g_iconst (a := 2) C dL_change_390 rfl ?_
      refine g_ci C G (g_runS (As := [.int (iz (shF more 5)), .int (iz 2)]) (rest := [.int (iz (5 + (lowF more 16))), .ref (ad 0)]) C G (c_L_low l κ B n ad g_7 (shF more 5) 2 (by first | exact shF_in _ _ | exact rI_in _ | omega) (by omega)) (va_cwS 2 C.1.2.2.2.2 gL_change_L_low rfl rfl rfl (by decide +kernel) ⟨Nat.le_of_ble_eq_true rfl, Nat.le_of_ble_eq_true rfl⟩) rfl hl rfl (Nat.le_of_ble_eq_true rfl) dL_change_391 ⟨Nat.le_of_ble_eq_true rfl, Nat.le_of_ble_eq_true rfl⟩) (fun z_315 g9 H locs hw G => ?_)
      obtain ⟨hg9, e_316⟩ := hw
      replace hg9 := hg9.symm
      subst hg9
      have r_317 : 0 ≤ z_315 ∧ z_315 < 2 := by rw [e_316]; exact lowF_rg (by omega)
      replace e_316 := e_316.symm
      subst e_316
      refine g_iload_n C dL_change_394 rfl hl 5 rfl ?_
      refine g_bipush (a := 7) C dL_change_395 (by decide) ?_
      refine g_ishr C dL_change_397 ?_
      refine g_bipush (a := 21) C dL_change_398 (by decide) ?_
      refine g_ci C G (g_runS (As := [.int (iz (shF more 7)), .int (iz 21)]) (rest := [.int (iz (lowF (shF more 5) 2)), .int (iz (5 + (lowF more 16))), .ref (ad 0)]) C G (c_L_low l κ B n ad g_7 (shF more 7) 21 (by first | exact shF_in _ _ | exact rI_in _ | omega) (by omega)) (va_cwS 2 C.1.2.2.2.2 gL_change_L_low rfl rfl rfl (by decide +kernel) ⟨Nat.le_of_ble_eq_true rfl, Nat.le_of_ble_eq_true rfl⟩) rfl hl rfl (Nat.le_of_ble_eq_true rfl) dL_change_400 ⟨Nat.le_of_ble_eq_true rfl, Nat.le_of_ble_eq_true rfl⟩) (fun z_318 g9 H locs hw G => ?_)
      obtain ⟨hg9, e_319⟩ := hw
      replace hg9 := hg9.symm
      subst hg9
      have r_320 : 0 ≤ z_318 ∧ z_318 < 21 := by rw [e_319]; exact lowF_rg (by omega)
      replace e_319 := e_319.symm
      subst e_319
      refine g_iload_n C dL_change_403 rfl hl 5 rfl ?_
      refine g_bipush (a := 13) C dL_change_404 (by decide) ?_
      refine g_ishr C dL_change_406 ?_
      refine g_iload C dL_change_407 hl 1 rfl ?_
      refine g_ci C G (g_runS (As := [.int (iz (shF more 13)), .int (iz (f 0))]) (rest := [.int (iz (lowF (shF more 7) 21)), .int (iz (lowF (shF more 5) 2)), .int (iz (5 + (lowF more 16))), .ref (ad 0)]) C G (c_L_low l κ B n ad g_7 (shF more 13) (f 0) (by first | exact shF_in _ _ | exact rI_in _ | omega) (by omega)) (va_cwS 2 C.1.2.2.2.2 gL_change_L_low rfl rfl rfl (by decide +kernel) ⟨Nat.le_of_ble_eq_true rfl, Nat.le_of_ble_eq_true rfl⟩) rfl hl rfl (Nat.le_of_ble_eq_true rfl) dL_change_409 ⟨Nat.le_of_ble_eq_true rfl, Nat.le_of_ble_eq_true rfl⟩) (fun z_321 g9 H locs hw G => ?_)
      obtain ⟨hg9, e_322⟩ := hw
      replace hg9 := hg9.symm
      subst hg9
      have r_323 : 0 ≤ z_321 ∧ z_321 < f 0 := by rw [e_322]; exact lowF_rg (by omega)
      replace e_322 := e_322.symm
      subst e_322
      refine g_ci C G (g_runVP (As := [.int (iz (5 + (lowF more 16))), .int (iz (lowF (shF more 5) 2)), .int (iz (lowF (shF more 7) 21)), .int (iz (lowF (shF more 13) (f 0)))]) (rest := []) (pos := 0) C G X (q_addLayer l hlf κ B n ad g_7 HP nl f F9 M9 (5 + (lowF more 16)) (lowF (shF more 5) 2) (lowF (shF more 7) 21) (lowF (shF more 13) (f 0)) hnn x_8 ⟨⟨by omega, by omega⟩, by omega, ⟨by omega, by omega⟩, by omega, by omega⟩ (by omega)) (cwV 4 C.1.2.2.2.2 gL_change_X7_addLayer rfl rfl rfl (by decide +kernel) ⟨Nat.le_of_ble_eq_true rfl, Nat.le_of_ble_eq_true rfl⟩) (by omega) x_8.he (T := TX7) (N := 8) rfl rfl hl rfl (Nat.le_of_ble_eq_true rfl) dL_change_412 ⟨Nat.le_of_ble_eq_true rfl, Nat.le_of_ble_eq_true rfl⟩) (fun z_324 g_325 H locs hw G => ?_)
      obtain ⟨x_326, f_327, e_328⟩ := hw
      have f_329 := frX.tr f_11 f_327
      refine g_iret C G hr hlk (Nat.le_of_ble_eq_true rfl) (Nat.le_of_ble_eq_true rfl) dL_change_415 ?_
      have ec : chT v more nl f F9 M9 = (nl, nl + 1, v4 f nl (5 + (lowF more 16)) (lowF (shF more 5) 2) (lowF (shF more 7) 21) (lowF (shF more 13) (f 0)), F9, M9) := by
        unfold chT
        rw [if_pos hz]
        unfold chG
        first | (rw [if_neg (by omega), if_neg (by omega), if_neg (by omega), if_neg (by omega), if_neg (by omega), if_neg (by omega), if_neg (by omega), if_neg (by omega), if_neg (by omega), if_neg (by omega)]; done) | (rw [if_neg (by omega), if_neg (by omega), if_neg (by omega), if_neg (by omega), if_neg (by omega), if_neg (by omega), if_neg (by omega), if_neg (by omega), if_neg (by omega), if_neg (by omega)]; rfl)
      rw [ec]
      exact ⟨e_328, x_326.any, f_329⟩
    · refine g_aload_n C dL_change_369 rfl hl 3 rfl ?_
      refine g_iload C dL_change_370 hl 0 rfl ?_
      refine g_ci C G (g_runVP (As := [.int (iz 0)]) (rest := []) (pos := 0) C G X (q_remove l hlf κ B n ad g_7 HP nl f F9 M9 0 hnn x_8 ⟨by omega, by omega⟩) (cwV 1 C.1.2.2.2.2 gL_change_X7_remove rfl rfl rfl (by decide +kernel) ⟨Nat.le_of_ble_eq_true rfl, Nat.le_of_ble_eq_true rfl⟩) (by omega) x_8.he (T := TX7) (N := 8) rfl rfl hl rfl (Nat.le_of_ble_eq_true rfl) dL_change_372 ⟨Nat.le_of_ble_eq_true rfl, Nat.le_of_ble_eq_true rfl⟩) (fun z_330 g_331 H locs hw G => ?_)
      obtain ⟨x_332, f_333, e_334⟩ := hw
      have f_335 := frX.tr f_11 f_333
      refine g_goto (tgt := 415) C dL_change_375 (by decide) ?_
      refine g_iret C G hr hlk (Nat.le_of_ble_eq_true rfl) (Nat.le_of_ble_eq_true rfl) dL_change_415 ?_
      have ec : chT v more nl f F9 M9 = (nl - 1, nl - 1, drv nl f 0, F9, M9) := by
        unfold chT
        rw [if_pos hz]
        unfold chG
        first | (rw [if_neg (by omega), if_neg (by omega), if_neg (by omega), if_neg (by omega), if_neg (by omega), if_neg (by omega), if_neg (by omega), if_neg (by omega), if_neg (by omega), if_pos (by omega)]; done) | (rw [if_neg (by omega), if_neg (by omega), if_neg (by omega), if_neg (by omega), if_neg (by omega), if_neg (by omega), if_neg (by omega), if_neg (by omega), if_neg (by omega), if_pos (by omega)]; rfl)
      rw [ec]
      exact ⟨e_334, x_332.any, f_335⟩
