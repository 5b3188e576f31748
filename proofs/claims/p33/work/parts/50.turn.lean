/-! THE LAW: one turn -/
section GCELL
variable {p : Program} {l : Launch} {e : Env} {s : State} {m : MethodId} {args : Array Value} {below : List Frame} {meth : Method} {c : Code} {H : Heap} {locs : List Loc} {cells slots : Nat} {Q : State → Prop}
variable {pc : Nat} {ls : Array Slot} {rest : List Value} {κ : gKap} {B n : Nat} {ad : Nat → Nat} {g : Nat → va_E} {b L : Nat} {xs : Nat → Int32}
theorem g_cell (C : gC p c cL_law 8 s m args wsL_law RL κ B n ad) (G : gG κ B n ad s g H locs) (hXs : va_X b L xs s s.heap) (hbl : b < s.heap.size) (hB : B = s.heap.size) (hL : L ≤ 260) {k : Int} (hk : 0 ≤ k ∧ k ≤ 100) {lv : List (Nat × Value)} (hl : lv_has ls 8 lv) (hW : (rest.map fun v => v.category).sum ≤ 8) (d : decode cL_law pc = .ok (.invokestatic 105, 3)) (hf : cells + 0 ≤ room_1.cells ∧ slots + 0 ≤ room_1.slots)
    (kk : ∀ (H1 : Heap) (locs1 : List Loc), gG κ B n ad s g H1 locs1 → W p l e room_1 s m args below meth c H1 locs1 (cells + 0) (slots + 0) Q (F0 m (pc + 3) ls (.int (iz (ceF L xs k)) :: rest))) : W p l e room_1 s m args below meth c H locs cells slots Q (F0 m pc ls (.int (iz k) :: .ref b :: rest)) := by
  have hbH : b < H.size := Nat.lt_of_lt_of_le hbl G.2.1
  have hBH : B ≤ H.size := by rw [hB]; exact G.2.1
  have hkeep : H[b]? = s.heap[b]? := G.2.2.1 b hbl (fun q => by have q2 : B ≤ b := q; omega)
  have run : va_Run p l e room_1 s m args below meth c H locs cells slots 0 0 (F0 m pc ls (.int (iz k) :: .ref b :: rest)) rest (gQi κ H.size 0 ad (fun z g' => z = ceF L xs k) ([Value.ref b, Value.int (iz k)] : List Value).toArray) (gFree H.size) :=
    va_runS C.1 (c_L_cell l κ H.size b L xs ad g k hk hL) (va_cwS 2 C.1.2.2.2.2 gL_law_L_cell rfl rfl rfl (by decide +kernel) ⟨Nat.le_of_ble_eq_true rfl, Nat.le_of_ble_eq_true rfl⟩) ⟨gPreS.blind, fun U hU hW => ⟨rfl, ⟨by rw [hU]; exact Nat.le_refl _, fun k q hq => absurd (gW_of hq).1 (by omega), C.2.1.warm hW, ⟨fun i j hi => absurd hi (by omega), fun i hi => absurd hi (by omega)⟩⟩, by rw [hU]; exact (hXs.moved hW.alike).kept hkeep, hbH⟩⟩ rfl rfl hl.1 rfl (lv_room hW) d hf
  refine va_calli run G.2 (fun q hq h => by have h2 : H.size ≤ q := h; omega) (fun q h => Nat.le_trans hBH h) (fun r u t H1 locs1 ht hvm hw hB1 hz1 hk1 hS => ?_)
  obtain ⟨z, rfl, hz⟩ := hw
  subst hz
  subst ht
  refine kk t.heap locs1 ⟨G.1.kept (fun i q hq => hk1 _ ((G.1 i q hq).lt) (fun h => ?_)), hS⟩
  have h2 : H.size ≤ q.1 := h
  have h3 := (G.1 i q hq).lt
  omega
end GCELL
section LAWT
variable {p : Program} {l : Launch} {e : Env} {s : State} {m : MethodId} {args : Array Value} {below : List Frame} {meth : Method} {c : Code} {Q : State → Prop} {κ : gKap} {B : Nat} {ad : Nat → Nat} {b L : Nat} {xs : Nat → Int32}
set_option maxHeartbeats 4000000 in
set_option maxRecDepth 100000 in
theorem law_turn (hlf : l.stackTraces = false) (C : gC p c cL_law 8 s m args wsL_law RL κ B 384 ad) (X : gX B s) (hXs : va_X b L xs s s.heap) (hbl : b < s.heap.size) (hB : B = s.heap.size) (hL : L ≤ 260) {j nl : Int} {f F9 : Int → Int} {M9 : Int → Int × (Int → Int)} {g : Nat → va_E} {H : Heap} {locs : List Loc} {ls : Array Slot} {c0 s0 : Nat} (hc0 : c0 ≤ 60000 ∧ s0 ≤ 400000) (hj : 0 ≤ j ∧ j < 14) (h : XI κ ad g HP0 nl f F9 M9) (h2 : XI κ (fun k => ad (sg k)) (fun k => g (sg k)) HP0 nl f F9 M9) (G : gG κ B 384 ad s g H locs) (hl : lv_has ls 8 [(3, .int (iz j)), (0, .ref b), (1, .ref (ad 0)), (2, .ref (ad 192))])
    (K : ∀ (nl : Int) (f F9 : Int → Int) (M9 : Int → Int × (Int → Int)) (g : Nat → va_E) (H : Heap) (locs : List Loc) (ls : Array Slot), XI κ ad g HP0 nl f F9 M9 → XI κ (fun k => ad (sg k)) (fun k => g (sg k)) HP0 nl f F9 M9 → gG κ B 384 ad s g H locs → lv_has ls 8 [(3, .int (iz (j + 1))), (0, .ref b), (1, .ref (ad 0)), (2, .ref (ad 192))] → W p l e room_1 s m args below meth c H locs (c0 + 1500) (s0 + 9000) Q (F0 m 18 ls [])) : W p l e room_1 s m args below meth c H locs c0 s0 Q (F0 m 24 ls []) := by
  have hnn : 192 ≤ 384 := by omega
  refine g_aload_n C dL_law_24 rfl hl 1 rfl ?_
  refine g_iconst (a := 2) C dL_law_25 rfl ?_
  refine g_iload_n C dL_law_26 rfl hl 0 rfl ?_
  refine g_imul C dL_law_27 ?_
  refine g_cell (rest := []) C G hXs hbl hB hL (k := 2 * j) (by omega) hl (Nat.le_of_ble_eq_true rfl) dL_law_28 ⟨by show c0 + 0 ≤ 600104; omega, by show s0 + 0 ≤ 7301314; omega⟩ (fun H locs G => ?_)
  have hv := ceF_in L xs (2 * j)
  generalize ceF L xs (2 * j) = v at hv ⊢
  refine lv_istore (lv' := [(4, .int (iz v)), (3, .int (iz j)), (0, .ref b), (1, .ref (ad 0)), (2, .ref (ad 192))]) C.1.1 C.1.2.1 dL_law_31 hl (by decide) rfl (fun ls hl => ?_)
  refine g_aload_n C dL_law_33 rfl hl 2 rfl ?_
  refine g_iconst (a := 2) C dL_law_34 rfl ?_
  refine g_iload_n C dL_law_35 rfl hl 1 rfl ?_
  refine g_imul C dL_law_36 ?_
  refine g_iconst (a := 1) C dL_law_37 rfl ?_
  refine g_iadd C dL_law_38 ?_
  refine g_cell (rest := []) C G hXs hbl hB hL (k := (2 * j) + 1) (by omega) hl (Nat.le_of_ble_eq_true rfl) dL_law_39 ⟨by show c0 + 0 ≤ 600104; omega, by show s0 + 0 ≤ 7301314; omega⟩ (fun H locs G => ?_)
  have hmo := ceF_in L xs ((2 * j) + 1)
  generalize ceF L xs ((2 * j) + 1) = more at hmo ⊢
  refine lv_istore (lv' := [(5, .int (iz more)), (4, .int (iz v)), (3, .int (iz j)), (0, .ref b), (1, .ref (ad 0)), (2, .ref (ad 192))]) C.1.1 C.1.2.1 dL_law_42 hl (by decide) rfl (fun ls hl => ?_)
  refine g_aload_n C dL_law_44 rfl hl 4 rfl ?_
  refine g_iload C dL_law_45 hl 1 rfl ?_
  refine g_iload C dL_law_47 hl 0 rfl ?_
  refine g_ci C G (g_runSP (As := [.ref (ad 0), .int (iz v), .int (iz more)]) (rest := []) C G X (c_L_change l hlf κ B 384 ad g _ nl f F9 M9 v more hnn h hv hmo) (va_cwS 3 C.1.2.2.2.2 gL_law_L_change rfl rfl rfl (by decide +kernel) ⟨Nat.le_of_ble_eq_true rfl, Nat.le_of_ble_eq_true rfl⟩) rfl hl rfl (Nat.le_of_ble_eq_true rfl) dL_law_49 ⟨by show c0 + 12 ≤ 600104; omega, by show s0 + 72 ≤ 7301314; omega⟩) (fun z_1 g_2 H locs hw G => ?_)
  obtain ⟨e_5, x_3, f_4⟩ := hw
  have y_6 := sw_far h2 f_4
  refine g_aload_n C dL_law_52 rfl hl 5 rfl ?_
  refine g_iload C dL_law_53 hl 1 rfl ?_
  refine g_iload C dL_law_55 hl 0 rfl ?_
  refine g_ci C G (g_runSP (As := [.ref (ad 192), .int (iz v), .int (iz more)]) (rest := [.int (iz z_1)]) C G X (sw_met (c_L_change l hlf κ B 384 (fun k => ad (sg k)) (fun k => g_2 (sg k)) _ nl f F9 M9 v more hnn y_6 hv hmo)) (va_cwS 3 C.1.2.2.2.2 gL_law_L_change rfl rfl rfl (by decide +kernel) ⟨Nat.le_of_ble_eq_true rfl, Nat.le_of_ble_eq_true rfl⟩) rfl hl rfl (Nat.le_of_ble_eq_true rfl) dL_law_57 ⟨by show c0 + 12 + 12 ≤ 600104; omega, by show s0 + 72 + 72 ≤ 7301314; omega⟩) (fun z_7 g_8 H locs hw G => ?_)
  obtain ⟨e_11, x_9, f_10⟩ := hw
  have y_12 := sw_far2 x_3 f_10
  have hzz : z_7 = z_1 := e_11.trans e_5.symm
  rw [hzz]
  clear e_5 e_11 hzz
  generalize chT v more nl f F9 M9 = T9 at y_12 x_9
  obtain ⟨zz, nl, f, F9, M9⟩ := T9
  dsimp only at y_12 x_9
  rw [iz_rI z_1]
  have hok := (y_12).ok
  have hn6 := hok.1
  have hr0 := hok.2.1
  refine g_icmp_ne (tgt := 86) C (by first | omega | exact rI_in _) (by first | omega | exact rI_in _) dL_law_60 (by decide) (fun c_13 => absurd c_13 (by omega)) (fun c_13 => ?_)
  refine g_aload_n C dL_law_63 rfl hl 4 rfl ?_
  refine g_iload C dL_law_64 hl 0 rfl ?_
  refine g_ci C G (g_runSP (As := [.ref (ad 0), .int (iz more)]) (rest := []) C G X (c_L_isWhole l hlf κ B 384 ad g_8 _ nl f F9 M9 more hnn y_12 hmo) (va_cwS 2 C.1.2.2.2.2 gL_law_L_isWhole rfl rfl rfl (by decide +kernel) ⟨Nat.le_of_ble_eq_true rfl, Nat.le_of_ble_eq_true rfl⟩) rfl hl rfl (Nat.le_of_ble_eq_true rfl) dL_law_66 ⟨by show c0 + 24 + 420 ≤ 600104; omega, by show s0 + 144 + 2520 ≤ 7301314; omega⟩) (fun z_14 g_15 H locs hw G => ?_)
  obtain ⟨x_16, f_17, e_18⟩ := hw
  have y_19 := sw_far x_9 f_17
  subst e_18
  refine g_if_eq (tgt := 86) C (by decide) dL_law_69 (by decide) (fun c9 => absurd c9 (by decide)) (fun _ => ?_)
  refine g_aload_n C dL_law_72 rfl hl 4 rfl ?_
  refine g_ci C G (g_runSP (As := [.ref (ad 0)]) (rest := []) C G X (c_L_isSeen l hlf κ B 384 ad g_15 _ nl f F9 M9 hnn x_16) (va_cwS 1 C.1.2.2.2.2 gL_law_L_isSeen rfl rfl rfl (by decide +kernel) ⟨Nat.le_of_ble_eq_true rfl, Nat.le_of_ble_eq_true rfl⟩) rfl hl rfl (Nat.le_of_ble_eq_true rfl) dL_law_73 ⟨by show c0 + 444 + 420 ≤ 600104; omega, by show s0 + 2664 + 2520 ≤ 7301314; omega⟩) (fun z_20 g_21 H locs hw G => ?_)
  obtain ⟨x_22, f_23, e_24⟩ := hw
  have y_25 := sw_far y_19 f_23
  subst e_24
  refine g_if_eq (tgt := 86) C (by decide) dL_law_76 (by decide) (fun c9 => absurd c9 (by decide)) (fun _ => ?_)
  refine g_aload_n C dL_law_79 rfl hl 4 rfl ?_
  refine g_ci C G (g_runSP (As := [.ref (ad 0)]) (rest := []) C G X (c_L_isOrder l hlf κ B 384 ad g_21 _ nl f F9 M9 hnn x_22) (va_cwS 1 C.1.2.2.2.2 gL_law_L_isOrder rfl rfl rfl (by decide +kernel) ⟨Nat.le_of_ble_eq_true rfl, Nat.le_of_ble_eq_true rfl⟩) rfl hl rfl (Nat.le_of_ble_eq_true rfl) dL_law_80 ⟨by show c0 + 864 + 70 ≤ 600104; omega, by show s0 + 5184 + 420 ≤ 7301314; omega⟩) (fun z_26 g_27 H locs hw G => ?_)
  obtain ⟨x_28, f_29, e_30⟩ := hw
  have y_31 := sw_far y_25 f_29
  subst e_30
  refine g_if_ne (tgt := 88) C (by decide) dL_law_83 (by decide) (fun _ => ?_) (fun c9 => absurd c9 (by decide))
  refine g_aload_n C dL_law_88 rfl hl 4 rfl ?_
  refine g_iconst (a := 1) C dL_law_89 rfl ?_
  refine g_ci C G (g_runVP (As := [.int (iz 1)]) (rest := []) (pos := 0) C G X (q_about l hlf κ B 384 ad g_27 _ nl f F9 M9 1 hnn x_28 (by decide)) (cwV 1 C.1.2.2.2.2 gL_law_X7_about rfl rfl rfl (by decide +kernel) ⟨Nat.le_of_ble_eq_true rfl, Nat.le_of_ble_eq_true rfl⟩) (by omega) x_28.he (T := TX7) (N := 8) rfl rfl hl rfl (Nat.le_of_ble_eq_true rfl) dL_law_90 ⟨by show c0 + 934 + 1 ≤ 600104; omega, by show s0 + 5604 + 6 ≤ 7301314; omega⟩) (fun z_32 g_33 H locs hw G => ?_)
  obtain ⟨x_34, f_35, e_36⟩ := hw
  have y_37 := sw_far y_31 f_35
  replace e_36 : z_32 = nl := e_36.trans abF_1
  replace e_36 := e_36.symm
  subst e_36
  refine lv_istore (lv' := [(6, .int (iz nl)), (5, .int (iz more)), (4, .int (iz v)), (3, .int (iz j)), (0, .ref b), (1, .ref (ad 0)), (2, .ref (ad 192))]) C.1.1 C.1.2.1 dL_law_93 hl (by decide) rfl (fun ls hl => ?_)
  refine g_iload C dL_law_95 hl 0 rfl ?_
  refine g_if_le (tgt := 128) C (by first | omega | exact rI_in _) dL_law_97 (by decide) (fun c_38 => ?_) (fun c_38 => ?_)
  · refine g_aload_n C dL_law_128 rfl hl 5 rfl ?_
    refine g_iload C dL_law_129 hl 1 rfl ?_
    refine g_iconst (a := 2) C dL_law_131 rfl ?_
    refine g_ci C G (g_runS (As := [.int (iz more), .int (iz 2)]) (rest := [.ref (ad 0)]) C G (c_L_low l κ B 384 ad g_33 more 2 (by first | exact shF_in _ _ | exact rI_in _ | omega) (by omega)) (va_cwS 2 C.1.2.2.2.2 gL_law_L_low rfl rfl rfl (by decide +kernel) ⟨Nat.le_of_ble_eq_true rfl, Nat.le_of_ble_eq_true rfl⟩) rfl hl rfl (Nat.le_of_ble_eq_true rfl) dL_law_132 ⟨by show c0 + 935 + 0 ≤ 600104; omega, by show s0 + 5610 + 0 ≤ 7301314; omega⟩) (fun z_39 g9 H locs hw G => ?_)
    obtain ⟨hg9, e_40⟩ := hw
    replace hg9 := hg9.symm
    subst hg9
    have r_41 : 0 ≤ z_39 ∧ z_39 < 2 := by rw [e_40]; exact lowF_rg (by omega)
    refine g_iload C dL_law_135 hl 1 rfl ?_
    refine g_iconst (a := 2) C dL_law_137 rfl ?_
    refine g_ishr C dL_law_138 ?_
    refine g_bipush (a := 21) C dL_law_139 (by decide) ?_
    refine g_ci C G (g_runS (As := [.int (iz (shF more 2)), .int (iz 21)]) (rest := [.int (iz z_39), .ref (ad 0)]) C G (c_L_low l κ B 384 ad g_33 (shF more 2) 21 (by first | exact shF_in _ _ | exact rI_in _ | omega) (by omega)) (va_cwS 2 C.1.2.2.2.2 gL_law_L_low rfl rfl rfl (by decide +kernel) ⟨Nat.le_of_ble_eq_true rfl, Nat.le_of_ble_eq_true rfl⟩) rfl hl rfl (Nat.le_of_ble_eq_true rfl) dL_law_141 ⟨by show c0 + 935 + 0 ≤ 600104; omega, by show s0 + 5610 + 0 ≤ 7301314; omega⟩) (fun z_42 g9 H locs hw G => ?_)
    obtain ⟨hg9, e_43⟩ := hw
    replace hg9 := hg9.symm
    subst hg9
    have r_44 : 0 ≤ z_42 ∧ z_42 < 21 := by rw [e_43]; exact lowF_rg (by omega)
    refine g_iload C dL_law_144 hl 1 rfl ?_
    refine g_bipush (a := 7) C dL_law_146 (by decide) ?_
    refine g_ishr C dL_law_148 ?_
    refine g_aload_n C dL_law_149 rfl hl 5 rfl ?_
    refine g_iconst (a := 0) C dL_law_150 rfl ?_
    refine g_ci C G (g_runVP (As := [.int (iz 0)]) (rest := [.int (iz (shF more 7)), .int (iz z_42), .int (iz z_39), .ref (ad 0)]) (pos := 0) C G X (q_about l hlf κ B 384 ad g_33 _ nl f F9 M9 0 hnn x_34 (by decide)) (cwV 1 C.1.2.2.2.2 gL_law_X7_about rfl rfl rfl (by decide +kernel) ⟨Nat.le_of_ble_eq_true rfl, Nat.le_of_ble_eq_true rfl⟩) (by omega) x_34.he (T := TX7) (N := 8) rfl rfl hl rfl (Nat.le_of_ble_eq_true rfl) dL_law_151 ⟨by show c0 + 935 + 1 ≤ 600104; omega, by show s0 + 5610 + 6 ≤ 7301314; omega⟩) (fun z_45 g_46 H locs hw G => ?_)
    obtain ⟨x_47, f_48, e_49⟩ := hw
    have y_50 := sw_far y_37 f_48
    replace e_49 : z_45 = f 0 := e_49.trans abF_0
    replace e_49 := e_49.symm
    subst e_49
    refine g_ci C G (g_runS (As := [.int (iz (shF more 7)), .int (iz (f 0))]) (rest := [.int (iz z_42), .int (iz z_39), .ref (ad 0)]) C G (c_L_low l κ B 384 ad g_46 (shF more 7) (f 0) (by first | exact shF_in _ _ | exact rI_in _ | omega) (by omega)) (va_cwS 2 C.1.2.2.2.2 gL_law_L_low rfl rfl rfl (by decide +kernel) ⟨Nat.le_of_ble_eq_true rfl, Nat.le_of_ble_eq_true rfl⟩) rfl hl rfl (Nat.le_of_ble_eq_true rfl) dL_law_154 ⟨by show c0 + 936 + 0 ≤ 600104; omega, by show s0 + 5616 + 0 ≤ 7301314; omega⟩) (fun z_51 g9 H locs hw G => ?_)
    obtain ⟨hg9, e_52⟩ := hw
    replace hg9 := hg9.symm
    subst hg9
    have r_53 : 0 ≤ z_51 ∧ z_51 < f 0 := by rw [e_52]; exact lowF_rg (by omega)
    refine g_iload C dL_law_157 hl 1 rfl ?_
    refine g_bipush (a := 13) C dL_law_159 (by decide) ?_
    refine g_ishr C dL_law_161 ?_
    refine g_iconst (a := 3) C dL_law_162 rfl ?_
    refine g_ci C G (g_runS (As := [.int (iz (shF more 13)), .int (iz 3)]) (rest := [.int (iz z_51), .int (iz z_42), .int (iz z_39), .ref (ad 0)]) C G (c_L_low l κ B 384 ad g_46 (shF more 13) 3 (by first | exact shF_in _ _ | exact rI_in _ | omega) (by omega)) (va_cwS 2 C.1.2.2.2.2 gL_law_L_low rfl rfl rfl (by decide +kernel) ⟨Nat.le_of_ble_eq_true rfl, Nat.le_of_ble_eq_true rfl⟩) rfl hl rfl (Nat.le_of_ble_eq_true rfl) dL_law_163 ⟨by show c0 + 936 + 0 ≤ 600104; omega, by show s0 + 5616 + 0 ≤ 7301314; omega⟩) (fun z_54 g9 H locs hw G => ?_)
    obtain ⟨hg9, e_55⟩ := hw
    replace hg9 := hg9.symm
    subst hg9
    have r_56 : 0 ≤ z_54 ∧ z_54 < 3 := by rw [e_55]; exact lowF_rg (by omega)
    refine g_ci C G (g_runVP (As := [.int (iz z_39), .int (iz z_42), .int (iz z_51), .int (iz z_54)]) (rest := []) (pos := 0) C G X (q_wheels l hlf κ B 384 ad g_46 _ nl f F9 M9 z_39 z_42 z_51 z_54 hnn x_47 (by omega) (by omega) (by omega) (by omega)) (cwV 4 C.1.2.2.2.2 gL_law_X7_wheels rfl rfl rfl (by decide +kernel) ⟨Nat.le_of_ble_eq_true rfl, Nat.le_of_ble_eq_true rfl⟩) (by omega) x_47.he (T := TX7) (N := 8) rfl rfl hl rfl (Nat.le_of_ble_eq_true rfl) dL_law_166 ⟨by show c0 + 936 + 1 ≤ 600104; omega, by show s0 + 5616 + 6 ≤ 7301314; omega⟩) (fun z_57 g_58 H locs hw G => ?_)
    obtain ⟨x_59, f_60, e_61⟩ := hw
    have y_62 := sw_far y_50 f_60
    refine g_aload_n C dL_law_169 rfl hl 5 rfl ?_
    refine g_iload C dL_law_170 hl 1 rfl ?_
    refine g_i2l C (by first | omega | exact rI_in _) dL_law_172 ?_
    refine g_iconst (a := 1) C dL_law_173 rfl ?_
    refine g_iload C dL_law_174 hl 2 rfl ?_
    refine g_bipush (a := 9) C dL_law_176 (by decide) ?_
    refine g_ci C G (g_runS (As := [.int (iz v), .int (iz 9)]) (rest := [.int (iz 1), .long (jz more), .ref (ad 0), .int (iz z_57)]) C G (c_L_low l κ B 384 ad g_58 v 9 (by first | exact shF_in _ _ | exact rI_in _ | omega) (by omega)) (va_cwS 2 C.1.2.2.2.2 gL_law_L_low rfl rfl rfl (by decide +kernel) ⟨Nat.le_of_ble_eq_true rfl, Nat.le_of_ble_eq_true rfl⟩) rfl hl rfl (Nat.le_of_ble_eq_true rfl) dL_law_178 ⟨by show c0 + 937 + 0 ≤ 600104; omega, by show s0 + 5622 + 0 ≤ 7301314; omega⟩) (fun z_63 g9 H locs hw G => ?_)
    obtain ⟨hg9, e_64⟩ := hw
    replace hg9 := hg9.symm
    subst hg9
    have r_65 : 0 ≤ z_63 ∧ z_63 < 9 := by rw [e_64]; exact lowF_rg (by omega)
    refine g_iadd C dL_law_181 ?_
    refine g_ci C G (g_runVP (As := [.long (jz more), .int (iz (1 + z_63))]) (rest := [.int (iz z_57)]) (pos := 0) C G X (q_simulate l hlf κ B 384 ad g_58 _ nl f F9 M9 more (1 + z_63) hnn x_59 (by omega) (by omega)) (cwV 2 C.1.2.2.2.2 gL_law_X7_simulate rfl rfl rfl (by decide +kernel) ⟨Nat.le_of_ble_eq_true rfl, Nat.le_of_ble_eq_true rfl⟩) (by omega) x_59.he (T := TX7) (N := 8) rfl rfl hl rfl (Nat.le_of_ble_eq_true rfl) dL_law_182 ⟨by show c0 + 937 + 1 ≤ 600104; omega, by show s0 + 5622 + 6 ≤ 7301314; omega⟩) (fun z_66 g_67 H locs hw G => ?_)
    obtain ⟨x_68, f_69, e_70⟩ := hw
    have y_71 := sw_far y_62 f_69
    refine g_iadd C dL_law_185 ?_
    refine lv_istore (lv' := [(7, .int (iz (z_57 + z_66))), (6, .int (iz nl)), (5, .int (iz more)), (4, .int (iz v)), (3, .int (iz j)), (0, .ref b), (1, .ref (ad 0)), (2, .ref (ad 192))]) C.1.1 C.1.2.1 dL_law_186 hl (by decide) rfl (fun ls hl => ?_)
    refine g_aload_n C dL_law_188 rfl hl 6 rfl ?_
    refine g_iconst (a := 1) C dL_law_189 rfl ?_
    refine g_ldc2 (a := 20000) C (by decide +kernel) dL_law_190 ?_
    refine g_ldc2 (a := 1000) C (by decide +kernel) dL_law_193 ?_
    refine g_iload C dL_law_196 hl 2 rfl ?_
    refine g_bipush (a := 7) C dL_law_198 (by decide) ?_
    refine g_ci C G (g_runS (As := [.int (iz more), .int (iz 7)]) (rest := [.long (jz 1000), .long (jz 20000), .int (iz 1), .ref (ad 0)]) C G (c_L_low l κ B 384 ad g_67 more 7 (by first | exact shF_in _ _ | exact rI_in _ | omega) (by omega)) (va_cwS 2 C.1.2.2.2.2 gL_law_L_low rfl rfl rfl (by decide +kernel) ⟨Nat.le_of_ble_eq_true rfl, Nat.le_of_ble_eq_true rfl⟩) rfl hl rfl (Nat.le_of_ble_eq_true rfl) dL_law_200 ⟨by show c0 + 938 + 0 ≤ 600104; omega, by show s0 + 5628 + 0 ≤ 7301314; omega⟩) (fun z_72 g9 H locs hw G => ?_)
    obtain ⟨hg9, e_73⟩ := hw
    replace hg9 := hg9.symm
    subst hg9
    have r_74 : 0 ≤ z_72 ∧ z_72 < 7 := by rw [e_73]; exact lowF_rg (by omega)
    refine g_i2l C (by first | omega | exact rI_in _) dL_law_203 ?_
    refine g_lmul C dL_law_204 ?_
    refine g_ladd C dL_law_205 ?_
    refine g_ci C G (g_runVP (As := [.int (iz 1), .long (jz (20000 + (1000 * z_72)))]) (rest := []) (pos := 0) C G X (q_runScript l hlf κ B 384 ad g_67 _ nl f F9 M9 z_72 (20000 + (1000 * z_72)) hnn x_68 ⟨by omega, by omega⟩ rfl) (cwV 2 C.1.2.2.2.2 gL_law_X7_runScript rfl rfl rfl (by decide +kernel) ⟨Nat.le_of_ble_eq_true rfl, Nat.le_of_ble_eq_true rfl⟩) (by omega) x_68.he (T := TX7) (N := 8) rfl rfl hl rfl (Nat.le_of_ble_eq_true rfl) dL_law_206 ⟨by show c0 + 938 + 3 ≤ 600104; omega, by show s0 + 5628 + 15 ≤ 7301314; omega⟩) (fun z_75 g_76 H locs hw G => ?_)
    obtain ⟨x_77, f_78, e_79⟩ := hw
    have y_80 := sw_far y_71 f_78
    have hrs : (z_72 < nl → z_75 = -9) ∧ (nl ≤ z_72 → z_75 = 0) := ⟨fun q => by rw [e_79, if_pos q], fun q => by rw [e_79, if_neg (by omega)]⟩
    clear e_79
    refine g_iload C dL_law_209 hl 2 rfl ?_
    refine g_bipush (a := 7) C dL_law_211 (by decide) ?_
    refine g_ci C G (g_runS (As := [.int (iz more), .int (iz 7)]) (rest := [.int (iz z_75)]) C G (c_L_low l κ B 384 ad g_76 more 7 (by first | exact shF_in _ _ | exact rI_in _ | omega) (by omega)) (va_cwS 2 C.1.2.2.2.2 gL_law_L_low rfl rfl rfl (by decide +kernel) ⟨Nat.le_of_ble_eq_true rfl, Nat.le_of_ble_eq_true rfl⟩) rfl hl rfl (Nat.le_of_ble_eq_true rfl) dL_law_213 ⟨by show c0 + 941 + 0 ≤ 600104; omega, by show s0 + 5643 + 0 ≤ 7301314; omega⟩) (fun z_81 g9 H locs hw G => ?_)
    obtain ⟨hg9, e_82⟩ := hw
    replace hg9 := hg9.symm
    subst hg9
    have r_83 : 0 ≤ z_81 ∧ z_81 < 7 := by rw [e_82]; exact lowF_rg (by omega)
    refine g_iload C dL_law_216 hl 1 rfl ?_
    refine g_icmp_ge (tgt := 226) C (by first | omega | exact rI_in _) (by first | omega | exact rI_in _) dL_law_218 (by decide) (fun c_84 => ?_) (fun c_84 => ?_)
    · refine g_iconst (a := 0) C dL_law_226 rfl ?_
      refine g_icmp_ne (tgt := 235) C (by first | omega | exact rI_in _) (by decide) dL_law_227 (by decide) (fun c_85 => absurd c_85 (by omega)) (fun c_85 => ?_)
      refine g_iload C dL_law_230 hl 0 rfl ?_
      refine g_if_ge (tgt := 237) C (by first | omega | exact rI_in _) dL_law_232 (by decide) (fun c_86 => ?_) (fun c_86 => absurd c_86 (by omega))
      refine lv_iinc (v := iz (j + 1)) (lv' := [(3, .int (iz (j + 1))), (7, .int (iz (z_57 + z_66))), (6, .int (iz nl)), (5, .int (iz more)), (4, .int (iz v)), (0, .ref b), (1, .ref (ad 0)), (2, .ref (ad 192))]) C.1.1 C.1.2.1 dL_law_237 hl (k := 4) rfl (g_inc (by omega)) (by decide) rfl (fun ls hl => ?_)
      refine g_goto (tgt := 18) C dL_law_240 (by decide) ?_
      refine W.widen (k := c0 + 1500) (n := s0 + 9000) (by omega) (by omega) ?_
      exact K nl f F9 M9 g_76 H locs _ x_77 y_80 G (lv_sub hl [0, 5, 6, 7] rfl)
    · refine g_bipush (a := (-9)) C dL_law_221 (by decide) ?_
      refine g_goto (tgt := 227) C dL_law_223 (by decide) ?_
      refine g_icmp_ne (tgt := 235) C (by first | omega | exact rI_in _) (by first | omega | exact rI_in _) dL_law_227 (by decide) (fun c_87 => absurd c_87 (by omega)) (fun c_87 => ?_)
      refine g_iload C dL_law_230 hl 0 rfl ?_
      refine g_if_ge (tgt := 237) C (by first | omega | exact rI_in _) dL_law_232 (by decide) (fun c_88 => ?_) (fun c_88 => absurd c_88 (by omega))
      refine lv_iinc (v := iz (j + 1)) (lv' := [(3, .int (iz (j + 1))), (7, .int (iz (z_57 + z_66))), (6, .int (iz nl)), (5, .int (iz more)), (4, .int (iz v)), (0, .ref b), (1, .ref (ad 0)), (2, .ref (ad 192))]) C.1.1 C.1.2.1 dL_law_237 hl (k := 4) rfl (g_inc (by omega)) (by decide) rfl (fun ls hl => ?_)
      refine g_goto (tgt := 18) C dL_law_240 (by decide) ?_
      refine W.widen (k := c0 + 1500) (n := s0 + 9000) (by omega) (by omega) ?_
      exact K nl f F9 M9 g_76 H locs _ x_77 y_80 G (lv_sub hl [0, 5, 6, 7] rfl)
  · refine g_aload_n C dL_law_100 rfl hl 5 rfl ?_
    refine g_iload C dL_law_101 hl 1 rfl ?_
    refine g_iconst (a := 3) C dL_law_103 rfl ?_
    refine g_ishr C dL_law_104 ?_
    refine g_iload C dL_law_105 hl 0 rfl ?_
    refine g_ci C G (g_runS (As := [.int (iz (shF more 3)), .int (iz nl)]) (rest := [.ref (ad 0)]) C G (c_L_low l κ B 384 ad g_33 (shF more 3) nl (by first | exact shF_in _ _ | exact rI_in _ | omega) (by omega)) (va_cwS 2 C.1.2.2.2.2 gL_law_L_low rfl rfl rfl (by decide +kernel) ⟨Nat.le_of_ble_eq_true rfl, Nat.le_of_ble_eq_true rfl⟩) rfl hl rfl (Nat.le_of_ble_eq_true rfl) dL_law_107 ⟨by show c0 + 935 + 0 ≤ 600104; omega, by show s0 + 5610 + 0 ≤ 7301314; omega⟩) (fun z_89 g9 H locs hw G => ?_)
    obtain ⟨hg9, e_90⟩ := hw
    replace hg9 := hg9.symm
    subst hg9
    have r_91 : 0 ≤ z_89 ∧ z_89 < nl := by rw [e_90]; exact lowF_rg (by omega)
    refine g_iload C dL_law_110 hl 1 rfl ?_
    refine g_bipush (a := 9) C dL_law_112 (by decide) ?_
    refine g_ishr C dL_law_114 ?_
    refine g_iload C dL_law_115 hl 0 rfl ?_
    refine g_ci C G (g_runS (As := [.int (iz (shF more 9)), .int (iz nl)]) (rest := [.int (iz z_89), .ref (ad 0)]) C G (c_L_low l κ B 384 ad g_33 (shF more 9) nl (by first | exact shF_in _ _ | exact rI_in _ | omega) (by omega)) (va_cwS 2 C.1.2.2.2.2 gL_law_L_low rfl rfl rfl (by decide +kernel) ⟨Nat.le_of_ble_eq_true rfl, Nat.le_of_ble_eq_true rfl⟩) rfl hl rfl (Nat.le_of_ble_eq_true rfl) dL_law_117 ⟨by show c0 + 935 + 0 ≤ 600104; omega, by show s0 + 5610 + 0 ≤ 7301314; omega⟩) (fun z_92 g9 H locs hw G => ?_)
    obtain ⟨hg9, e_93⟩ := hw
    replace hg9 := hg9.symm
    subst hg9
    have r_94 : 0 ≤ z_92 ∧ z_92 < nl := by rw [e_93]; exact lowF_rg (by omega)
    refine g_ci C G (g_runSP (As := [.ref (ad 0), .int (iz z_89), .int (iz z_92)]) (rest := []) C G X (c_L_isPair l hlf κ B 384 ad g_33 _ nl f F9 M9 z_89 z_92 hnn x_34 ⟨by omega, by omega⟩ ⟨by omega, by omega⟩) (va_cwS 3 C.1.2.2.2.2 gL_law_L_isPair rfl rfl rfl (by decide +kernel) ⟨Nat.le_of_ble_eq_true rfl, Nat.le_of_ble_eq_true rfl⟩) rfl hl rfl (Nat.le_of_ble_eq_true rfl) dL_law_120 ⟨by show c0 + 935 + 40 ≤ 600104; omega, by show s0 + 5610 + 240 ≤ 7301314; omega⟩) (fun z_95 g_96 H locs hw G => ?_)
    obtain ⟨x_97, f_98, e_99⟩ := hw
    have y_100 := sw_far y_37 f_98
    subst e_99
    refine g_if_ne (tgt := 128) C (by decide) dL_law_123 (by decide) (fun _ => ?_) (fun c9 => absurd c9 (by decide))
    refine g_aload_n C dL_law_128 rfl hl 5 rfl ?_
    refine g_iload C dL_law_129 hl 1 rfl ?_
    refine g_iconst (a := 2) C dL_law_131 rfl ?_
    refine g_ci C G (g_runS (As := [.int (iz more), .int (iz 2)]) (rest := [.ref (ad 0)]) C G (c_L_low l κ B 384 ad g_96 more 2 (by first | exact shF_in _ _ | exact rI_in _ | omega) (by omega)) (va_cwS 2 C.1.2.2.2.2 gL_law_L_low rfl rfl rfl (by decide +kernel) ⟨Nat.le_of_ble_eq_true rfl, Nat.le_of_ble_eq_true rfl⟩) rfl hl rfl (Nat.le_of_ble_eq_true rfl) dL_law_132 ⟨by show c0 + 975 + 0 ≤ 600104; omega, by show s0 + 5850 + 0 ≤ 7301314; omega⟩) (fun z_101 g9 H locs hw G => ?_)
    obtain ⟨hg9, e_102⟩ := hw
    replace hg9 := hg9.symm
    subst hg9
    have r_103 : 0 ≤ z_101 ∧ z_101 < 2 := by rw [e_102]; exact lowF_rg (by omega)
    refine g_iload C dL_law_135 hl 1 rfl ?_
    refine g_iconst (a := 2) C dL_law_137 rfl ?_
    refine g_ishr C dL_law_138 ?_
    refine g_bipush (a := 21) C dL_law_139 (by decide) ?_
    refine g_ci C G (g_runS (As := [.int (iz (shF more 2)), .int (iz 21)]) (rest := [.int (iz z_101), .ref (ad 0)]) C G (c_L_low l κ B 384 ad g_96 (shF more 2) 21 (by first | exact shF_in _ _ | exact rI_in _ | omega) (by omega)) (va_cwS 2 C.1.2.2.2.2 gL_law_L_low rfl rfl rfl (by decide +kernel) ⟨Nat.le_of_ble_eq_true rfl, Nat.le_of_ble_eq_true rfl⟩) rfl hl rfl (Nat.le_of_ble_eq_true rfl) dL_law_141 ⟨by show c0 + 975 + 0 ≤ 600104; omega, by show s0 + 5850 + 0 ≤ 7301314; omega⟩) (fun z_104 g9 H locs hw G => ?_)
    obtain ⟨hg9, e_105⟩ := hw
    replace hg9 := hg9.symm
    subst hg9
    have r_106 : 0 ≤ z_104 ∧ z_104 < 21 := by rw [e_105]; exact lowF_rg (by omega)
    refine g_iload C dL_law_144 hl 1 rfl ?_
    refine g_bipush (a := 7) C dL_law_146 (by decide) ?_
    refine g_ishr C dL_law_148 ?_
    refine g_aload_n C dL_law_149 rfl hl 5 rfl ?_
    refine g_iconst (a := 0) C dL_law_150 rfl ?_
    refine g_ci C G (g_runVP (As := [.int (iz 0)]) (rest := [.int (iz (shF more 7)), .int (iz z_104), .int (iz z_101), .ref (ad 0)]) (pos := 0) C G X (q_about l hlf κ B 384 ad g_96 _ nl f F9 M9 0 hnn x_97 (by decide)) (cwV 1 C.1.2.2.2.2 gL_law_X7_about rfl rfl rfl (by decide +kernel) ⟨Nat.le_of_ble_eq_true rfl, Nat.le_of_ble_eq_true rfl⟩) (by omega) x_97.he (T := TX7) (N := 8) rfl rfl hl rfl (Nat.le_of_ble_eq_true rfl) dL_law_151 ⟨by show c0 + 975 + 1 ≤ 600104; omega, by show s0 + 5850 + 6 ≤ 7301314; omega⟩) (fun z_107 g_108 H locs hw G => ?_)
    obtain ⟨x_109, f_110, e_111⟩ := hw
    have y_112 := sw_far y_100 f_110
    replace e_111 : z_107 = f 0 := e_111.trans abF_0
    replace e_111 := e_111.symm
    subst e_111
    refine g_ci C G (g_runS (As := [.int (iz (shF more 7)), .int (iz (f 0))]) (rest := [.int (iz z_104), .int (iz z_101), .ref (ad 0)]) C G (c_L_low l κ B 384 ad g_108 (shF more 7) (f 0) (by first | exact shF_in _ _ | exact rI_in _ | omega) (by omega)) (va_cwS 2 C.1.2.2.2.2 gL_law_L_low rfl rfl rfl (by decide +kernel) ⟨Nat.le_of_ble_eq_true rfl, Nat.le_of_ble_eq_true rfl⟩) rfl hl rfl (Nat.le_of_ble_eq_true rfl) dL_law_154 ⟨by show c0 + 976 + 0 ≤ 600104; omega, by show s0 + 5856 + 0 ≤ 7301314; omega⟩) (fun z_113 g9 H locs hw G => ?_)
    obtain ⟨hg9, e_114⟩ := hw
    replace hg9 := hg9.symm
    subst hg9
    have r_115 : 0 ≤ z_113 ∧ z_113 < f 0 := by rw [e_114]; exact lowF_rg (by omega)
    refine g_iload C dL_law_157 hl 1 rfl ?_
    refine g_bipush (a := 13) C dL_law_159 (by decide) ?_
    refine g_ishr C dL_law_161 ?_
    refine g_iconst (a := 3) C dL_law_162 rfl ?_
    refine g_ci C G (g_runS (As := [.int (iz (shF more 13)), .int (iz 3)]) (rest := [.int (iz z_113), .int (iz z_104), .int (iz z_101), .ref (ad 0)]) C G (c_L_low l κ B 384 ad g_108 (shF more 13) 3 (by first | exact shF_in _ _ | exact rI_in _ | omega) (by omega)) (va_cwS 2 C.1.2.2.2.2 gL_law_L_low rfl rfl rfl (by decide +kernel) ⟨Nat.le_of_ble_eq_true rfl, Nat.le_of_ble_eq_true rfl⟩) rfl hl rfl (Nat.le_of_ble_eq_true rfl) dL_law_163 ⟨by show c0 + 976 + 0 ≤ 600104; omega, by show s0 + 5856 + 0 ≤ 7301314; omega⟩) (fun z_116 g9 H locs hw G => ?_)
    obtain ⟨hg9, e_117⟩ := hw
    replace hg9 := hg9.symm
    subst hg9
    have r_118 : 0 ≤ z_116 ∧ z_116 < 3 := by rw [e_117]; exact lowF_rg (by omega)
    refine g_ci C G (g_runVP (As := [.int (iz z_101), .int (iz z_104), .int (iz z_113), .int (iz z_116)]) (rest := []) (pos := 0) C G X (q_wheels l hlf κ B 384 ad g_108 _ nl f F9 M9 z_101 z_104 z_113 z_116 hnn x_109 (by omega) (by omega) (by omega) (by omega)) (cwV 4 C.1.2.2.2.2 gL_law_X7_wheels rfl rfl rfl (by decide +kernel) ⟨Nat.le_of_ble_eq_true rfl, Nat.le_of_ble_eq_true rfl⟩) (by omega) x_109.he (T := TX7) (N := 8) rfl rfl hl rfl (Nat.le_of_ble_eq_true rfl) dL_law_166 ⟨by show c0 + 976 + 1 ≤ 600104; omega, by show s0 + 5856 + 6 ≤ 7301314; omega⟩) (fun z_119 g_120 H locs hw G => ?_)
    obtain ⟨x_121, f_122, e_123⟩ := hw
    have y_124 := sw_far y_112 f_122
    refine g_aload_n C dL_law_169 rfl hl 5 rfl ?_
    refine g_iload C dL_law_170 hl 1 rfl ?_
    refine g_i2l C (by first | omega | exact rI_in _) dL_law_172 ?_
    refine g_iconst (a := 1) C dL_law_173 rfl ?_
    refine g_iload C dL_law_174 hl 2 rfl ?_
    refine g_bipush (a := 9) C dL_law_176 (by decide) ?_
    refine g_ci C G (g_runS (As := [.int (iz v), .int (iz 9)]) (rest := [.int (iz 1), .long (jz more), .ref (ad 0), .int (iz z_119)]) C G (c_L_low l κ B 384 ad g_120 v 9 (by first | exact shF_in _ _ | exact rI_in _ | omega) (by omega)) (va_cwS 2 C.1.2.2.2.2 gL_law_L_low rfl rfl rfl (by decide +kernel) ⟨Nat.le_of_ble_eq_true rfl, Nat.le_of_ble_eq_true rfl⟩) rfl hl rfl (Nat.le_of_ble_eq_true rfl) dL_law_178 ⟨by show c0 + 977 + 0 ≤ 600104; omega, by show s0 + 5862 + 0 ≤ 7301314; omega⟩) (fun z_125 g9 H locs hw G => ?_)
    obtain ⟨hg9, e_126⟩ := hw
    replace hg9 := hg9.symm
    subst hg9
    have r_127 : 0 ≤ z_125 ∧ z_125 < 9 := by rw [e_126]; exact lowF_rg (by omega)
    refine g_iadd C dL_law_181 ?_
    refine g_ci C G (g_runVP (As := [.long (jz more), .int (iz (1 + z_125))]) (rest := [.int (iz z_119)]) (pos := 0) C G X (q_simulate l hlf κ B 384 ad g_120 _ nl f F9 M9 more (1 + z_125) hnn x_121 (by omega) (by omega)) (cwV 2 C.1.2.2.2.2 gL_law_X7_simulate rfl rfl rfl (by decide +kernel) ⟨Nat.le_of_ble_eq_true rfl, Nat.le_of_ble_eq_true rfl⟩) (by omega) x_121.he (T := TX7) (N := 8) rfl rfl hl rfl (Nat.le_of_ble_eq_true rfl) dL_law_182 ⟨by show c0 + 977 + 1 ≤ 600104; omega, by show s0 + 5862 + 6 ≤ 7301314; omega⟩) (fun z_128 g_129 H locs hw G => ?_)
    obtain ⟨x_130, f_131, e_132⟩ := hw
    have y_133 := sw_far y_124 f_131
    refine g_iadd C dL_law_185 ?_
    refine lv_istore (lv' := [(7, .int (iz (z_119 + z_128))), (6, .int (iz nl)), (5, .int (iz more)), (4, .int (iz v)), (3, .int (iz j)), (0, .ref b), (1, .ref (ad 0)), (2, .ref (ad 192))]) C.1.1 C.1.2.1 dL_law_186 hl (by decide) rfl (fun ls hl => ?_)
    refine g_aload_n C dL_law_188 rfl hl 6 rfl ?_
    refine g_iconst (a := 1) C dL_law_189 rfl ?_
    refine g_ldc2 (a := 20000) C (by decide +kernel) dL_law_190 ?_
    refine g_ldc2 (a := 1000) C (by decide +kernel) dL_law_193 ?_
    refine g_iload C dL_law_196 hl 2 rfl ?_
    refine g_bipush (a := 7) C dL_law_198 (by decide) ?_
    refine g_ci C G (g_runS (As := [.int (iz more), .int (iz 7)]) (rest := [.long (jz 1000), .long (jz 20000), .int (iz 1), .ref (ad 0)]) C G (c_L_low l κ B 384 ad g_129 more 7 (by first | exact shF_in _ _ | exact rI_in _ | omega) (by omega)) (va_cwS 2 C.1.2.2.2.2 gL_law_L_low rfl rfl rfl (by decide +kernel) ⟨Nat.le_of_ble_eq_true rfl, Nat.le_of_ble_eq_true rfl⟩) rfl hl rfl (Nat.le_of_ble_eq_true rfl) dL_law_200 ⟨by show c0 + 978 + 0 ≤ 600104; omega, by show s0 + 5868 + 0 ≤ 7301314; omega⟩) (fun z_134 g9 H locs hw G => ?_)
    obtain ⟨hg9, e_135⟩ := hw
    replace hg9 := hg9.symm
    subst hg9
    have r_136 : 0 ≤ z_134 ∧ z_134 < 7 := by rw [e_135]; exact lowF_rg (by omega)
    refine g_i2l C (by first | omega | exact rI_in _) dL_law_203 ?_
    refine g_lmul C dL_law_204 ?_
    refine g_ladd C dL_law_205 ?_
    refine g_ci C G (g_runVP (As := [.int (iz 1), .long (jz (20000 + (1000 * z_134)))]) (rest := []) (pos := 0) C G X (q_runScript l hlf κ B 384 ad g_129 _ nl f F9 M9 z_134 (20000 + (1000 * z_134)) hnn x_130 ⟨by omega, by omega⟩ rfl) (cwV 2 C.1.2.2.2.2 gL_law_X7_runScript rfl rfl rfl (by decide +kernel) ⟨Nat.le_of_ble_eq_true rfl, Nat.le_of_ble_eq_true rfl⟩) (by omega) x_130.he (T := TX7) (N := 8) rfl rfl hl rfl (Nat.le_of_ble_eq_true rfl) dL_law_206 ⟨by show c0 + 978 + 3 ≤ 600104; omega, by show s0 + 5868 + 15 ≤ 7301314; omega⟩) (fun z_137 g_138 H locs hw G => ?_)
    obtain ⟨x_139, f_140, e_141⟩ := hw
    have y_142 := sw_far y_133 f_140
    have hrs : (z_134 < nl → z_137 = -9) ∧ (nl ≤ z_134 → z_137 = 0) := ⟨fun q => by rw [e_141, if_pos q], fun q => by rw [e_141, if_neg (by omega)]⟩
    clear e_141
    refine g_iload C dL_law_209 hl 2 rfl ?_
    refine g_bipush (a := 7) C dL_law_211 (by decide) ?_
    refine g_ci C G (g_runS (As := [.int (iz more), .int (iz 7)]) (rest := [.int (iz z_137)]) C G (c_L_low l κ B 384 ad g_138 more 7 (by first | exact shF_in _ _ | exact rI_in _ | omega) (by omega)) (va_cwS 2 C.1.2.2.2.2 gL_law_L_low rfl rfl rfl (by decide +kernel) ⟨Nat.le_of_ble_eq_true rfl, Nat.le_of_ble_eq_true rfl⟩) rfl hl rfl (Nat.le_of_ble_eq_true rfl) dL_law_213 ⟨by show c0 + 981 + 0 ≤ 600104; omega, by show s0 + 5883 + 0 ≤ 7301314; omega⟩) (fun z_143 g9 H locs hw G => ?_)
    obtain ⟨hg9, e_144⟩ := hw
    replace hg9 := hg9.symm
    subst hg9
    have r_145 : 0 ≤ z_143 ∧ z_143 < 7 := by rw [e_144]; exact lowF_rg (by omega)
    refine g_iload C dL_law_216 hl 1 rfl ?_
    refine g_icmp_ge (tgt := 226) C (by first | omega | exact rI_in _) (by first | omega | exact rI_in _) dL_law_218 (by decide) (fun c_146 => ?_) (fun c_146 => ?_)
    · refine g_iconst (a := 0) C dL_law_226 rfl ?_
      refine g_icmp_ne (tgt := 235) C (by first | omega | exact rI_in _) (by decide) dL_law_227 (by decide) (fun c_147 => absurd c_147 (by omega)) (fun c_147 => ?_)
      refine g_iload C dL_law_230 hl 0 rfl ?_
      refine g_if_ge (tgt := 237) C (by first | omega | exact rI_in _) dL_law_232 (by decide) (fun c_148 => ?_) (fun c_148 => absurd c_148 (by omega))
      refine lv_iinc (v := iz (j + 1)) (lv' := [(3, .int (iz (j + 1))), (7, .int (iz (z_119 + z_128))), (6, .int (iz nl)), (5, .int (iz more)), (4, .int (iz v)), (0, .ref b), (1, .ref (ad 0)), (2, .ref (ad 192))]) C.1.1 C.1.2.1 dL_law_237 hl (k := 4) rfl (g_inc (by omega)) (by decide) rfl (fun ls hl => ?_)
      refine g_goto (tgt := 18) C dL_law_240 (by decide) ?_
      refine W.widen (k := c0 + 1500) (n := s0 + 9000) (by omega) (by omega) ?_
      exact K nl f F9 M9 g_138 H locs _ x_139 y_142 G (lv_sub hl [0, 5, 6, 7] rfl)
    · refine g_bipush (a := (-9)) C dL_law_221 (by decide) ?_
      refine g_goto (tgt := 227) C dL_law_223 (by decide) ?_
      refine g_icmp_ne (tgt := 235) C (by first | omega | exact rI_in _) (by first | omega | exact rI_in _) dL_law_227 (by decide) (fun c_149 => absurd c_149 (by omega)) (fun c_149 => ?_)
      refine g_iload C dL_law_230 hl 0 rfl ?_
      refine g_if_ge (tgt := 237) C (by first | omega | exact rI_in _) dL_law_232 (by decide) (fun c_150 => ?_) (fun c_150 => absurd c_150 (by omega))
      refine lv_iinc (v := iz (j + 1)) (lv' := [(3, .int (iz (j + 1))), (7, .int (iz (z_119 + z_128))), (6, .int (iz nl)), (5, .int (iz more)), (4, .int (iz v)), (0, .ref b), (1, .ref (ad 0)), (2, .ref (ad 192))]) C.1.1 C.1.2.1 dL_law_237 hl (k := 4) rfl (g_inc (by omega)) (by decide) rfl (fun ls hl => ?_)
      refine g_goto (tgt := 18) C dL_law_240 (by decide) ?_
      refine W.widen (k := c0 + 1500) (n := s0 + 9000) (by omega) (by omega) ?_
      exact K nl f F9 M9 g_138 H locs _ x_139 y_142 G (lv_sub hl [0, 5, 6, 7] rfl)
end LAWT
