/-! THE LAW: isSeen -/
theorem fit_ct {nl k ha : Int} {f : Int → Int} (hok : okPl nl f) (h : ha = ((fb_ct (fun j => dB (PTl f k (f (26 + 2 * (j : Int))) (f (27 + 2 * (j : Int))))) (f 25).toNat : Nat) : Int)) : ha = f 25 ↔ FITl f k := by
  have h25 := hok.2.2.1
  have e : ha = f 25 ↔ fb_ct (fun j => dB (PTl f k (f (26 + 2 * (j : Int))) (f (27 + 2 * (j : Int))))) (f 25).toNat = (f 25).toNat := by omega
  rw [e, fb_ct_all]
  refine ⟨fun q i i0 i1 => ?_, fun q j hj => dB_iff.mpr (q (j : Int) (by omega) (by omega))⟩
  have h1 := dB_iff.mp (q i.toNat (by omega))
  rw [Int.toNat_of_nonneg i0] at h1
  exact h1
set_option maxHeartbeats 4000000 in
set_option maxRecDepth 100000 in
theorem c_L_isSeen (l : Launch) (hlf : l.stackTraces = false) (κ : gKap) (B n : Nat) (ad : Nat → Nat) (g : Nat → va_E) (HP : gHP) (nl : Int) (f : Int → Int) (F9 : Int → Int) (M9 : Int → Int × (Int → Int)) (hnn : 192 ≤ n) (h : XI κ ad g HP nl f F9 M9) : Met l yL_isSeen wsL_isSeen ({ frames := 7, cells := 420, slots := 2520, locals := 144 }) (gPreX κ B n ad g [.ref (ad 0)]) (gQi κ B n ad (fun z g' => XI κ ad g' HP nl f F9 M9 ∧ frX n g g' ∧ z = 1)) 420 2520 (gFree B) := by
  refine g_metP RL (cc := cL_isSeen) (maxL := 8) (ret := (some .boolean)) (by decide) rfl rfl (Nat.le_of_ble_eq_true rfl) ?_
  intro p e s m args below meth c C hr hlk X G ls hl
  have hl : lv_has ls 8 [(0, .ref (ad 0))] := hl
  have hok := h.ok
  have hn6 := hok.1
  have h25 := hok.2.2.1
  have hr0 := hok.2.1
  refine g_aload_n C dL_isSeen_0 rfl hl 0 rfl ?_
  refine g_iconst (a := 1) C dL_isSeen_1 rfl ?_
  refine g_ci C G (g_runVP (As := [.int (iz 1)]) (rest := []) (pos := 0) C G X (q_about l hlf κ B n ad g HP nl f F9 M9 1 hnn h (by decide)) (cwV 1 C.1.2.2.2.2 gL_isSeen_X7_about rfl rfl rfl (by decide +kernel) ⟨Nat.le_of_ble_eq_true rfl, Nat.le_of_ble_eq_true rfl⟩) (by omega) h.he (T := TX7) (N := 8) rfl rfl hl rfl (Nat.le_of_ble_eq_true rfl) dL_isSeen_2 ⟨Nat.le_of_ble_eq_true rfl, Nat.le_of_ble_eq_true rfl⟩) (fun z_1 g_2 H locs hw G => ?_)
  obtain ⟨x_3, f_4, e_5⟩ := hw
  replace e_5 : z_1 = nl := e_5.trans abF_1
  replace e_5 := e_5.symm
  subst e_5
  refine lv_istore_n (lv' := [(1, .int (iz nl)), (0, .ref (ad 0))]) C.1.1 C.1.2.1 dL_isSeen_5 rfl hl (by decide) rfl (fun ls hl => ?_)
  refine g_aload_n C dL_isSeen_6 rfl hl 1 rfl ?_
  refine g_iconst (a := 2) C dL_isSeen_7 rfl ?_
  refine g_ci C G (g_runVP (As := [.int (iz 2)]) (rest := []) (pos := 0) C G X (q_about l hlf κ B n ad g_2 HP nl f F9 M9 2 hnn x_3 (by decide)) (cwV 1 C.1.2.2.2.2 gL_isSeen_X7_about rfl rfl rfl (by decide +kernel) ⟨Nat.le_of_ble_eq_true rfl, Nat.le_of_ble_eq_true rfl⟩) (by omega) x_3.he (T := TX7) (N := 8) rfl rfl hl rfl (Nat.le_of_ble_eq_true rfl) dL_isSeen_8 ⟨Nat.le_of_ble_eq_true rfl, Nat.le_of_ble_eq_true rfl⟩) (fun z_6 g_7 H locs hw G => ?_)
  obtain ⟨x_8, f_9, e_10⟩ := hw
  have f_11 := frX.tr f_4 f_9
  replace e_10 : z_6 = f 25 := e_10.trans abF_2
  replace e_10 := e_10.symm
  subst e_10
  refine lv_istore_n (lv' := [(2, .int (iz (f 25))), (1, .int (iz nl)), (0, .ref (ad 0))]) C.1.1 C.1.2.1 dL_isSeen_11 rfl hl (by decide) rfl (fun ls hl => ?_)
  refine g_iconst (a := 0) C dL_isSeen_12 rfl ?_
  refine lv_istore_n (lv' := [(3, .int (iz 0)), (2, .int (iz (f 25))), (1, .int (iz nl)), (0, .ref (ad 0))]) C.1.1 C.1.2.1 dL_isSeen_13 rfl hl (by decide) rfl (fun ls hl => ?_)
  refine g_iload_n C dL_isSeen_14 rfl hl 1 rfl ?_
  refine g_bipush (a := 8) C dL_isSeen_15 (by decide) ?_
  refine g_icmp_gt (tgt := 24) C (by omega) (by decide) dL_isSeen_17 (by decide) (fun c_12 => absurd c_12 (by omega)) (fun c_12 => ?_)
  refine g_iconst (a := 1) C dL_isSeen_20 rfl ?_
  refine g_goto (tgt := 25) C dL_isSeen_21 (by decide) ?_
  refine lv_istore (lv' := [(4, .int (iz 1)), (3, .int (iz 0)), (2, .int (iz (f 25))), (1, .int (iz nl)), (0, .ref (ad 0))]) C.1.1 C.1.2.1 dL_isSeen_25 hl (by decide) rfl (fun ls hl => ?_)
  refine g_iconst (a := 0) C dL_isSeen_27 rfl ?_
  refine lv_istore (lv' := [(5, .int (iz 0)), (4, .int (iz 1)), (3, .int (iz 0)), (2, .int (iz (f 25))), (1, .int (iz nl)), (0, .ref (ad 0))]) C.1.1 C.1.2.1 dL_isSeen_28 hl (by decide) rfl (fun ls hl => ?_)
  have lp_30_n_14 : ∀ (k_13 : Nat) (k : Int) (fi : Int) (gv : Nat → va_E), (nl - k).toNat < k_13 → (XI κ ad gv HP nl f F9 M9) → (frX n g gv) → (0 ≤ k ∧ k ≤ nl) → (fi = ((fb_ct (fun j => dB (FITl f (j : Int))) k.toNat : Nat) : Int)) → (0 ≤ fi ∧ fi ≤ k) → ∀ (H : Heap) (locs : List Loc), gG κ B n ad s gv H locs → ∀ (ls : Array Slot), lv_has ls 8 [(0, .ref (ad 0)), (1, .int (iz nl)), (2, .int (iz (f 25))), (3, .int (iz fi)), (4, .int (iz 1)), (5, .int (iz k))] → W p l e ({ frames := 7, cells := 420, slots := 2520, locals := 144 }) s m args below meth c H locs (2 + 30 * ((k : Int)).toNat) (12 + 180 * ((k : Int)).toNat) (MQ below (gQi κ B n ad (fun z g' => XI κ ad g' HP nl f F9 M9 ∧ frX n g g' ∧ z = 1)) args s 420 2520 (gFree B)) (F0 m 30 ls []) := by
    intro k_13
    induction k_13 with
    | zero => intro k fi gv hm; exact absurd hm (Nat.not_lt_zero _)
    | succ k_13 ih_lp_30_n_14 =>
      intro k fi gv hm hx hf hk hfi hf0 H locs G ls hl
      refine g_iload C dL_isSeen_30 hl 5 rfl ?_
      refine g_iload_n C dL_isSeen_32 rfl hl 1 rfl ?_
      refine g_icmp_ge (tgt := 108) C (by omega) (by omega) dL_isSeen_33 (by decide) (fun c_15 => ?_) (fun c_15 => ?_)
      · have hke : k = nl := by omega
        rw [hke] at hfi
        have hfN : fitN nl f = fi := hfi.symm
        refine g_iconst (a := 0) C dL_isSeen_108 rfl ?_
        refine lv_istore (lv' := [(5, .int (iz 0)), (0, .ref (ad 0)), (1, .int (iz nl)), (2, .int (iz (f 25))), (3, .int (iz fi)), (4, .int (iz 1))]) C.1.1 C.1.2.1 dL_isSeen_109 hl (by decide) rfl (fun ls hl => ?_)
        have lp_111_n_17 : ∀ (k_16 : Nat) (i3 : Int) (gv3 : Nat → va_E), (f 25 - i3).toNat < k_16 → (XI κ ad gv3 HP nl f F9 M9) → (frX n g gv3) → (0 ≤ i3 ∧ i3 ≤ f 25) → ∀ (H : Heap) (locs : List Loc), gG κ B n ad s gv3 H locs → ∀ (ls : Array Slot), lv_has ls 8 [(0, .ref (ad 0)), (1, .int (iz nl)), (2, .int (iz (f 25))), (3, .int (iz fi)), (4, .int (iz 1)), (5, .int (iz i3))] → W p l e ({ frames := 7, cells := 420, slots := 2520, locals := 144 }) s m args below meth c H locs (2 + 30 * ((k : Int)).toNat + 25 * ((i3 : Int)).toNat) (12 + 180 * ((k : Int)).toNat + 150 * ((i3 : Int)).toNat) (MQ below (gQi κ B n ad (fun z g' => XI κ ad g' HP nl f F9 M9 ∧ frX n g g' ∧ z = 1)) args s 420 2520 (gFree B)) (F0 m 111 ls []) := by
          intro k_16
          induction k_16 with
          | zero => intro i3 gv3 hm; exact absurd hm (Nat.not_lt_zero _)
          | succ k_16 ih_lp_111_n_17 =>
            intro i3 gv3 hm hx3 hf3 hi3 H locs G ls hl
            refine g_iload C dL_isSeen_111 hl 5 rfl ?_
            refine g_iload_n C dL_isSeen_113 rfl hl 2 rfl ?_
            refine g_icmp_ge (tgt := 199) C (by omega) (by omega) dL_isSeen_114 (by decide) (fun c_18 => ?_) (fun c_18 => ?_)
            · refine g_iload C dL_isSeen_199 hl 4 rfl ?_
              refine g_if_eq (tgt := 218) C (by decide) dL_isSeen_201 (by decide) (fun c9 => absurd c9 (by decide)) (fun _ => ?_)
              refine g_aload_n C dL_isSeen_204 rfl hl 0 rfl ?_
              refine g_bipush (a := 6) C dL_isSeen_205 (by decide) ?_
              refine g_ci C G (g_runVP (As := [.int (iz 6)]) (rest := []) (pos := 0) C G X (q_about l hlf κ B n ad gv3 HP nl f F9 M9 6 hnn hx3 (by decide)) (cwV 1 C.1.2.2.2.2 gL_isSeen_X7_about rfl rfl rfl (by decide +kernel) ⟨Nat.le_of_ble_eq_true rfl, Nat.le_of_ble_eq_true rfl⟩) (by omega) hx3.he (T := TX7) (N := 8) rfl rfl hl rfl (Nat.le_of_ble_eq_true rfl) dL_isSeen_207 ⟨by show 2 + 30 * ((k : Int)).toNat + 25 * ((i3 : Int)).toNat + 1 ≤ 420; omega, by show 12 + 180 * ((k : Int)).toNat + 150 * ((i3 : Int)).toNat + 6 ≤ 2520; omega⟩) (fun z_19 g_20 H locs hw G => ?_)
              obtain ⟨x_21, f_22, e_23⟩ := hw
              have f_24 := frX.tr hf3 f_22
              replace e_23 : z_19 = fitN nl f := e_23.trans abF_6
              replace e_23 := e_23.symm
              subst e_23
              refine g_iload_n C dL_isSeen_210 rfl hl 3 rfl ?_
              refine g_icmp_ne (tgt := 218) C (by omega) (by omega) dL_isSeen_211 (by decide) (fun c_25 => absurd c_25 (by omega)) (fun c_25 => ?_)
              refine g_iconst (a := 1) C dL_isSeen_214 rfl ?_
              refine g_goto (tgt := 219) C dL_isSeen_215 (by decide) ?_
              refine g_zret C G hr hlk (by decide) (by omega) (by omega) dL_isSeen_219 ?_
              exact ⟨x_21, f_24, rfl⟩
            · have hsi := hok.2.2.2.2 i3 (by omega) (by omega)
              refine g_iconst (a := 0) C dL_isSeen_117 rfl ?_
              refine lv_istore (lv' := [(6, .int (iz 0)), (0, .ref (ad 0)), (1, .int (iz nl)), (2, .int (iz (f 25))), (3, .int (iz fi)), (4, .int (iz 1)), (5, .int (iz i3))]) C.1.1 C.1.2.1 dL_isSeen_118 hl (by decide) rfl (fun ls hl => ?_)
              refine g_iconst (a := 0) C dL_isSeen_120 rfl ?_
              refine lv_istore (lv' := [(7, .int (iz 0)), (6, .int (iz 0)), (0, .ref (ad 0)), (1, .int (iz nl)), (2, .int (iz (f 25))), (3, .int (iz fi)), (4, .int (iz 1)), (5, .int (iz i3))]) C.1.1 C.1.2.1 dL_isSeen_121 hl (by decide) rfl (fun ls hl => ?_)
              have lp_123_n_27 : ∀ (k_26 : Nat) (l4 : Int) (h4 : Int) (gv4 : Nat → va_E), (nl - l4).toNat < k_26 → (XI κ ad gv4 HP nl f F9 M9) → (frX n g gv4) → (0 ≤ l4 ∧ l4 ≤ nl) → (h4 = ((fb_ct (fun j => dB (PTl f (j : Int) (f (26 + 2 * i3)) (f (27 + 2 * i3)))) l4.toNat : Nat) : Int)) → (0 ≤ h4 ∧ h4 ≤ l4) → ∀ (H : Heap) (locs : List Loc), gG κ B n ad s gv4 H locs → ∀ (ls : Array Slot), lv_has ls 8 [(0, .ref (ad 0)), (1, .int (iz nl)), (2, .int (iz (f 25))), (3, .int (iz fi)), (4, .int (iz 1)), (5, .int (iz i3)), (6, .int (iz h4)), (7, .int (iz l4))] → W p l e ({ frames := 7, cells := 420, slots := 2520, locals := 144 }) s m args below meth c H locs (2 + 30 * ((k : Int)).toNat + 25 * ((i3 : Int)).toNat + 3 * ((l4 : Int)).toNat) (12 + 180 * ((k : Int)).toNat + 150 * ((i3 : Int)).toNat + 18 * ((l4 : Int)).toNat) (MQ below (gQi κ B n ad (fun z g' => XI κ ad g' HP nl f F9 M9 ∧ frX n g g' ∧ z = 1)) args s 420 2520 (gFree B)) (F0 m 123 ls []) := by
                intro k_26
                induction k_26 with
                | zero => intro l4 h4 gv4 hm; exact absurd hm (Nat.not_lt_zero _)
                | succ k_26 ih_lp_123_n_27 =>
                  intro l4 h4 gv4 hm hx4 hf4 hl4 hh4 hh40 H locs G ls hl
                  refine g_iload C dL_isSeen_123 hl 7 rfl ?_
                  refine g_iload_n C dL_isSeen_125 rfl hl 1 rfl ?_
                  refine g_icmp_ge (tgt := 169) C (by omega) (by omega) dL_isSeen_126 (by decide) (fun c_28 => ?_) (fun c_28 => ?_)
                  · have hle : l4 = nl := by omega
                    rw [hle] at hh4
                    have hth : thrN nl f (f (26 + 2 * i3)) (f (27 + 2 * i3)) = h4 := hh4.symm
                    refine g_iload C dL_isSeen_169 hl 4 rfl ?_
                    refine g_if_eq (tgt := 190) C (by decide) dL_isSeen_171 (by decide) (fun c9 => absurd c9 (by decide)) (fun _ => ?_)
                    refine g_aload_n C dL_isSeen_174 rfl hl 0 rfl ?_
                    refine g_iload C dL_isSeen_175 hl 5 rfl ?_
                    refine g_iconst (a := 2) C dL_isSeen_177 rfl ?_
                    refine g_ci C G (g_runVP (As := [.int (iz i3), .int (iz 2)]) (rest := []) (pos := 0) C G X (q_sighting l hlf κ B n ad gv4 HP nl f F9 M9 i3 2 hnn hx4 ⟨by omega, by omega⟩ (by decide)) (cwV 2 C.1.2.2.2.2 gL_isSeen_X7_sighting rfl rfl rfl (by decide +kernel) ⟨Nat.le_of_ble_eq_true rfl, Nat.le_of_ble_eq_true rfl⟩) (by omega) hx4.he (T := TX7) (N := 8) rfl rfl hl rfl (Nat.le_of_ble_eq_true rfl) dL_isSeen_178 ⟨by show 2 + 30 * ((k : Int)).toNat + 25 * ((i3 : Int)).toNat + 3 * ((l4 : Int)).toNat + 1 ≤ 420; omega, by show 12 + 180 * ((k : Int)).toNat + 150 * ((i3 : Int)).toNat + 18 * ((l4 : Int)).toNat + 6 ≤ 2520; omega⟩) (fun z_29 g_30 H locs hw G => ?_)
                    obtain ⟨x_31, f_32, e_33⟩ := hw
                    have f_34 := frX.tr hf4 f_32
                    replace e_33 : z_29 = thrN nl f (f (26 + 2 * i3)) (f (27 + 2 * i3)) := e_33.trans siF_2
                    replace e_33 := e_33.symm
                    subst e_33
                    refine g_iload C dL_isSeen_181 hl 6 rfl ?_
                    refine g_icmp_ne (tgt := 190) C (by omega) (by omega) dL_isSeen_183 (by decide) (fun c_35 => absurd c_35 (by omega)) (fun c_35 => ?_)
                    refine g_iconst (a := 1) C dL_isSeen_186 rfl ?_
                    refine g_goto (tgt := 191) C dL_isSeen_187 (by decide) ?_
                    refine lv_istore (lv' := [(4, .int (iz 1)), (0, .ref (ad 0)), (1, .int (iz nl)), (2, .int (iz (f 25))), (3, .int (iz fi)), (5, .int (iz i3)), (6, .int (iz h4)), (7, .int (iz l4))]) C.1.1 C.1.2.1 dL_isSeen_191 hl (by decide) rfl (fun ls hl => ?_)
                    refine lv_iinc (v := iz (i3 + 1)) (lv' := [(5, .int (iz (i3 + 1))), (4, .int (iz 1)), (0, .ref (ad 0)), (1, .int (iz nl)), (2, .int (iz (f 25))), (3, .int (iz fi)), (6, .int (iz h4)), (7, .int (iz l4))]) C.1.1 C.1.2.1 dL_isSeen_193 hl (k := 5) rfl (g_inc (by omega)) (by decide) rfl (fun ls hl => ?_)
                    refine g_goto (tgt := 111) C dL_isSeen_196 (by decide) ?_
                    refine W.widen (k := 2 + 30 * ((k : Int)).toNat + 25 * ((i3 + 1 : Int)).toNat) (n := 12 + 180 * ((k : Int)).toNat + 150 * ((i3 + 1 : Int)).toNat) (by omega) (by omega) ?_
                    exact ih_lp_111_n_17 (i3 + 1) g_30 (by omega) x_31 f_34 (by omega) _ _ G _ (lv_sub hl [2, 3, 4, 5, 1, 0] rfl)
                  · have hkl : 0 ≤ l4 ∧ l4 < nl := ⟨by omega, by omega⟩
                    have ppd := pd_rg hok hkl
                    refine g_aload_n C dL_isSeen_129 rfl hl 0 rfl ?_
                    refine g_iload C dL_isSeen_130 hl 7 rfl ?_
                    refine g_aload_n C dL_isSeen_132 rfl hl 0 rfl ?_
                    refine g_iload C dL_isSeen_133 hl 5 rfl ?_
                    refine g_iconst (a := 0) C dL_isSeen_135 rfl ?_
                    refine g_ci C G (g_runVP (As := [.int (iz i3), .int (iz 0)]) (rest := [.int (iz l4), .ref (ad 0)]) (pos := 0) C G X (q_sighting l hlf κ B n ad gv4 HP nl f F9 M9 i3 0 hnn hx4 ⟨by omega, by omega⟩ (by decide)) (cwV 2 C.1.2.2.2.2 gL_isSeen_X7_sighting rfl rfl rfl (by decide +kernel) ⟨Nat.le_of_ble_eq_true rfl, Nat.le_of_ble_eq_true rfl⟩) (by omega) hx4.he (T := TX7) (N := 8) rfl rfl hl rfl (Nat.le_of_ble_eq_true rfl) dL_isSeen_136 ⟨by show 2 + 30 * ((k : Int)).toNat + 25 * ((i3 : Int)).toNat + 3 * ((l4 : Int)).toNat + 1 ≤ 420; omega, by show 12 + 180 * ((k : Int)).toNat + 150 * ((i3 : Int)).toNat + 18 * ((l4 : Int)).toNat + 6 ≤ 2520; omega⟩) (fun z_36 g_37 H locs hw G => ?_)
                    obtain ⟨x_38, f_39, e_40⟩ := hw
                    have f_41 := frX.tr hf4 f_39
                    replace e_40 : z_36 = f (26 + 2 * i3) := e_40.trans siF_0
                    replace e_40 := e_40.symm
                    subst e_40
                    refine g_aload_n C dL_isSeen_139 rfl hl 0 rfl ?_
                    refine g_iload C dL_isSeen_140 hl 5 rfl ?_
                    refine g_iconst (a := 1) C dL_isSeen_142 rfl ?_
                    refine g_ci C G (g_runVP (As := [.int (iz i3), .int (iz 1)]) (rest := [.int (iz (f (26 + 2 * i3))), .int (iz l4), .ref (ad 0)]) (pos := 0) C G X (q_sighting l hlf κ B n ad g_37 HP nl f F9 M9 i3 1 hnn x_38 ⟨by omega, by omega⟩ (by decide)) (cwV 2 C.1.2.2.2.2 gL_isSeen_X7_sighting rfl rfl rfl (by decide +kernel) ⟨Nat.le_of_ble_eq_true rfl, Nat.le_of_ble_eq_true rfl⟩) (by omega) x_38.he (T := TX7) (N := 8) rfl rfl hl rfl (Nat.le_of_ble_eq_true rfl) dL_isSeen_143 ⟨by show 2 + 30 * ((k : Int)).toNat + 25 * ((i3 : Int)).toNat + 3 * ((l4 : Int)).toNat + 1 + 1 ≤ 420; omega, by show 12 + 180 * ((k : Int)).toNat + 150 * ((i3 : Int)).toNat + 18 * ((l4 : Int)).toNat + 6 + 6 ≤ 2520; omega⟩) (fun z_42 g_43 H locs hw G => ?_)
                    obtain ⟨x_44, f_45, e_46⟩ := hw
                    have f_47 := frX.tr f_41 f_45
                    replace e_46 : z_42 = f (27 + 2 * i3) := e_46.trans siF_1
                    replace e_46 := e_46.symm
                    subst e_46
                    refine g_ci C G (g_runVP (As := [.int (iz l4), .int (iz (f (26 + 2 * i3))), .int (iz (f (27 + 2 * i3)))]) (rest := []) (pos := 0) C G X (q_comes l hlf κ B n ad g_43 HP nl f F9 M9 l4 (f (26 + 2 * i3)) (f (27 + 2 * i3)) hnn x_44 hkl hsi.1 hsi.2) (cwV 3 C.1.2.2.2.2 gL_isSeen_X7_comes rfl rfl rfl (by decide +kernel) ⟨Nat.le_of_ble_eq_true rfl, Nat.le_of_ble_eq_true rfl⟩) (by omega) x_44.he (T := TX7) (N := 8) rfl rfl hl rfl (Nat.le_of_ble_eq_true rfl) dL_isSeen_146 ⟨by show 2 + 30 * ((k : Int)).toNat + 25 * ((i3 : Int)).toNat + 3 * ((l4 : Int)).toNat + 2 + 1 ≤ 420; omega, by show 12 + 180 * ((k : Int)).toNat + 150 * ((i3 : Int)).toNat + 18 * ((l4 : Int)).toNat + 12 + 6 ≤ 2520; omega⟩) (fun z_48 g_49 H locs hw G => ?_)
                    obtain ⟨x_50, f_51, e_52⟩ := hw
                    have f_53 := frX.tr f_47 f_51
                    rcases co_iff e_52 with ⟨z0, hp⟩ | ⟨z0, hp⟩
                    · have hz9 := e_52.rg
                      refine g_if_lt (tgt := 159) C (by omega) dL_isSeen_149 (by decide) (fun c_54 => absurd c_54 (by omega)) (fun c_54 => ?_)
                      refine g_iload C dL_isSeen_152 hl 6 rfl ?_
                      refine g_iconst (a := 1) C dL_isSeen_154 rfl ?_
                      refine g_iadd C dL_isSeen_155 ?_
                      refine g_goto (tgt := 161) C dL_isSeen_156 (by decide) ?_
                      refine lv_istore (lv' := [(6, .int (iz (h4 + 1))), (0, .ref (ad 0)), (1, .int (iz nl)), (2, .int (iz (f 25))), (3, .int (iz fi)), (4, .int (iz 1)), (5, .int (iz i3)), (7, .int (iz l4))]) C.1.1 C.1.2.1 dL_isSeen_161 hl (by decide) rfl (fun ls hl => ?_)
                      refine lv_iinc (v := iz (l4 + 1)) (lv' := [(7, .int (iz (l4 + 1))), (6, .int (iz (h4 + 1))), (0, .ref (ad 0)), (1, .int (iz nl)), (2, .int (iz (f 25))), (3, .int (iz fi)), (4, .int (iz 1)), (5, .int (iz i3))]) C.1.1 C.1.2.1 dL_isSeen_163 hl (k := 7) rfl (g_inc (by omega)) (by decide) rfl (fun ls hl => ?_)
                      refine g_goto (tgt := 123) C dL_isSeen_166 (by decide) ?_
                      refine W.widen (k := 2 + 30 * ((k : Int)).toNat + 25 * ((i3 : Int)).toNat + 3 * ((l4 + 1 : Int)).toNat) (n := 12 + 180 * ((k : Int)).toNat + 150 * ((i3 : Int)).toNat + 18 * ((l4 + 1 : Int)).toNat) (by omega) (by omega) ?_
                      exact ih_lp_123_n_27 (l4 + 1) (h4 + 1) g_49 (by omega) x_50 f_53 (by omega) (ct_in (P := fun j => PTl f j (f (26 + 2 * i3)) (f (27 + 2 * i3))) (by omega) hh4 hp) (by omega) _ _ G _ (lv_sub hl [2, 3, 4, 5, 6, 7, 1, 0] rfl)
                    · have hz9 := e_52.rg
                      refine g_if_lt (tgt := 159) C (by omega) dL_isSeen_149 (by decide) (fun c_55 => ?_) (fun c_55 => absurd c_55 (by omega))
                      refine g_iload C dL_isSeen_159 hl 6 rfl ?_
                      refine lv_istore (lv' := [(6, .int (iz h4)), (0, .ref (ad 0)), (1, .int (iz nl)), (2, .int (iz (f 25))), (3, .int (iz fi)), (4, .int (iz 1)), (5, .int (iz i3)), (7, .int (iz l4))]) C.1.1 C.1.2.1 dL_isSeen_161 hl (by decide) rfl (fun ls hl => ?_)
                      refine lv_iinc (v := iz (l4 + 1)) (lv' := [(7, .int (iz (l4 + 1))), (6, .int (iz h4)), (0, .ref (ad 0)), (1, .int (iz nl)), (2, .int (iz (f 25))), (3, .int (iz fi)), (4, .int (iz 1)), (5, .int (iz i3))]) C.1.1 C.1.2.1 dL_isSeen_163 hl (k := 7) rfl (g_inc (by omega)) (by decide) rfl (fun ls hl => ?_)
                      refine g_goto (tgt := 123) C dL_isSeen_166 (by decide) ?_
                      refine W.widen (k := 2 + 30 * ((k : Int)).toNat + 25 * ((i3 : Int)).toNat + 3 * ((l4 + 1 : Int)).toNat) (n := 12 + 180 * ((k : Int)).toNat + 150 * ((i3 : Int)).toNat + 18 * ((l4 + 1 : Int)).toNat) (by omega) (by omega) ?_
                      exact ih_lp_123_n_27 (l4 + 1) h4 g_49 (by omega) x_50 f_53 (by omega) (ct_out (P := fun j => PTl f j (f (26 + 2 * i3)) (f (27 + 2 * i3))) (by omega) hh4 hp) (by omega) _ _ G _ (lv_sub hl [2, 3, 4, 5, 6, 7, 1, 0] rfl)
              refine W.widen (k := 2 + 30 * ((k : Int)).toNat + 25 * ((i3 : Int)).toNat + 3 * ((0 : Int)).toNat) (n := 12 + 180 * ((k : Int)).toNat + 150 * ((i3 : Int)).toNat + 18 * ((0 : Int)).toNat) (by omega) (by omega) ?_
              exact lp_123_n_27 _ 0 0 gv3 (Nat.lt_succ_self _) hx3 hf3 (by omega) rfl (by omega) _ _ G _ (lv_sub hl [2, 3, 4, 5, 6, 7, 1, 0] rfl)
        refine W.widen (k := 2 + 30 * ((k : Int)).toNat + 25 * ((0 : Int)).toNat) (n := 12 + 180 * ((k : Int)).toNat + 150 * ((0 : Int)).toNat) (by omega) (by omega) ?_
        exact lp_111_n_17 _ 0 gv (Nat.lt_succ_self _) hx hf (by omega) _ _ G _ (lv_sub hl [1, 2, 3, 4, 5, 0] rfl)
      · have hkl : 0 ≤ k ∧ k < nl := ⟨by omega, by omega⟩
        have ppd := pd_rg hok hkl
        refine g_iconst (a := 0) C dL_isSeen_36 rfl ?_
        refine lv_istore (lv' := [(6, .int (iz 0)), (0, .ref (ad 0)), (1, .int (iz nl)), (2, .int (iz (f 25))), (3, .int (iz fi)), (4, .int (iz 1)), (5, .int (iz k))]) C.1.1 C.1.2.1 dL_isSeen_37 hl (by decide) rfl (fun ls hl => ?_)
        refine g_iconst (a := 0) C dL_isSeen_39 rfl ?_
        refine lv_istore (lv' := [(7, .int (iz 0)), (6, .int (iz 0)), (0, .ref (ad 0)), (1, .int (iz nl)), (2, .int (iz (f 25))), (3, .int (iz fi)), (4, .int (iz 1)), (5, .int (iz k))]) C.1.1 C.1.2.1 dL_isSeen_40 hl (by decide) rfl (fun ls hl => ?_)
        have lp_42_n_57 : ∀ (k_56 : Nat) (i : Int) (ha : Int) (gv2 : Nat → va_E), (f 25 - i).toNat < k_56 → (XI κ ad gv2 HP nl f F9 M9) → (frX n g gv2) → (0 ≤ i ∧ i ≤ f 25) → (ha = ((fb_ct (fun j => dB (PTl f k (f (26 + 2 * (j : Int))) (f (27 + 2 * (j : Int))))) i.toNat : Nat) : Int)) → (0 ≤ ha ∧ ha ≤ i) → ∀ (H : Heap) (locs : List Loc), gG κ B n ad s gv2 H locs → ∀ (ls : Array Slot), lv_has ls 8 [(0, .ref (ad 0)), (1, .int (iz nl)), (2, .int (iz (f 25))), (3, .int (iz fi)), (4, .int (iz 1)), (5, .int (iz k)), (6, .int (iz ha)), (7, .int (iz i))] → W p l e ({ frames := 7, cells := 420, slots := 2520, locals := 144 }) s m args below meth c H locs (2 + 30 * ((k : Int)).toNat + 3 * ((i : Int)).toNat) (12 + 180 * ((k : Int)).toNat + 18 * ((i : Int)).toNat) (MQ below (gQi κ B n ad (fun z g' => XI κ ad g' HP nl f F9 M9 ∧ frX n g g' ∧ z = 1)) args s 420 2520 (gFree B)) (F0 m 42 ls []) := by
          intro k_56
          induction k_56 with
          | zero => intro i ha gv2 hm; exact absurd hm (Nat.not_lt_zero _)
          | succ k_56 ih_lp_42_n_57 =>
            intro i ha gv2 hm hx2 hf2 hi hha hh0 H locs G ls hl
            refine g_iload C dL_isSeen_42 hl 7 rfl ?_
            refine g_iload_n C dL_isSeen_44 rfl hl 2 rfl ?_
            refine g_icmp_ge (tgt := 88) C (by omega) (by omega) dL_isSeen_45 (by decide) (fun c_58 => ?_) (fun c_58 => ?_)
            · have hie : i = f 25 := by omega
              rw [hie] at hha
              have hft := fit_ct hok hha
              refine g_iload C dL_isSeen_88 hl 6 rfl ?_
              refine g_iload_n C dL_isSeen_90 rfl hl 2 rfl ?_
              refine g_icmp_ne (tgt := 100) C (by omega) (by omega) dL_isSeen_91 (by decide) (fun c_59 => ?_) (fun c_59 => ?_)
              · refine g_iload_n C dL_isSeen_100 rfl hl 3 rfl ?_
                refine lv_istore_n (lv' := [(3, .int (iz fi)), (0, .ref (ad 0)), (1, .int (iz nl)), (2, .int (iz (f 25))), (4, .int (iz 1)), (5, .int (iz k)), (6, .int (iz ha)), (7, .int (iz i))]) C.1.1 C.1.2.1 dL_isSeen_101 rfl hl (by decide) rfl (fun ls hl => ?_)
                refine lv_iinc (v := iz (k + 1)) (lv' := [(5, .int (iz (k + 1))), (3, .int (iz fi)), (0, .ref (ad 0)), (1, .int (iz nl)), (2, .int (iz (f 25))), (4, .int (iz 1)), (6, .int (iz ha)), (7, .int (iz i))]) C.1.1 C.1.2.1 dL_isSeen_102 hl (k := 5) rfl (g_inc (by omega)) (by decide) rfl (fun ls hl => ?_)
                refine g_goto (tgt := 30) C dL_isSeen_105 (by decide) ?_
                refine W.widen (k := 2 + 30 * ((k + 1 : Int)).toNat) (n := 12 + 180 * ((k + 1 : Int)).toNat) (by omega) (by omega) ?_
                exact ih_lp_30_n_14 (k + 1) fi gv2 (by omega) hx2 hf2 (by omega) (ct_out (P := fun j => FITl f j) (by omega) hfi (fun q => absurd (hft.mpr q) (by omega))) (by omega) _ _ G _ (lv_sub hl [2, 3, 4, 1, 5, 0] rfl)
              · refine g_iload_n C dL_isSeen_94 rfl hl 3 rfl ?_
                refine g_iconst (a := 1) C dL_isSeen_95 rfl ?_
                refine g_iadd C dL_isSeen_96 ?_
                refine g_goto (tgt := 101) C dL_isSeen_97 (by decide) ?_
                refine lv_istore_n (lv' := [(3, .int (iz (fi + 1))), (0, .ref (ad 0)), (1, .int (iz nl)), (2, .int (iz (f 25))), (4, .int (iz 1)), (5, .int (iz k)), (6, .int (iz ha)), (7, .int (iz i))]) C.1.1 C.1.2.1 dL_isSeen_101 rfl hl (by decide) rfl (fun ls hl => ?_)
                refine lv_iinc (v := iz (k + 1)) (lv' := [(5, .int (iz (k + 1))), (3, .int (iz (fi + 1))), (0, .ref (ad 0)), (1, .int (iz nl)), (2, .int (iz (f 25))), (4, .int (iz 1)), (6, .int (iz ha)), (7, .int (iz i))]) C.1.1 C.1.2.1 dL_isSeen_102 hl (k := 5) rfl (g_inc (by omega)) (by decide) rfl (fun ls hl => ?_)
                refine g_goto (tgt := 30) C dL_isSeen_105 (by decide) ?_
                refine W.widen (k := 2 + 30 * ((k + 1 : Int)).toNat) (n := 12 + 180 * ((k + 1 : Int)).toNat) (by omega) (by omega) ?_
                exact ih_lp_30_n_14 (k + 1) (fi + 1) gv2 (by omega) hx2 hf2 (by omega) (ct_in (P := fun j => FITl f j) (by omega) hfi (hft.mp (by omega))) (by omega) _ _ G _ (lv_sub hl [2, 3, 4, 1, 5, 0] rfl)
            · have hsi := hok.2.2.2.2 i (by omega) (by omega)
              refine g_aload_n C dL_isSeen_48 rfl hl 0 rfl ?_
              refine g_iload C dL_isSeen_49 hl 5 rfl ?_
              refine g_aload_n C dL_isSeen_51 rfl hl 0 rfl ?_
              refine g_iload C dL_isSeen_52 hl 7 rfl ?_
              refine g_iconst (a := 0) C dL_isSeen_54 rfl ?_
              refine g_ci C G (g_runVP (As := [.int (iz i), .int (iz 0)]) (rest := [.int (iz k), .ref (ad 0)]) (pos := 0) C G X (q_sighting l hlf κ B n ad gv2 HP nl f F9 M9 i 0 hnn hx2 ⟨by omega, by omega⟩ (by decide)) (cwV 2 C.1.2.2.2.2 gL_isSeen_X7_sighting rfl rfl rfl (by decide +kernel) ⟨Nat.le_of_ble_eq_true rfl, Nat.le_of_ble_eq_true rfl⟩) (by omega) hx2.he (T := TX7) (N := 8) rfl rfl hl rfl (Nat.le_of_ble_eq_true rfl) dL_isSeen_55 ⟨by show 2 + 30 * ((k : Int)).toNat + 3 * ((i : Int)).toNat + 1 ≤ 420; omega, by show 12 + 180 * ((k : Int)).toNat + 18 * ((i : Int)).toNat + 6 ≤ 2520; omega⟩) (fun z_60 g_61 H locs hw G => ?_)
              obtain ⟨x_62, f_63, e_64⟩ := hw
              have f_65 := frX.tr hf2 f_63
              replace e_64 : z_60 = f (26 + 2 * i) := e_64.trans siF_0
              replace e_64 := e_64.symm
              subst e_64
              refine g_aload_n C dL_isSeen_58 rfl hl 0 rfl ?_
              refine g_iload C dL_isSeen_59 hl 7 rfl ?_
              refine g_iconst (a := 1) C dL_isSeen_61 rfl ?_
              refine g_ci C G (g_runVP (As := [.int (iz i), .int (iz 1)]) (rest := [.int (iz (f (26 + 2 * i))), .int (iz k), .ref (ad 0)]) (pos := 0) C G X (q_sighting l hlf κ B n ad g_61 HP nl f F9 M9 i 1 hnn x_62 ⟨by omega, by omega⟩ (by decide)) (cwV 2 C.1.2.2.2.2 gL_isSeen_X7_sighting rfl rfl rfl (by decide +kernel) ⟨Nat.le_of_ble_eq_true rfl, Nat.le_of_ble_eq_true rfl⟩) (by omega) x_62.he (T := TX7) (N := 8) rfl rfl hl rfl (Nat.le_of_ble_eq_true rfl) dL_isSeen_62 ⟨by show 2 + 30 * ((k : Int)).toNat + 3 * ((i : Int)).toNat + 1 + 1 ≤ 420; omega, by show 12 + 180 * ((k : Int)).toNat + 18 * ((i : Int)).toNat + 6 + 6 ≤ 2520; omega⟩) (fun z_66 g_67 H locs hw G => ?_)
              obtain ⟨x_68, f_69, e_70⟩ := hw
              have f_71 := frX.tr f_65 f_69
              replace e_70 : z_66 = f (27 + 2 * i) := e_70.trans siF_1
              replace e_70 := e_70.symm
              subst e_70
              refine g_ci C G (g_runVP (As := [.int (iz k), .int (iz (f (26 + 2 * i))), .int (iz (f (27 + 2 * i)))]) (rest := []) (pos := 0) C G X (q_comes l hlf κ B n ad g_67 HP nl f F9 M9 k (f (26 + 2 * i)) (f (27 + 2 * i)) hnn x_68 hkl hsi.1 hsi.2) (cwV 3 C.1.2.2.2.2 gL_isSeen_X7_comes rfl rfl rfl (by decide +kernel) ⟨Nat.le_of_ble_eq_true rfl, Nat.le_of_ble_eq_true rfl⟩) (by omega) x_68.he (T := TX7) (N := 8) rfl rfl hl rfl (Nat.le_of_ble_eq_true rfl) dL_isSeen_65 ⟨by show 2 + 30 * ((k : Int)).toNat + 3 * ((i : Int)).toNat + 2 + 1 ≤ 420; omega, by show 12 + 180 * ((k : Int)).toNat + 18 * ((i : Int)).toNat + 12 + 6 ≤ 2520; omega⟩) (fun z_72 g_73 H locs hw G => ?_)
              obtain ⟨x_74, f_75, e_76⟩ := hw
              have f_77 := frX.tr f_71 f_75
              rcases co_iff e_76 with ⟨z0, hp⟩ | ⟨z0, hp⟩
              · have hz9 := e_76.rg
                refine g_if_lt (tgt := 78) C (by omega) dL_isSeen_68 (by decide) (fun c_78 => absurd c_78 (by omega)) (fun c_78 => ?_)
                refine g_iload C dL_isSeen_71 hl 6 rfl ?_
                refine g_iconst (a := 1) C dL_isSeen_73 rfl ?_
                refine g_iadd C dL_isSeen_74 ?_
                refine g_goto (tgt := 80) C dL_isSeen_75 (by decide) ?_
                refine lv_istore (lv' := [(6, .int (iz (ha + 1))), (0, .ref (ad 0)), (1, .int (iz nl)), (2, .int (iz (f 25))), (3, .int (iz fi)), (4, .int (iz 1)), (5, .int (iz k)), (7, .int (iz i))]) C.1.1 C.1.2.1 dL_isSeen_80 hl (by decide) rfl (fun ls hl => ?_)
                refine lv_iinc (v := iz (i + 1)) (lv' := [(7, .int (iz (i + 1))), (6, .int (iz (ha + 1))), (0, .ref (ad 0)), (1, .int (iz nl)), (2, .int (iz (f 25))), (3, .int (iz fi)), (4, .int (iz 1)), (5, .int (iz k))]) C.1.1 C.1.2.1 dL_isSeen_82 hl (k := 7) rfl (g_inc (by omega)) (by decide) rfl (fun ls hl => ?_)
                refine g_goto (tgt := 42) C dL_isSeen_85 (by decide) ?_
                refine W.widen (k := 2 + 30 * ((k : Int)).toNat + 3 * ((i + 1 : Int)).toNat) (n := 12 + 180 * ((k : Int)).toNat + 18 * ((i + 1 : Int)).toNat) (by omega) (by omega) ?_
                exact ih_lp_42_n_57 (i + 1) (ha + 1) g_73 (by omega) x_74 f_77 (by omega) (ct_in (P := fun j => PTl f k (f (26 + 2 * j)) (f (27 + 2 * j))) (by omega) hha hp) (by omega) _ _ G _ (lv_sub hl [2, 3, 4, 5, 6, 7, 1, 0] rfl)
              · have hz9 := e_76.rg
                refine g_if_lt (tgt := 78) C (by omega) dL_isSeen_68 (by decide) (fun c_79 => ?_) (fun c_79 => absurd c_79 (by omega))
                refine g_iload C dL_isSeen_78 hl 6 rfl ?_
                refine lv_istore (lv' := [(6, .int (iz ha)), (0, .ref (ad 0)), (1, .int (iz nl)), (2, .int (iz (f 25))), (3, .int (iz fi)), (4, .int (iz 1)), (5, .int (iz k)), (7, .int (iz i))]) C.1.1 C.1.2.1 dL_isSeen_80 hl (by decide) rfl (fun ls hl => ?_)
                refine lv_iinc (v := iz (i + 1)) (lv' := [(7, .int (iz (i + 1))), (6, .int (iz ha)), (0, .ref (ad 0)), (1, .int (iz nl)), (2, .int (iz (f 25))), (3, .int (iz fi)), (4, .int (iz 1)), (5, .int (iz k))]) C.1.1 C.1.2.1 dL_isSeen_82 hl (k := 7) rfl (g_inc (by omega)) (by decide) rfl (fun ls hl => ?_)
                refine g_goto (tgt := 42) C dL_isSeen_85 (by decide) ?_
                refine W.widen (k := 2 + 30 * ((k : Int)).toNat + 3 * ((i + 1 : Int)).toNat) (n := 12 + 180 * ((k : Int)).toNat + 18 * ((i + 1 : Int)).toNat) (by omega) (by omega) ?_
                exact ih_lp_42_n_57 (i + 1) ha g_73 (by omega) x_74 f_77 (by omega) (ct_out (P := fun j => PTl f k (f (26 + 2 * j)) (f (27 + 2 * j))) (by omega) hha hp) (by omega) _ _ G _ (lv_sub hl [2, 3, 4, 5, 6, 7, 1, 0] rfl)
        refine W.widen (k := 2 + 30 * ((k : Int)).toNat + 3 * ((0 : Int)).toNat) (n := 12 + 180 * ((k : Int)).toNat + 18 * ((0 : Int)).toNat) (by omega) (by omega) ?_
        exact lp_42_n_57 _ 0 0 gv (Nat.lt_succ_self _) hx hf (by omega) rfl (by omega) _ _ G _ (lv_sub hl [2, 3, 4, 5, 6, 7, 1, 0] rfl)
  refine W.widen (k := 2 + 30 * ((0 : Int)).toNat) (n := 12 + 180 * ((0 : Int)).toNat) (by omega) (by omega) ?_
  exact lp_30_n_14 _ 0 0 g_7 (Nat.lt_succ_self _) x_8 f_11 (by omega) rfl (by omega) _ _ G _ (lv_sub hl [5, 4, 3, 2, 1, 0] rfl)
