/-! TWO PLATES: the second one lies behind the first; what holds of one holds of the other with the places changed -/
def sg (k : Nat) : Nat := if k < 192 then k + 192 else if k < 384 then k - 192 else k
theorem sg_lo {k : Nat} (h : k < 192) : sg k = k + 192 := if_pos h
theorem sg_hi {k : Nat} (h : 192 ≤ k) (h2 : k < 384) : sg k = k - 192 := (if_neg (by omega)).trans (if_pos h2)
theorem sg_out {k : Nat} (h : 384 ≤ k) : sg k = k := (if_neg (by omega)).trans (if_neg (by omega))
theorem sg_sg (k : Nat) : sg (sg k) = k := by
  by_cases h : k < 192
  · rw [sg_lo h, sg_hi (by omega) (by omega)]
    omega
  · by_cases h2 : k < 384
    · rw [sg_hi (by omega) h2, sg_lo (by omega)]
      omega
    · rw [sg_out (k := k) (by omega), sg_out (k := k) (by omega)]
theorem sg_lt {k : Nat} (h : k < 384) : sg k < 384 := by
  by_cases h1 : k < 192
  · rw [sg_lo h1]
    omega
  · rw [sg_hi (by omega) h]
    omega
theorem sg_fun {α : Type} (u : Nat → α) : (fun k => u (sg (sg k))) = u := funext fun k => by rw [sg_sg]
section SW
variable {κ : gKap} {B : Nat} {ad : Nat → Nat} {g g' : Nat → va_E} {H : Heap}
theorem gP_sw (h : gP κ 384 ad g H) : gP κ 384 (fun k => ad (sg k)) (fun k => g (sg k)) H := by
  intro k q hq
  obtain ⟨hk, rfl⟩ := gW_of hq
  exact h (sg k) _ (gW_at (sg_lt hk))
theorem gP_ws {u : Nat → va_E} (h : gP κ 384 (fun k => ad (sg k)) u H) : gP κ 384 ad (fun k => u (sg k)) H := by
  have h2 := gP_sw h
  rw [sg_fun ad] at h2
  exact h2
theorem gD_sw (h : gD B 384 ad) : gD B 384 (fun k => ad (sg k)) :=
  ⟨fun i j hi hj e => by
    have h1 := h.1 (sg i) (sg j) (sg_lt hi) (sg_lt hj) e
    rw [← sg_sg i, h1, sg_sg], fun i hi => h.2 _ (sg_lt hi)⟩
theorem sw_met {l : Launch} {y : MethodName} {ws : List Cond} {rm : Room} {As : List Value} {post : Int → (Nat → va_E) → Prop} {mc ms : Nat} (M : Met l y ws rm (gPreX κ B 384 (fun k => ad (sg k)) (fun k => g (sg k)) As) (gQi κ B 384 (fun k => ad (sg k)) post) mc ms (gFree B)) : Met l y ws rm (gPreX κ B 384 ad g As) (gQi κ B 384 ad (fun z g2 => post z (fun k => g2 (sg k)))) mc ms (gFree B) := by
  refine MetFree.mono M (fun a s h => ?_) (fun _ _ _ _ _ h => h) (fun a s o t _ h => ?_)
  · obtain ⟨e, ⟨hB, hP, hK, hD⟩, hX⟩ := h
    exact ⟨e, ⟨hB, gP_sw hP, hK, gD_sw hD⟩, hX⟩
  · obtain ⟨⟨⟨r, u, e, ⟨z, rfl, hq⟩, hB⟩, hF⟩, hL⟩ := h
    exact ⟨⟨⟨_, fun k => u (sg k), e, ⟨z, rfl, by show post z (fun k => u (sg (sg k))); rw [sg_fun u]; exact hq⟩, gP_ws hB⟩, hF⟩, hL⟩
theorem sw_metL {l : Launch} {y : MethodName} {ws : List Cond} {rm : Room} {As : List Value} {post : Int → (Nat → va_E) → Prop} {mc ms : Nat} (M : Met l y ws rm (gPreX κ B 384 (fun k => ad (sg k)) (fun k => g (sg k)) As) (gQl κ B 384 (fun k => ad (sg k)) post) mc ms (gFree B)) : Met l y ws rm (gPreX κ B 384 ad g As) (gQl κ B 384 ad (fun z g2 => post z (fun k => g2 (sg k)))) mc ms (gFree B) := by
  refine MetFree.mono M (fun a s h => ?_) (fun _ _ _ _ _ h => h) (fun a s o t _ h => ?_)
  · obtain ⟨e, ⟨hB, hP, hK, hD⟩, hX⟩ := h
    exact ⟨e, ⟨hB, gP_sw hP, hK, gD_sw hD⟩, hX⟩
  · obtain ⟨⟨⟨r, u, e, ⟨z, rfl, hq⟩, hB⟩, hF⟩, hL⟩ := h
    exact ⟨⟨⟨_, fun k => u (sg k), e, ⟨z, rfl, by show post z (fun k => u (sg (sg k))); rw [sg_fun u]; exact hq⟩, gP_ws hB⟩, hF⟩, hL⟩
variable {HP : gHP} {nl : Int} {f F9 : Int → Int} {M9 : Int → Int × (Int → Int)}
theorem sw_far (h : XI κ (fun k => ad (sg k)) (fun k => g (sg k)) HP nl f F9 M9) (hf : frX 384 g g') : XI κ (fun k => ad (sg k)) (fun k => g' (sg k)) HP nl f F9 M9 :=
  h.far (fun q hq => hf (sg q) (by rw [sg_lo hq]; omega) (by rw [sg_lo hq]; omega))
theorem sw_far2 (h : XI κ ad g HP nl f F9 M9) (hf : frX 384 (fun k => g (sg k)) (fun k => g' (sg k))) : XI κ ad g' HP nl f F9 M9 :=
  h.far (fun q hq => by
    have h1 := hf (q + 192) (by omega) (by omega)
    have e : sg (q + 192) = q := by
      rw [sg_hi (by omega) (by omega)]
      omega
    dsimp only at h1
    rw [e] at h1
    exact h1)
end SW
theorem abF_rg {nl w : Int} {f : Int → Int} (hok : okPl nl f) (hw : 0 ≤ w ∧ w ≤ 6) : -9 ≤ abF nl f w ∧ abF nl f w ≤ 100000 := by
  have h1 := hok.1
  have h2 := hok.2.1
  have h3 := hok.2.2.1
  have h4 := cntS_le (ALLp nl f)
  have h5 := ends_A hok nl.toNat (by omega)
  have h6 := fb_ct_le (fun l => dB (FITl f (l : Int))) nl.toNat
  have h7 : -9 ≤ lsA f nl.toNat ∧ lsA f nl.toNat ≤ 280 ∧ -9 ≤ grA f nl.toNat ∧ grA f nl.toNat ≤ 280 := by
    by_cases q : nl = 0
    · have := h5.1 (by omega)
      omega
    · have := (h5.2 (by omega)).1
      omega
  have h8 : fitN nl f = ((fb_ct (fun l => dB (FITl f (l : Int))) nl.toNat : Nat) : Int) := rfl
  rcases (show w = 0 ∨ w = 1 ∨ w = 2 ∨ w = 3 ∨ w = 4 ∨ w = 5 ∨ w = 6 by omega) with rfl | rfl | rfl | rfl | rfl | rfl | rfl
  · rw [abF_0]; omega
  · rw [abF_1]; omega
  · rw [abF_2]; omega
  · rw [abF_3]; omega
  · rw [abF_4]; omega
  · rw [abF_5]; omega
  · rw [abF_6, h8]; omega
theorem lyF_rg {nl l w : Int} {f : Int → Int} (hok : okPl nl f) (hl : 0 ≤ l ∧ l < nl) (hw : 0 ≤ w ∧ w ≤ 9) : 0 ≤ lyF f l w ∧ lyF f l w ≤ 100000 := by
  obtain ⟨a1, a2, a3, a4⟩ := hok.lay9 hl
  have b := pd_rg hok hl
  obtain ⟨-, -, -, c1, c2⟩ := ly_per hok hl
  have d := cn_le (f := f) l
  have e := ls_rg hok hl
  have a5 := a1.2
  rcases (show w = 0 ∨ w = 1 ∨ w = 2 ∨ w = 3 ∨ w = 4 ∨ w = 5 ∨ w = 6 ∨ w = 7 ∨ w = 8 ∨ w = 9 by omega) with rfl | rfl | rfl | rfl | rfl | rfl | rfl | rfl | rfl | rfl
  · rw [lyF_0]; omega
  · rw [lyF_1]; omega
  · rw [lyF_2]; omega
  · rw [lyF_3]; omega
  · rw [lyF_4]; omega
  · rw [lyF_5]; omega
  · rw [lyF_6]; omega
  · rw [lyF_7]; omega
  · rw [lyF_8]; omega
  · rw [lyF_9]; omega
theorem tgF_rg {nl : Int} {f : Int → Int} (hok : okPl nl f) : 0 ≤ tgF nl f ∧ tgF nl f ≤ 562949953421312 := by
  by_cases q : nl = 0
  · have e : tgF nl f = 0 := if_pos q
    omega
  · exact (tg_mod hok (l := 0) ⟨by omega, by have := hok.1; omega⟩).1
theorem bkF_rg {nl : Int} {f : Int → Int} (hok : okPl nl f) : -9 ≤ bkF nl f ∧ bkF nl f ≤ 1000 := by
  by_cases q : nl = 0
  · have e : bkF nl f = -9 := if_pos q
    omega
  · have h1 := hok.1
    have h := blank_le hok (by omega)
    have h5 := ((ends_A hok nl.toNat (by omega)).2 (by omega)).1
    omega
set_option maxHeartbeats 4000000 in
set_option maxRecDepth 100000 in
theorem c_L_areAlike (l : Launch) (hlf : l.stackTraces = false) (κ : gKap) (B : Nat) (ad : Nat → Nat) (g : Nat → va_E) (HP : gHP) (HP2 : gHP) (nl : Int) (f : Int → Int) (F9 : Int → Int) (M9 : Int → Int × (Int → Int)) (h : XI κ ad g HP nl f F9 M9) (h2 : XI κ (fun k => ad (sg k)) (fun k => g (sg k)) HP2 nl f F9 M9) : Met l yL_areAlike wsL_areAlike ({ frames := 7, cells := 320, slots := 1920, locals := 144 }) (gPreX κ B 384 ad g [.ref (ad 0), .ref (ad 192)]) (gQi κ B 384 ad (fun z g' => z = 1)) 320 1920 (gFree B) := by
  refine g_metP RL (cc := cL_areAlike) (maxL := 5) (ret := (some .boolean)) (by decide) rfl rfl (Nat.le_of_ble_eq_true rfl) ?_
  intro p e s m args below meth c C hr hlk X G ls hl
  have hl : lv_has ls 5 [(0, .ref (ad 0)), (1, .ref (ad 192))] := hl
  have hnn : 192 ≤ 384 := by omega
  have hok := h.ok
  have hn6 := hok.1
  have h25 := hok.2.2.1
  have hr0 := hok.2.1
  have htg := tgF_rg hok
  have hbk := bkF_rg hok
  refine g_aload_n C dL_areAlike_0 rfl hl 0 rfl ?_
  refine g_cl C G (g_runVP (As := []) (rest := []) (pos := 0) C G X (q_together l hlf κ B 384 ad g _ nl f F9 M9 hnn h) (cwV 0 C.1.2.2.2.2 gL_areAlike_X7_together rfl rfl rfl (by decide +kernel) ⟨Nat.le_of_ble_eq_true rfl, Nat.le_of_ble_eq_true rfl⟩) (by omega) h.he (T := TX7) (N := 8) rfl rfl hl rfl (Nat.le_of_ble_eq_true rfl) dL_areAlike_1 ⟨Nat.le_of_ble_eq_true rfl, Nat.le_of_ble_eq_true rfl⟩) (fun z_1 g_2 H locs hw G => ?_)
  obtain ⟨x_3, f_4, e_5⟩ := hw
  have y_6 := sw_far h2 f_4
  replace e_5 := e_5.symm
  subst e_5
  refine g_aload_n C dL_areAlike_4 rfl hl 1 rfl ?_
  refine g_cl C G (g_runVP (As := []) (rest := [.long (jz (tgF nl f))]) (pos := 192) C G X (sw_metL (q_together l hlf κ B 384 (fun k => ad (sg k)) (fun k => g_2 (sg k)) _ nl f F9 M9 hnn y_6)) (cwV 0 C.1.2.2.2.2 gL_areAlike_X7_together rfl rfl rfl (by decide +kernel) ⟨Nat.le_of_ble_eq_true rfl, Nat.le_of_ble_eq_true rfl⟩) (by omega) y_6.he (T := TX7) (N := 8) rfl rfl hl rfl (Nat.le_of_ble_eq_true rfl) dL_areAlike_5 ⟨Nat.le_of_ble_eq_true rfl, Nat.le_of_ble_eq_true rfl⟩) (fun z_7 g_8 H locs hw G => ?_)
  obtain ⟨x_9, f_10, e_11⟩ := hw
  have y_12 := sw_far2 x_3 f_10
  replace e_11 := e_11.symm
  subst e_11
  refine g_lcmp C (by omega) (by omega) dL_areAlike_8 (fun z_13 h_14 => ?_)
  refine g_if_ne (tgt := 27) C (by omega) dL_areAlike_9 (by decide) (fun c_15 => absurd c_15 (by omega)) (fun c_15 => ?_)
  refine g_aload_n C dL_areAlike_12 rfl hl 0 rfl ?_
  refine g_ci C G (g_runVP (As := []) (rest := []) (pos := 0) C G X (q_blank l hlf κ B 384 ad g_8 _ nl f F9 M9 hnn y_12) (cwV 0 C.1.2.2.2.2 gL_areAlike_X7_blank rfl rfl rfl (by decide +kernel) ⟨Nat.le_of_ble_eq_true rfl, Nat.le_of_ble_eq_true rfl⟩) (by omega) y_12.he (T := TX7) (N := 8) rfl rfl hl rfl (Nat.le_of_ble_eq_true rfl) dL_areAlike_13 ⟨Nat.le_of_ble_eq_true rfl, Nat.le_of_ble_eq_true rfl⟩) (fun z_16 g_17 H locs hw G => ?_)
  obtain ⟨x_18, f_19, e_20⟩ := hw
  have y_21 := sw_far x_9 f_19
  replace e_20 := e_20.symm
  subst e_20
  refine g_aload_n C dL_areAlike_16 rfl hl 1 rfl ?_
  refine g_ci C G (g_runVP (As := []) (rest := [.int (iz (bkF nl f))]) (pos := 192) C G X (sw_met (q_blank l hlf κ B 384 (fun k => ad (sg k)) (fun k => g_17 (sg k)) _ nl f F9 M9 hnn y_21)) (cwV 0 C.1.2.2.2.2 gL_areAlike_X7_blank rfl rfl rfl (by decide +kernel) ⟨Nat.le_of_ble_eq_true rfl, Nat.le_of_ble_eq_true rfl⟩) (by omega) y_21.he (T := TX7) (N := 8) rfl rfl hl rfl (Nat.le_of_ble_eq_true rfl) dL_areAlike_17 ⟨Nat.le_of_ble_eq_true rfl, Nat.le_of_ble_eq_true rfl⟩) (fun z_22 g_23 H locs hw G => ?_)
  obtain ⟨x_24, f_25, e_26⟩ := hw
  have y_27 := sw_far2 x_18 f_25
  replace e_26 := e_26.symm
  subst e_26
  refine g_icmp_ne (tgt := 27) C (by omega) (by omega) dL_areAlike_20 (by decide) (fun c_28 => absurd c_28 (by omega)) (fun c_28 => ?_)
  refine g_iconst (a := 1) C dL_areAlike_23 rfl ?_
  refine g_goto (tgt := 28) C dL_areAlike_24 (by decide) ?_
  refine lv_istore_n (lv' := [(2, .int (iz 1)), (0, .ref (ad 0)), (1, .ref (ad 192))]) C.1.1 C.1.2.1 dL_areAlike_28 rfl hl (by decide) rfl (fun ls hl => ?_)
  refine g_iconst (a := 0) C dL_areAlike_29 rfl ?_
  refine lv_istore_n (lv' := [(3, .int (iz 0)), (2, .int (iz 1)), (0, .ref (ad 0)), (1, .ref (ad 192))]) C.1.1 C.1.2.1 dL_areAlike_30 rfl hl (by decide) rfl (fun ls hl => ?_)
  have lp_31_n_30 : ∀ (k_29 : Nat) (w9 : Int) (gv : Nat → va_E), (7 - w9).toNat < k_29 → (XI κ ad gv HP nl f F9 M9) → (True) → (XI κ (fun k => ad (sg k)) (fun k => gv (sg k)) HP2 nl f F9 M9) → (0 ≤ w9 ∧ w9 ≤ 7) → ∀ (H : Heap) (locs : List Loc), gG κ B 384 ad s gv H locs → ∀ (ls : Array Slot), lv_has ls 5 [(0, .ref (ad 0)), (1, .ref (ad 192)), (2, .int (iz 1)), (3, .int (iz w9))] → W p l e ({ frames := 7, cells := 320, slots := 1920, locals := 144 }) s m args below meth c H locs (0 + 2 * ((w9 : Int)).toNat) (0 + 12 * ((w9 : Int)).toNat) (MQ below (gQi κ B 384 ad (fun z g' => z = 1)) args s 320 1920 (gFree B)) (F0 m 31 ls []) := by
    intro k_29
    induction k_29 with
    | zero => intro w9 gv hm; exact absurd hm (Nat.not_lt_zero _)
    | succ k_29 ih_lp_31_n_30 =>
      intro w9 gv hm hx hf hy hw H locs G ls hl
      refine g_iload_n C dL_areAlike_31 rfl hl 3 rfl ?_
      refine g_bipush (a := 7) C dL_areAlike_32 (by decide) ?_
      refine g_icmp_ge (tgt := 66) C (by omega) (by decide) dL_areAlike_34 (by decide) (fun c_31 => ?_) (fun c_31 => ?_)
      · refine g_iconst (a := 0) C dL_areAlike_66 rfl ?_
        refine lv_istore_n (lv' := [(3, .int (iz 0)), (0, .ref (ad 0)), (1, .ref (ad 192)), (2, .int (iz 1))]) C.1.1 C.1.2.1 dL_areAlike_67 rfl hl (by decide) rfl (fun ls hl => ?_)
        have lp_68_n_33 : ∀ (k_32 : Nat) (k : Int) (gv2 : Nat → va_E), (nl - k).toNat < k_32 → (XI κ ad gv2 HP nl f F9 M9) → (True) → (XI κ (fun k => ad (sg k)) (fun k => gv2 (sg k)) HP2 nl f F9 M9) → (0 ≤ k ∧ k ≤ nl) → ∀ (H : Heap) (locs : List Loc), gG κ B 384 ad s gv2 H locs → ∀ (ls : Array Slot), lv_has ls 5 [(0, .ref (ad 0)), (1, .ref (ad 192)), (2, .int (iz 1)), (3, .int (iz k))] → W p l e ({ frames := 7, cells := 320, slots := 1920, locals := 144 }) s m args below meth c H locs (0 + 2 * ((w9 : Int)).toNat + 30 * ((k : Int)).toNat) (0 + 12 * ((w9 : Int)).toNat + 180 * ((k : Int)).toNat) (MQ below (gQi κ B 384 ad (fun z g' => z = 1)) args s 320 1920 (gFree B)) (F0 m 68 ls []) := by
          intro k_32
          induction k_32 with
          | zero => intro k gv2 hm; exact absurd hm (Nat.not_lt_zero _)
          | succ k_32 ih_lp_68_n_33 =>
            intro k gv2 hm hx2 hf2 hy2 hk H locs G ls hl
            refine g_iload_n C dL_areAlike_68 rfl hl 3 rfl ?_
            refine g_aload_n C dL_areAlike_69 rfl hl 0 rfl ?_
            refine g_iconst (a := 1) C dL_areAlike_70 rfl ?_
            refine g_ci C G (g_runVP (As := [.int (iz 1)]) (rest := [.int (iz k)]) (pos := 0) C G X (q_about l hlf κ B 384 ad gv2 _ nl f F9 M9 1 hnn hx2 (by decide)) (cwV 1 C.1.2.2.2.2 gL_areAlike_X7_about rfl rfl rfl (by decide +kernel) ⟨Nat.le_of_ble_eq_true rfl, Nat.le_of_ble_eq_true rfl⟩) (by omega) hx2.he (T := TX7) (N := 8) rfl rfl hl rfl (Nat.le_of_ble_eq_true rfl) dL_areAlike_71 ⟨by show 0 + 2 * ((w9 : Int)).toNat + 30 * ((k : Int)).toNat + 1 ≤ 320; omega, by show 0 + 12 * ((w9 : Int)).toNat + 180 * ((k : Int)).toNat + 6 ≤ 1920; omega⟩) (fun z_34 g_35 H locs hw G => ?_)
            obtain ⟨x_36, f_37, e_38⟩ := hw
            have y_39 := sw_far hy2 f_37
            replace e_38 : z_34 = nl := e_38.trans abF_1
            replace e_38 := e_38.symm
            subst e_38
            refine g_icmp_ge (tgt := 126) C (by omega) (by omega) dL_areAlike_74 (by decide) (fun c_40 => ?_) (fun c_40 => ?_)
            · refine g_iconst (a := 0) C dL_areAlike_126 rfl ?_
              refine lv_istore_n (lv' := [(3, .int (iz 0)), (0, .ref (ad 0)), (1, .ref (ad 192)), (2, .int (iz 1))]) C.1.1 C.1.2.1 dL_areAlike_127 rfl hl (by decide) rfl (fun ls hl => ?_)
              have lp_128_n_42 : ∀ (k_41 : Nat) (i : Int) (gv4 : Nat → va_E), (f 25 - i).toNat < k_41 → (XI κ ad gv4 HP nl f F9 M9) → (True) → (XI κ (fun k => ad (sg k)) (fun k => gv4 (sg k)) HP2 nl f F9 M9) → (0 ≤ i ∧ i ≤ f 25) → ∀ (H : Heap) (locs : List Loc), gG κ B 384 ad s gv4 H locs → ∀ (ls : Array Slot), lv_has ls 5 [(0, .ref (ad 0)), (1, .ref (ad 192)), (2, .int (iz 1)), (3, .int (iz i))] → W p l e ({ frames := 7, cells := 320, slots := 1920, locals := 144 }) s m args below meth c H locs (0 + 2 * ((w9 : Int)).toNat + 30 * ((k : Int)).toNat + 1 + 8 * ((i : Int)).toNat) (0 + 12 * ((w9 : Int)).toNat + 180 * ((k : Int)).toNat + 6 + 48 * ((i : Int)).toNat) (MQ below (gQi κ B 384 ad (fun z g' => z = 1)) args s 320 1920 (gFree B)) (F0 m 128 ls []) := by
                intro k_41
                induction k_41 with
                | zero => intro i gv4 hm; exact absurd hm (Nat.not_lt_zero _)
                | succ k_41 ih_lp_128_n_42 =>
                  intro i gv4 hm hx4 hf4 hy4 hi H locs G ls hl
                  refine g_iload_n C dL_areAlike_128 rfl hl 3 rfl ?_
                  refine g_aload_n C dL_areAlike_129 rfl hl 0 rfl ?_
                  refine g_iconst (a := 2) C dL_areAlike_130 rfl ?_
                  refine g_ci C G (g_runVP (As := [.int (iz 2)]) (rest := [.int (iz i)]) (pos := 0) C G X (q_about l hlf κ B 384 ad gv4 _ nl f F9 M9 2 hnn hx4 (by decide)) (cwV 1 C.1.2.2.2.2 gL_areAlike_X7_about rfl rfl rfl (by decide +kernel) ⟨Nat.le_of_ble_eq_true rfl, Nat.le_of_ble_eq_true rfl⟩) (by omega) hx4.he (T := TX7) (N := 8) rfl rfl hl rfl (Nat.le_of_ble_eq_true rfl) dL_areAlike_131 ⟨by show 0 + 2 * ((w9 : Int)).toNat + 30 * ((k : Int)).toNat + 1 + 8 * ((i : Int)).toNat + 1 ≤ 320; omega, by show 0 + 12 * ((w9 : Int)).toNat + 180 * ((k : Int)).toNat + 6 + 48 * ((i : Int)).toNat + 6 ≤ 1920; omega⟩) (fun z_43 g_44 H locs hw G => ?_)
                  obtain ⟨x_45, f_46, e_47⟩ := hw
                  have y_48 := sw_far hy4 f_46
                  replace e_47 : z_43 = f 25 := e_47.trans abF_2
                  replace e_47 := e_47.symm
                  subst e_47
                  refine g_icmp_ge (tgt := 183) C (by omega) (by omega) dL_areAlike_134 (by decide) (fun c_49 => ?_) (fun c_49 => ?_)
                  · refine g_iload_n C dL_areAlike_183 rfl hl 2 rfl ?_
                    refine g_zret C G hr hlk (by decide) (by omega) (by omega) dL_areAlike_184 ?_
                    exact rfl
                  · have hsi := hok.2.2.2.2 i (by omega) (by omega)
                    refine g_iload_n C dL_areAlike_137 rfl hl 2 rfl ?_
                    refine g_if_eq (tgt := 175) C (by decide) dL_areAlike_138 (by decide) (fun c9 => absurd c9 (by decide)) (fun _ => ?_)
                    refine g_aload_n C dL_areAlike_141 rfl hl 0 rfl ?_
                    refine g_iload_n C dL_areAlike_142 rfl hl 3 rfl ?_
                    refine g_iconst (a := 0) C dL_areAlike_143 rfl ?_
                    refine g_ci C G (g_runVP (As := [.int (iz i), .int (iz 0)]) (rest := []) (pos := 0) C G X (q_sighting l hlf κ B 384 ad g_44 _ nl f F9 M9 i 0 hnn x_45 ⟨by omega, by omega⟩ (by decide)) (cwV 2 C.1.2.2.2.2 gL_areAlike_X7_sighting rfl rfl rfl (by decide +kernel) ⟨Nat.le_of_ble_eq_true rfl, Nat.le_of_ble_eq_true rfl⟩) (by omega) x_45.he (T := TX7) (N := 8) rfl rfl hl rfl (Nat.le_of_ble_eq_true rfl) dL_areAlike_144 ⟨by show 0 + 2 * ((w9 : Int)).toNat + 30 * ((k : Int)).toNat + 1 + 8 * ((i : Int)).toNat + 1 + 1 ≤ 320; omega, by show 0 + 12 * ((w9 : Int)).toNat + 180 * ((k : Int)).toNat + 6 + 48 * ((i : Int)).toNat + 6 + 6 ≤ 1920; omega⟩) (fun z_50 g_51 H locs hw G => ?_)
                    obtain ⟨x_52, f_53, e_54⟩ := hw
                    have y_55 := sw_far y_48 f_53
                    replace e_54 : z_50 = f (26 + 2 * i) := e_54.trans siF_0
                    replace e_54 := e_54.symm
                    subst e_54
                    refine g_aload_n C dL_areAlike_147 rfl hl 1 rfl ?_
                    refine g_iload_n C dL_areAlike_148 rfl hl 3 rfl ?_
                    refine g_iconst (a := 0) C dL_areAlike_149 rfl ?_
                    refine g_ci C G (g_runVP (As := [.int (iz i), .int (iz 0)]) (rest := [.int (iz (f (26 + 2 * i)))]) (pos := 192) C G X (sw_met (q_sighting l hlf κ B 384 (fun k => ad (sg k)) (fun k => g_51 (sg k)) _ nl f F9 M9 i 0 hnn y_55 ⟨by omega, by omega⟩ (by decide))) (cwV 2 C.1.2.2.2.2 gL_areAlike_X7_sighting rfl rfl rfl (by decide +kernel) ⟨Nat.le_of_ble_eq_true rfl, Nat.le_of_ble_eq_true rfl⟩) (by omega) y_55.he (T := TX7) (N := 8) rfl rfl hl rfl (Nat.le_of_ble_eq_true rfl) dL_areAlike_150 ⟨by show 0 + 2 * ((w9 : Int)).toNat + 30 * ((k : Int)).toNat + 1 + 8 * ((i : Int)).toNat + 2 + 1 ≤ 320; omega, by show 0 + 12 * ((w9 : Int)).toNat + 180 * ((k : Int)).toNat + 6 + 48 * ((i : Int)).toNat + 12 + 6 ≤ 1920; omega⟩) (fun z_56 g_57 H locs hw G => ?_)
                    obtain ⟨x_58, f_59, e_60⟩ := hw
                    have y_61 := sw_far2 x_52 f_59
                    replace e_60 : z_56 = f (26 + 2 * i) := e_60.trans siF_0
                    replace e_60 := e_60.symm
                    subst e_60
                    refine g_icmp_ne (tgt := 175) C (by omega) (by omega) dL_areAlike_153 (by decide) (fun c_62 => absurd c_62 (by omega)) (fun c_62 => ?_)
                    refine g_aload_n C dL_areAlike_156 rfl hl 0 rfl ?_
                    refine g_iload_n C dL_areAlike_157 rfl hl 3 rfl ?_
                    refine g_iconst (a := 1) C dL_areAlike_158 rfl ?_
                    refine g_ci C G (g_runVP (As := [.int (iz i), .int (iz 1)]) (rest := []) (pos := 0) C G X (q_sighting l hlf κ B 384 ad g_57 _ nl f F9 M9 i 1 hnn y_61 ⟨by omega, by omega⟩ (by decide)) (cwV 2 C.1.2.2.2.2 gL_areAlike_X7_sighting rfl rfl rfl (by decide +kernel) ⟨Nat.le_of_ble_eq_true rfl, Nat.le_of_ble_eq_true rfl⟩) (by omega) y_61.he (T := TX7) (N := 8) rfl rfl hl rfl (Nat.le_of_ble_eq_true rfl) dL_areAlike_159 ⟨by show 0 + 2 * ((w9 : Int)).toNat + 30 * ((k : Int)).toNat + 1 + 8 * ((i : Int)).toNat + 3 + 1 ≤ 320; omega, by show 0 + 12 * ((w9 : Int)).toNat + 180 * ((k : Int)).toNat + 6 + 48 * ((i : Int)).toNat + 18 + 6 ≤ 1920; omega⟩) (fun z_63 g_64 H locs hw G => ?_)
                    obtain ⟨x_65, f_66, e_67⟩ := hw
                    have y_68 := sw_far x_58 f_66
                    replace e_67 : z_63 = f (27 + 2 * i) := e_67.trans siF_1
                    replace e_67 := e_67.symm
                    subst e_67
                    refine g_aload_n C dL_areAlike_162 rfl hl 1 rfl ?_
                    refine g_iload_n C dL_areAlike_163 rfl hl 3 rfl ?_
                    refine g_iconst (a := 1) C dL_areAlike_164 rfl ?_
                    refine g_ci C G (g_runVP (As := [.int (iz i), .int (iz 1)]) (rest := [.int (iz (f (27 + 2 * i)))]) (pos := 192) C G X (sw_met (q_sighting l hlf κ B 384 (fun k => ad (sg k)) (fun k => g_64 (sg k)) _ nl f F9 M9 i 1 hnn y_68 ⟨by omega, by omega⟩ (by decide))) (cwV 2 C.1.2.2.2.2 gL_areAlike_X7_sighting rfl rfl rfl (by decide +kernel) ⟨Nat.le_of_ble_eq_true rfl, Nat.le_of_ble_eq_true rfl⟩) (by omega) y_68.he (T := TX7) (N := 8) rfl rfl hl rfl (Nat.le_of_ble_eq_true rfl) dL_areAlike_165 ⟨by show 0 + 2 * ((w9 : Int)).toNat + 30 * ((k : Int)).toNat + 1 + 8 * ((i : Int)).toNat + 4 + 1 ≤ 320; omega, by show 0 + 12 * ((w9 : Int)).toNat + 180 * ((k : Int)).toNat + 6 + 48 * ((i : Int)).toNat + 24 + 6 ≤ 1920; omega⟩) (fun z_69 g_70 H locs hw G => ?_)
                    obtain ⟨x_71, f_72, e_73⟩ := hw
                    have y_74 := sw_far2 x_65 f_72
                    replace e_73 : z_69 = f (27 + 2 * i) := e_73.trans siF_1
                    replace e_73 := e_73.symm
                    subst e_73
                    refine g_icmp_ne (tgt := 175) C (by omega) (by omega) dL_areAlike_168 (by decide) (fun c_75 => absurd c_75 (by omega)) (fun c_75 => ?_)
                    refine g_iconst (a := 1) C dL_areAlike_171 rfl ?_
                    refine g_goto (tgt := 176) C dL_areAlike_172 (by decide) ?_
                    refine lv_istore_n (lv' := [(2, .int (iz 1)), (0, .ref (ad 0)), (1, .ref (ad 192)), (3, .int (iz i))]) C.1.1 C.1.2.1 dL_areAlike_176 rfl hl (by decide) rfl (fun ls hl => ?_)
                    refine lv_iinc (v := iz (i + 1)) (lv' := [(3, .int (iz (i + 1))), (2, .int (iz 1)), (0, .ref (ad 0)), (1, .ref (ad 192))]) C.1.1 C.1.2.1 dL_areAlike_177 hl (k := 3) rfl (g_inc (by omega)) (by decide) rfl (fun ls hl => ?_)
                    refine g_goto (tgt := 128) C dL_areAlike_180 (by decide) ?_
                    refine W.widen (k := 0 + 2 * ((w9 : Int)).toNat + 30 * ((k : Int)).toNat + 1 + 8 * ((i + 1 : Int)).toNat) (n := 0 + 12 * ((w9 : Int)).toNat + 180 * ((k : Int)).toNat + 6 + 48 * ((i + 1 : Int)).toNat) (by omega) (by omega) ?_
                    exact ih_lp_128_n_42 (i + 1) g_70 (by omega) y_74 trivial x_71 (by omega) _ _ G _ (lv_sub hl [2, 3, 1, 0] rfl)
              refine W.widen (k := 0 + 2 * ((w9 : Int)).toNat + 30 * ((k : Int)).toNat + 1 + 8 * ((0 : Int)).toNat) (n := 0 + 12 * ((w9 : Int)).toNat + 180 * ((k : Int)).toNat + 6 + 48 * ((0 : Int)).toNat) (by omega) (by omega) ?_
              exact lp_128_n_42 _ 0 g_35 (Nat.lt_succ_self _) x_36 trivial y_39 (by omega) _ _ G _ (lv_sub hl [1, 2, 3, 0] rfl)
            · have hkl : 0 ≤ k ∧ k < nl := ⟨by omega, by omega⟩
              refine g_iconst (a := 0) C dL_areAlike_77 rfl ?_
              refine lv_istore (lv' := [(4, .int (iz 0)), (0, .ref (ad 0)), (1, .ref (ad 192)), (2, .int (iz 1)), (3, .int (iz k))]) C.1.1 C.1.2.1 dL_areAlike_78 hl (by decide) rfl (fun ls hl => ?_)
              have lp_80_n_77 : ∀ (k_76 : Nat) (y9 : Int) (gv3 : Nat → va_E), (10 - y9).toNat < k_76 → (XI κ ad gv3 HP nl f F9 M9) → (True) → (XI κ (fun k => ad (sg k)) (fun k => gv3 (sg k)) HP2 nl f F9 M9) → (0 ≤ y9 ∧ y9 ≤ 10) → ∀ (H : Heap) (locs : List Loc), gG κ B 384 ad s gv3 H locs → ∀ (ls : Array Slot), lv_has ls 5 [(0, .ref (ad 0)), (1, .ref (ad 192)), (2, .int (iz 1)), (3, .int (iz k)), (4, .int (iz y9))] → W p l e ({ frames := 7, cells := 320, slots := 1920, locals := 144 }) s m args below meth c H locs (0 + 2 * ((w9 : Int)).toNat + 30 * ((k : Int)).toNat + 1 + 2 * ((y9 : Int)).toNat) (0 + 12 * ((w9 : Int)).toNat + 180 * ((k : Int)).toNat + 6 + 12 * ((y9 : Int)).toNat) (MQ below (gQi κ B 384 ad (fun z g' => z = 1)) args s 320 1920 (gFree B)) (F0 m 80 ls []) := by
                intro k_76
                induction k_76 with
                | zero => intro y9 gv3 hm; exact absurd hm (Nat.not_lt_zero _)
                | succ k_76 ih_lp_80_n_77 =>
                  intro y9 gv3 hm hx3 hf3 hy3 hy9 H locs G ls hl
                  refine g_iload C dL_areAlike_80 hl 4 rfl ?_
                  refine g_bipush (a := 10) C dL_areAlike_82 (by decide) ?_
                  refine g_icmp_ge (tgt := 120) C (by omega) (by decide) dL_areAlike_84 (by decide) (fun c_78 => ?_) (fun c_78 => ?_)
                  · refine lv_iinc (v := iz (k + 1)) (lv' := [(3, .int (iz (k + 1))), (0, .ref (ad 0)), (1, .ref (ad 192)), (2, .int (iz 1)), (4, .int (iz y9))]) C.1.1 C.1.2.1 dL_areAlike_120 hl (k := 3) rfl (g_inc (by omega)) (by decide) rfl (fun ls hl => ?_)
                    refine g_goto (tgt := 68) C dL_areAlike_123 (by decide) ?_
                    refine W.widen (k := 0 + 2 * ((w9 : Int)).toNat + 30 * ((k + 1 : Int)).toNat) (n := 0 + 12 * ((w9 : Int)).toNat + 180 * ((k + 1 : Int)).toNat) (by omega) (by omega) ?_
                    exact ih_lp_68_n_33 (k + 1) gv3 (by omega) hx3 trivial hy3 (by omega) _ _ G _ (lv_sub hl [1, 2, 3, 0] rfl)
                  · have hly := lyF_rg hok hkl (w := y9) ⟨by omega, by omega⟩
                    refine g_iload_n C dL_areAlike_87 rfl hl 2 rfl ?_
                    refine g_if_eq (tgt := 112) C (by decide) dL_areAlike_88 (by decide) (fun c9 => absurd c9 (by decide)) (fun _ => ?_)
                    refine g_aload_n C dL_areAlike_91 rfl hl 0 rfl ?_
                    refine g_iload_n C dL_areAlike_92 rfl hl 3 rfl ?_
                    refine g_iload C dL_areAlike_93 hl 4 rfl ?_
                    refine g_ci C G (g_runVP (As := [.int (iz k), .int (iz y9)]) (rest := []) (pos := 0) C G X (q_layer l hlf κ B 384 ad gv3 _ nl f F9 M9 k y9 hnn hx3 hkl ⟨by omega, by omega⟩) (cwV 2 C.1.2.2.2.2 gL_areAlike_X7_layer rfl rfl rfl (by decide +kernel) ⟨Nat.le_of_ble_eq_true rfl, Nat.le_of_ble_eq_true rfl⟩) (by omega) hx3.he (T := TX7) (N := 8) rfl rfl hl rfl (Nat.le_of_ble_eq_true rfl) dL_areAlike_95 ⟨by show 0 + 2 * ((w9 : Int)).toNat + 30 * ((k : Int)).toNat + 1 + 2 * ((y9 : Int)).toNat + 1 ≤ 320; omega, by show 0 + 12 * ((w9 : Int)).toNat + 180 * ((k : Int)).toNat + 6 + 12 * ((y9 : Int)).toNat + 6 ≤ 1920; omega⟩) (fun z_79 g_80 H locs hw G => ?_)
                    obtain ⟨x_81, f_82, e_83⟩ := hw
                    have y_84 := sw_far hy3 f_82
                    replace e_83 := e_83.symm
                    subst e_83
                    refine g_aload_n C dL_areAlike_98 rfl hl 1 rfl ?_
                    refine g_iload_n C dL_areAlike_99 rfl hl 3 rfl ?_
                    refine g_iload C dL_areAlike_100 hl 4 rfl ?_
                    refine g_ci C G (g_runVP (As := [.int (iz k), .int (iz y9)]) (rest := [.int (iz (lyF f k y9))]) (pos := 192) C G X (sw_met (q_layer l hlf κ B 384 (fun k => ad (sg k)) (fun k => g_80 (sg k)) _ nl f F9 M9 k y9 hnn y_84 hkl ⟨by omega, by omega⟩)) (cwV 2 C.1.2.2.2.2 gL_areAlike_X7_layer rfl rfl rfl (by decide +kernel) ⟨Nat.le_of_ble_eq_true rfl, Nat.le_of_ble_eq_true rfl⟩) (by omega) y_84.he (T := TX7) (N := 8) rfl rfl hl rfl (Nat.le_of_ble_eq_true rfl) dL_areAlike_102 ⟨by show 0 + 2 * ((w9 : Int)).toNat + 30 * ((k : Int)).toNat + 1 + 2 * ((y9 : Int)).toNat + 1 + 1 ≤ 320; omega, by show 0 + 12 * ((w9 : Int)).toNat + 180 * ((k : Int)).toNat + 6 + 12 * ((y9 : Int)).toNat + 6 + 6 ≤ 1920; omega⟩) (fun z_85 g_86 H locs hw G => ?_)
                    obtain ⟨x_87, f_88, e_89⟩ := hw
                    have y_90 := sw_far2 x_81 f_88
                    replace e_89 := e_89.symm
                    subst e_89
                    refine g_icmp_ne (tgt := 112) C (by omega) (by omega) dL_areAlike_105 (by decide) (fun c_91 => absurd c_91 (by omega)) (fun c_91 => ?_)
                    refine g_iconst (a := 1) C dL_areAlike_108 rfl ?_
                    refine g_goto (tgt := 113) C dL_areAlike_109 (by decide) ?_
                    refine lv_istore_n (lv' := [(2, .int (iz 1)), (0, .ref (ad 0)), (1, .ref (ad 192)), (3, .int (iz k)), (4, .int (iz y9))]) C.1.1 C.1.2.1 dL_areAlike_113 rfl hl (by decide) rfl (fun ls hl => ?_)
                    refine lv_iinc (v := iz (y9 + 1)) (lv' := [(4, .int (iz (y9 + 1))), (2, .int (iz 1)), (0, .ref (ad 0)), (1, .ref (ad 192)), (3, .int (iz k))]) C.1.1 C.1.2.1 dL_areAlike_114 hl (k := 4) rfl (g_inc (by omega)) (by decide) rfl (fun ls hl => ?_)
                    refine g_goto (tgt := 80) C dL_areAlike_117 (by decide) ?_
                    refine W.widen (k := 0 + 2 * ((w9 : Int)).toNat + 30 * ((k : Int)).toNat + 1 + 2 * ((y9 + 1 : Int)).toNat) (n := 0 + 12 * ((w9 : Int)).toNat + 180 * ((k : Int)).toNat + 6 + 12 * ((y9 + 1 : Int)).toNat) (by omega) (by omega) ?_
                    exact ih_lp_80_n_77 (y9 + 1) g_86 (by omega) y_90 trivial x_87 (by omega) _ _ G _ (lv_sub hl [2, 3, 1, 4, 0] rfl)
              refine W.widen (k := 0 + 2 * ((w9 : Int)).toNat + 30 * ((k : Int)).toNat + 1 + 2 * ((0 : Int)).toNat) (n := 0 + 12 * ((w9 : Int)).toNat + 180 * ((k : Int)).toNat + 6 + 12 * ((0 : Int)).toNat) (by omega) (by omega) ?_
              exact lp_80_n_77 _ 0 g_35 (Nat.lt_succ_self _) x_36 trivial y_39 (by omega) _ _ G _ (lv_sub hl [1, 2, 3, 4, 0] rfl)
        refine W.widen (k := 0 + 2 * ((w9 : Int)).toNat + 30 * ((0 : Int)).toNat) (n := 0 + 12 * ((w9 : Int)).toNat + 180 * ((0 : Int)).toNat) (by omega) (by omega) ?_
        exact lp_68_n_33 _ 0 gv (Nat.lt_succ_self _) hx trivial hy (by omega) _ _ G _ (lv_sub hl [1, 2, 3, 0] rfl)
      · have hab := abF_rg hok (w := w9) ⟨by omega, by omega⟩
        refine g_iload_n C dL_areAlike_37 rfl hl 2 rfl ?_
        refine g_if_eq (tgt := 58) C (by decide) dL_areAlike_38 (by decide) (fun c9 => absurd c9 (by decide)) (fun _ => ?_)
        refine g_aload_n C dL_areAlike_41 rfl hl 0 rfl ?_
        refine g_iload_n C dL_areAlike_42 rfl hl 3 rfl ?_
        refine g_ci C G (g_runVP (As := [.int (iz w9)]) (rest := []) (pos := 0) C G X (q_about l hlf κ B 384 ad gv _ nl f F9 M9 w9 hnn hx ⟨by omega, by omega⟩) (cwV 1 C.1.2.2.2.2 gL_areAlike_X7_about rfl rfl rfl (by decide +kernel) ⟨Nat.le_of_ble_eq_true rfl, Nat.le_of_ble_eq_true rfl⟩) (by omega) hx.he (T := TX7) (N := 8) rfl rfl hl rfl (Nat.le_of_ble_eq_true rfl) dL_areAlike_43 ⟨by show 0 + 2 * ((w9 : Int)).toNat + 1 ≤ 320; omega, by show 0 + 12 * ((w9 : Int)).toNat + 6 ≤ 1920; omega⟩) (fun z_92 g_93 H locs hw G => ?_)
        obtain ⟨x_94, f_95, e_96⟩ := hw
        have y_97 := sw_far hy f_95
        replace e_96 := e_96.symm
        subst e_96
        refine g_aload_n C dL_areAlike_46 rfl hl 1 rfl ?_
        refine g_iload_n C dL_areAlike_47 rfl hl 3 rfl ?_
        refine g_ci C G (g_runVP (As := [.int (iz w9)]) (rest := [.int (iz (abF nl f w9))]) (pos := 192) C G X (sw_met (q_about l hlf κ B 384 (fun k => ad (sg k)) (fun k => g_93 (sg k)) _ nl f F9 M9 w9 hnn y_97 ⟨by omega, by omega⟩)) (cwV 1 C.1.2.2.2.2 gL_areAlike_X7_about rfl rfl rfl (by decide +kernel) ⟨Nat.le_of_ble_eq_true rfl, Nat.le_of_ble_eq_true rfl⟩) (by omega) y_97.he (T := TX7) (N := 8) rfl rfl hl rfl (Nat.le_of_ble_eq_true rfl) dL_areAlike_48 ⟨by show 0 + 2 * ((w9 : Int)).toNat + 1 + 1 ≤ 320; omega, by show 0 + 12 * ((w9 : Int)).toNat + 6 + 6 ≤ 1920; omega⟩) (fun z_98 g_99 H locs hw G => ?_)
        obtain ⟨x_100, f_101, e_102⟩ := hw
        have y_103 := sw_far2 x_94 f_101
        replace e_102 := e_102.symm
        subst e_102
        refine g_icmp_ne (tgt := 58) C (by omega) (by omega) dL_areAlike_51 (by decide) (fun c_104 => absurd c_104 (by omega)) (fun c_104 => ?_)
        refine g_iconst (a := 1) C dL_areAlike_54 rfl ?_
        refine g_goto (tgt := 59) C dL_areAlike_55 (by decide) ?_
        refine lv_istore_n (lv' := [(2, .int (iz 1)), (0, .ref (ad 0)), (1, .ref (ad 192)), (3, .int (iz w9))]) C.1.1 C.1.2.1 dL_areAlike_59 rfl hl (by decide) rfl (fun ls hl => ?_)
        refine lv_iinc (v := iz (w9 + 1)) (lv' := [(3, .int (iz (w9 + 1))), (2, .int (iz 1)), (0, .ref (ad 0)), (1, .ref (ad 192))]) C.1.1 C.1.2.1 dL_areAlike_60 hl (k := 3) rfl (g_inc (by omega)) (by decide) rfl (fun ls hl => ?_)
        refine g_goto (tgt := 31) C dL_areAlike_63 (by decide) ?_
        refine W.widen (k := 0 + 2 * ((w9 + 1 : Int)).toNat) (n := 0 + 12 * ((w9 + 1 : Int)).toNat) (by omega) (by omega) ?_
        exact ih_lp_31_n_30 (w9 + 1) g_99 (by omega) y_103 trivial x_100 (by omega) _ _ G _ (lv_sub hl [2, 3, 1, 0] rfl)
  refine W.widen (k := 0 + 2 * ((0 : Int)).toNat) (n := 0 + 12 * ((0 : Int)).toNat) (by omega) (by omega) ?_
  exact lp_31_n_30 _ 0 g_23 (Nat.lt_succ_self _) y_27 trivial x_24 (by omega) _ _ G _ (lv_sub hl [2, 3, 1, 0] rfl)
