/-! ROSETTEPLATEMODEL (X8): sizes -/
/-- what the marks say when the number of the marking is mk -/
def mkS (V : Int → Int) (mk : Int) (S : Int → Int → Prop) : Prop := (∀ i, 0 ≤ i → i < 28896 → 0 ≤ V i ∧ V i ≤ mk) ∧ ∀ x y, 0 ≤ x → x < 96 → 0 ≤ y → y ≤ 300 → (V (x * 301 + y) = mk ↔ S x y)
theorem mkS.up {M9 : Int → Int} {mk : Int} (h : ∀ i, 0 ≤ i → i < 28896 → 0 ≤ M9 i ∧ M9 i ≤ mk) : mkS M9 (mk + 1) (fun _ _ => False) :=
  ⟨fun i i0 i1 => by have := h i i0 i1; omega, fun x y x0 x1 y0 y1 => ⟨fun q => by have := h (x * 301 + y) (by omega) (by omega); omega, False.elim⟩⟩
theorem mkS.mark {M9 V f : Int → Int} {mk li : Int} {S : Int → Int → Prop} (h : mkS M9 mk S) (hV : ∀ x y, 0 ≤ x → x < 96 → 0 ≤ y → y ≤ 300 → (V (x * 301 + y) = mk ↔ M9 (x * 301 + y) = mk ∨ PTl f li x y)) (hVo : ∀ i, V i = mk ∨ V i = M9 i) : mkS V mk (fun x y => S x y ∨ PTl f li x y) := by
  refine ⟨fun i i0 i1 => ?_, fun x y x0 x1 y0 y1 => ?_⟩
  · have h1 := h.1 i i0 i1
    rcases hVo i with q | q <;> rw [q] <;> omega
  · rw [hV x y x0 x1 y0 y1, h.2 x y x0 x1 y0 y1]
theorem PTl.lt {f : Int → Int} {li x y : Int} (h0 : 12 ≤ f 0 ∧ f 0 ≤ 96) (h : PTl f li x y) : 0 ≤ x ∧ x < f 0 := by
  obtain ⟨t, _, _, h3, _⟩ := h
  rw [← h3]
  exact ⟨Int.emod_nonneg _ (by omega), Int.emod_lt_of_pos _ (by omega)⟩
theorem mkS.cnt {M9 f : Int → Int} {mk li : Int} {S : Int → Int → Prop} (h : mkS M9 mk S) (h0 : 12 ≤ f 0 ∧ f 0 ≤ 96) : cntS (fun x y => PTl f li x y ∧ ¬ M9 (x * 301 + y) = mk) = cntS (fun x y => PTl f li x y ∧ ¬ S x y) := by
  refine cntS_congr (fun x y x0 x1 y0 y1 => and_congr_right fun q => ?_)
  have := q.lt h0
  rw [h.2 x y x0 (by omega) y0 y1]
theorem mkS.cnt0 {M9 f : Int → Int} {mk li : Int} (h : ∀ i, 0 ≤ i → i < 28896 → 0 ≤ M9 i ∧ M9 i ≤ mk) (h0 : 12 ≤ f 0 ∧ f 0 ≤ 96) : cntS (fun x y => PTl f li x y ∧ ¬ M9 (x * 301 + y) = mk + 1) = cntS (fun x y => PTl f li x y) := by
  rw [(mkS.up h).cnt h0]
  exact cntS_congr (fun x y _ _ _ _ => ⟨And.left, fun q => ⟨q, id⟩⟩)
theorem cntS_or {S T : Int → Int → Prop} : cntS (fun x y => S x y ∨ T x y) = cntS S + cntS (fun x y => T x y ∧ ¬ S x y) := by
  unfold cntS
  rw [← fb_sm_add]
  refine fb_sm_cong fun j hj => ?_
  rw [← fb_ct_or (fun k hk q => (dB_iff.mp q.2).2 (dB_iff.mp q.1))]
  refine fb_ct_cong fun b hb => ?_
  symm
  apply dB_of
  rw [Bool.or_eq_true, dB_iff, dB_iff]
  exact ⟨fun q => q.elim Or.inl (fun q => Or.inr q.1), fun q => Classical.byCases (fun s : S _ _ => Or.inl s) (fun s => q.elim (fun q => absurd q s) (fun q => Or.inr ⟨q, s⟩))⟩
theorem fX8_size_67 : gFld wsX8_size RX8 67 8 4 := ⟨RX8, TX8, 17, rfl, by decide, by decide +kernel, by decide +kernel⟩
theorem fwX8_size_67 : gFldW wsX8_size RX8 67 8 4 .int false := ⟨RX8, TX8, 17, tyX8, rfl, by decide, by decide +kernel, by decide +kernel, tyX8_ok, nmX8, rfl, by decide +kernel, by decide +kernel⟩
set_option maxHeartbeats 4000000 in
set_option maxRecDepth 100000 in
theorem c_X8_size (l : Launch) (κ : gKap) (B n : Nat) (ad : Nat → Nat) (g : Nat → va_E) (ly : Int) (th : Int) (mk : Int) (tx : Int) (rl : Int) (a0 : Int) (wr : Int) (s0 : Int) (s1 : Int) (rm : Int) (f : Int → Int) (M9 : Int → Int) (li : Int) (hn8 : 200 ≤ n) (hM : g 192 = oM ad ly th mk tx rl a0 wr s0 s1 rm) (hN : g 193 = aI κ 42 f) (hK : g 194 = aI κ 28896 M9) (hok : okPl ly f) (hli : 0 ≤ li ∧ li < ly) (hmk : 0 ≤ mk ∧ mk ≤ 900000000) (hMr : ∀ i, 0 ≤ i → i < 28896 → 0 ≤ M9 i ∧ M9 i ≤ mk) : Met l yX8_size wsX8_size ({ frames := 4, cells := 0, slots := 0, locals := 97 }) (gPre κ B n ad g [.ref (ad 192), .int (iz li)]) (gQi κ B n ad (fun z g' => ∃ V, g' = va_up (va_up g 192 (oM ad ly th (mk + 1) tx rl a0 wr s0 s1 rm)) 194 (aI κ 28896 V) ∧ mkS V (mk + 1) (fun x y => False ∨ PTl f li x y) ∧ z = (cntS (fun x y => PTl f li x y) : Int) ∧ 0 ≤ z ∧ z ≤ 5760)) 0 0 (gFree B) := by
  refine g_met RX8 (cc := cX8_size) (maxL := 2) (ret := (some .int)) (by decide) rfl rfl (Nat.le_of_ble_eq_true rfl) ?_
  intro p e s m args below meth c C hr hlk hnm G ls hl
  have hl : lv_has ls 2 [(0, .ref (ad 192)), (1, .int (iz li))] := hl
  obtain ⟨hn6, hv0, hv25, hlay, hsee⟩ := id hok
  refine g_aload_n C dX8_size_0 rfl hl 0 rfl ?_
  refine lv_dup C.1.1 C.1.2.1 dX8_size_1 rfl ?_
  refine g_get C G (pos := 192) fX8_size_67 (by omega) hM rfl dX8_size_2 ?_
  refine g_iconst (a := 1) C dX8_size_5 rfl ?_
  refine g_iadd C dX8_size_6 ?_
  refine g_put C G (pos := 192) (fs' := [.ref (ad 193), .int (iz ly), .int (iz th), .ref (ad 194), .int (iz (mk + 1)), .ref (ad 195), .int (iz tx), .ref (ad 196), .int (iz rl), .int (iz a0), .int (iz wr), .int (iz s0), .int (iz s1), .ref (ad 197), .int (iz rm), .ref (ad 198), .ref (ad 199)]) fwX8_size_67 (by omega) hM (Nat.le_of_ble_eq_true rfl) rfl rfl rfl dX8_size_7 (fun H locs G => ?_)
  obtain ⟨g_1, hg_2⟩ : ∃ g9, g9 = va_up g 192 (.inr (8, [.ref (ad 193), .int (iz ly), .int (iz th), .ref (ad 194), .int (iz (mk + 1)), .ref (ad 195), .int (iz tx), .ref (ad 196), .int (iz rl), .int (iz a0), .int (iz wr), .int (iz s0), .int (iz s1), .ref (ad 197), .int (iz rm), .ref (ad 198), .ref (ad 199)])) := ⟨_, rfl⟩
  rw [← hg_2] at G
  have hc_3 : g_1 192 = .inr (8, [.ref (ad 193), .int (iz ly), .int (iz th), .ref (ad 194), .int (iz (mk + 1)), .ref (ad 195), .int (iz tx), .ref (ad 196), .int (iz rl), .int (iz a0), .int (iz wr), .int (iz s0), .int (iz s1), .ref (ad 197), .int (iz rm), .ref (ad 198), .ref (ad 199)]) := by rw [hg_2]; exact gu_self _ _ _
  have hc_4 : g_1 193 = aI κ 42 f := by rw [hg_2, gu_ne (by decide)]; exact hN
  have hc_5 : g_1 194 = aI κ 28896 M9 := by rw [hg_2, gu_ne (by decide)]; exact hK
  refine g_aload_n C dX8_size_10 rfl hl 0 rfl ?_
  refine g_iload_n C dX8_size_11 rfl hl 1 rfl ?_
  refine g_ci C G (g_runV (As := [.int (iz li)]) (rest := []) (pos := 192) C G (c_X8_mark l κ B n ad g_1 ly th (mk + 1) tx rl a0 wr s0 s1 rm f M9 li hn8 hc_3 hc_4 hc_5 hok (by omega) (by omega) (fun i i0 i1 => by have := hMr i i0 i1; omega)) (cwV 1 C.1.2.2.2.2 gX8_size_X8_mark rfl rfl rfl (by decide +kernel) ⟨Nat.le_of_ble_eq_true rfl, Nat.le_of_ble_eq_true rfl⟩) (by omega) hc_3 (T := TX8) (N := 17) rfl rfl hl rfl (Nat.le_of_ble_eq_true rfl) dX8_size_12 ⟨Nat.le_of_ble_eq_true rfl, Nat.le_of_ble_eq_true rfl⟩) (fun z_8 g9 H locs hw9 G => ?_)
  obtain ⟨V_6, hw9, hV_7, hV_7o, h_9⟩ := hw9
  subst hw9
  obtain ⟨g_10, hg_11⟩ : ∃ g9, g9 = va_up g_1 194 (aI κ 28896 V_6) := ⟨_, rfl⟩
  rw [← hg_11] at G
  have hc_12 : g_10 192 = .inr (8, [.ref (ad 193), .int (iz ly), .int (iz th), .ref (ad 194), .int (iz (mk + 1)), .ref (ad 195), .int (iz tx), .ref (ad 196), .int (iz rl), .int (iz a0), .int (iz wr), .int (iz s0), .int (iz s1), .ref (ad 197), .int (iz rm), .ref (ad 198), .ref (ad 199)]) := by rw [hg_11, gu_ne (by decide)]; exact hc_3
  have hc_13 : g_10 193 = aI κ 42 f := by rw [hg_11, gu_ne (by decide)]; exact hc_4
  have hc_14 : g_10 194 = aI κ 28896 V_6 := by rw [hg_11]; exact gu_self _ _ _
  refine g_iret C G hr hlk (Nat.le_of_ble_eq_true rfl) (Nat.le_of_ble_eq_true rfl) dX8_size_15 ?_
  exact ⟨V_6, by rw [hg_11, hg_2], (mkS.up hMr).mark hV_7 hV_7o, by rw [h_9.1]; exact congrArg (fun q : Nat => (q : Int)) (mkS.cnt0 hMr hv0), h_9.2⟩
