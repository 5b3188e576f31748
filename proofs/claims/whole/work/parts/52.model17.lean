/-! ROSETTEPLATEMODEL (X8): two layers -/
theorem cntS_both (A B : Int → Int → Prop) : cntS B = cntS (fun x y => A x y ∧ B x y) + cntS (fun x y => B x y ∧ ¬ A x y) := by
  have h := cntS_or (S := fun x y => A x y ∧ B x y) (T := B)
  rw [show cntS (fun x y => (A x y ∧ B x y) ∨ B x y) = cntS B from cntS_congr (fun x y _ _ _ _ => ⟨fun q => q.elim And.right id, Or.inr⟩)] at h
  rw [h]
  exact congrArg (fun q => cntS (fun x y => A x y ∧ B x y) + q) (cntS_congr (fun x y _ _ _ _ => ⟨fun q => ⟨q.1, fun a => q.2 ⟨a, q.1⟩⟩, fun q => ⟨q.1, fun a => q.2 a.1⟩⟩))
theorem cntS_pos {S : Int → Int → Prop} {a r : Int} (a0 : 0 ≤ a) (a1 : a < 128) (r0 : 0 ≤ r) (r1 : r ≤ 300) (h : S a r) : 0 < cntS S := by
  have e := cntS_add (S := fun x y => S x y ∧ ¬ (x = a ∧ y = r)) (a0 := a) (r0 := r) ⟨a0, a1⟩ ⟨r0, r1⟩ (fun q => q.2 ⟨rfl, rfl⟩)
  have e2 : cntS (fun x y => (S x y ∧ ¬ (x = a ∧ y = r)) ∨ (x = a ∧ y = r)) = cntS S := cntS_congr (fun x y _ _ _ _ => by
    by_cases hq : x = a ∧ y = r
    · rw [hq.1, hq.2]; exact ⟨fun _ => h, fun _ => Or.inr ⟨rfl, rfl⟩⟩
    · exact ⟨fun q => q.elim And.left (fun q => absurd q hq), fun q => Or.inl ⟨q, hq⟩⟩)
  omega
theorem same_iff {A B : Int → Int → Prop} (hA : ∀ x y, A x y → (0 ≤ x ∧ x < 128) ∧ 0 ≤ y ∧ y ≤ 300) : ((∀ x y, A x y → B x y) ∧ (cntS A : Int) = (cntS B : Int)) ↔ ∀ x y, 0 ≤ x → x < 128 → 0 ≤ y → y ≤ 300 → (A x y ↔ B x y) := by
  constructor
  · rintro ⟨h1, h2⟩ x y x0 x1 y0 y1
    refine ⟨h1 x y, fun hb => Classical.byContradiction fun ha => ?_⟩
    have e := cntS_both A B
    have e2 : cntS (fun x y => A x y ∧ B x y) = cntS A := cntS_congr (fun x y _ _ _ _ => ⟨And.left, fun q => ⟨q, h1 x y q⟩⟩)
    have e3 := cntS_pos (S := fun x y => B x y ∧ ¬ A x y) x0 x1 y0 y1 ⟨hb, ha⟩
    omega
  · intro h
    refine ⟨fun x y q => ?_, congrArg (fun q : Nat => (q : Int)) (cntS_congr h)⟩
    have := hA x y q
    exact (h x y this.1.1 this.1.2 this.2.1 this.2.2).mp q
theorem PT_rg {ring w sd ho st0 x y : Int} (hr : 12 ≤ ring ∧ ring ≤ 96) (hk : okL w sd ho) (h : PT ring w sd ho st0 x y) : (0 ≤ x ∧ x < 128) ∧ 0 ≤ y ∧ y ≤ 300 := by
  obtain ⟨t, t0, t1, h3, h4⟩ := h
  have a1 := Int.emod_nonneg (st0 + t) (show ring ≠ 0 by omega)
  have a2 := Int.emod_lt_of_pos (st0 + t) (show 0 < ring by omega)
  have b1 := rad_range hk (Int.emod_nonneg t (show w ≠ 0 by omega)) (Int.emod_lt_of_pos t (show 0 < w by omega))
  rw [h3] at a1 a2
  rw [h4] at b1
  omega
theorem okPl.st {nl l x : Int} {v : Int → Int} (h : okPl nl v) (hl : 0 ≤ l ∧ l < nl) (hx : 0 ≤ x ∧ x < v 0) : okPl nl (vu v (4 * l + 4) x) := by
  have := h.ch (b := 3) (x := x) hl (by omega)
  rw [show 4 * l + 1 + 3 = 4 * l + 4 by omega] at this
  exact this
theorem PTl_st {f F : Int → Int} {l x a r : Int} (hl : 0 ≤ l) (hF : ∀ i, i ≠ 4 * l + 4 → F i = f i) (hx : F (4 * l + 4) = x) : PTl F l a r ↔ PT (f 0) (f (4 * l + 1)) (f (4 * l + 2)) (f (4 * l + 3)) x a r := by
  unfold PTl
  rw [hF 0 (by omega), hF (4 * l + 1) (by omega), hF (4 * l + 2) (by omega), hF (4 * l + 3) (by omega), hx]
theorem PTl_ot {f F : Int → Int} {l m a r : Int} (hl : 0 ≤ l) (hm : 0 ≤ m) (hn : m ≠ l) (hF : ∀ i, i ≠ 4 * l + 4 → F i = f i) : PTl F m a r ↔ PTl f m a r := by
  unfold PTl
  rw [hF 0 (by omega), hF (4 * m + 1) (by omega), hF (4 * m + 2) (by omega), hF (4 * m + 3) (by omega), hF (4 * m + 4) (by omega)]
theorem tb_was {f F : Int → Int} {k : Int} (hF : ∀ i, i ≠ k → F i = f i) : vu F k (f k) = f := by
  funext i
  by_cases h : i = k
  · rw [h, vu_self]
  · rw [vu_ne h, hF i h]
theorem tb_vu {f F : Int → Int} {k x : Int} (hF : ∀ i, i ≠ k → F i = f i) : vu F k x = vu f k x := by
  funext i
  by_cases h : i = k
  · rw [h, vu_self, vu_self]
  · rw [vu_ne h, vu_ne h, hF i h]
theorem bs_cm {f : Int → Int} {li lj k : Int} (hli : 0 ≤ li) (hlj : 0 ≤ lj) (hne : lj ≠ li) : cntS (fun x y => PTl (vu f (4 * li + 4) k) li x y ∧ PTl (vu f (4 * li + 4) k) lj x y) = cntS (fun a r => PT (f 0) (f (4 * li + 1)) (f (4 * li + 2)) (f (4 * li + 3)) k a r ∧ PT (f 0) (f (4 * lj + 1)) (f (4 * lj + 2)) (f (4 * lj + 3)) (f (4 * lj + 4)) a r) :=
  cntS_congr (fun x y _ _ _ _ => by rw [PTl_st hli (fun i hi => vu_ne hi) (vu_self _ _ _), PTl_ot hli hlj hne (fun i hi => vu_ne hi)]; exact Iff.rfl)
theorem tb_same {f : Int → Int} {nl li lj d : Int} (hok : okPl nl f) (hli : 0 ≤ li ∧ li < nl) (hlj : 0 ≤ lj ∧ lj < nl) :
    ((∀ x y, PTl (vu f (4 * li + 4) ((f (4 * li + 4) + d) % f 0)) li x y → (False ∨ PTl f lj x y)) ∧ (cntS (fun x y => PTl (vu f (4 * li + 4) ((f (4 * li + 4) + d) % f 0)) li x y) : Int) = (cntS (fun x y => PTl f lj x y) : Int)) ↔ SameR (f 0) (f (4 * li + 1)) (f (4 * li + 2)) (f (4 * li + 3)) ((f (4 * li + 4) + d) % f 0) (f (4 * lj + 1)) (f (4 * lj + 2)) (f (4 * lj + 3)) (f (4 * lj + 4)) := by
  have hla := (hok.2.2.2.1 li hli.1 hli.2).1
  have e : ∀ x y, PTl (vu f (4 * li + 4) ((f (4 * li + 4) + d) % f 0)) li x y ↔ PT (f 0) (f (4 * li + 1)) (f (4 * li + 2)) (f (4 * li + 3)) ((f (4 * li + 4) + d) % f 0) x y := fun x y => PTl_st hli.1 (fun i hi => vu_ne hi) (vu_self _ _ _)
  have h := same_iff (A := fun x y => PTl (vu f (4 * li + 4) ((f (4 * li + 4) + d) % f 0)) li x y) (B := fun x y => PTl f lj x y) (fun x y q => PT_rg hok.2.1 hla ((e x y).mp q))
  simp only [false_or]
  refine h.trans ?_
  unfold SameR
  constructor
  · intro q x y x0 x1 y0 y1
    exact (e x y).symm.trans (q x y x0 x1 y0 y1)
  · intro q x y x0 x1 y0 y1
    exact (e x y).trans (q x y x0 x1 y0 y1)
theorem fX8_inBoth_67 : gFld wsX8_inBoth RX8 67 8 4 := ⟨RX8, TX8, 17, rfl, by decide, by decide +kernel, by decide +kernel⟩
theorem fwX8_inBoth_67 : gFldW wsX8_inBoth RX8 67 8 4 .int false := ⟨RX8, TX8, 17, tyX8, rfl, by decide, by decide +kernel, by decide +kernel, tyX8_ok, nmX8, rfl, by decide +kernel, by decide +kernel⟩
set_option maxHeartbeats 4000000 in
set_option maxRecDepth 100000 in
theorem c_X8_inBoth (l : Launch) (κ : gKap) (B n : Nat) (ad : Nat → Nat) (g : Nat → va_E) (ly : Int) (th : Int) (mk : Int) (tx : Int) (rl : Int) (a0 : Int) (wr : Int) (s0 : Int) (s1 : Int) (rm : Int) (f : Int → Int) (M9 : Int → Int) (li : Int) (lj : Int) (hn8 : 200 ≤ n) (hM : g 192 = oM ad ly th mk tx rl a0 wr s0 s1 rm) (hN : g 193 = aI κ 42 f) (hK : g 194 = aI κ 28896 M9) (hok : okPl ly f) (hli : 0 ≤ li ∧ li < ly) (hlj : 0 ≤ lj ∧ lj < ly) (hmk : 0 ≤ mk ∧ mk ≤ 850000000) (hMr : ∀ i, 0 ≤ i → i < 28896 → 0 ≤ M9 i ∧ M9 i ≤ mk) : Met l yX8_inBoth wsX8_inBoth ({ frames := 5, cells := 0, slots := 0, locals := 118 }) (gPre κ B n ad g [.ref (ad 192), .int (iz li), .int (iz lj)]) (gQi κ B n ad (fun z g' => ∃ V, g' = va_up (va_up g 192 (oM ad ly th (mk + 1 + 1) tx rl a0 wr s0 s1 rm)) 194 (aI κ 28896 V) ∧ mkS V (mk + 1 + 1) (fun x y => (False ∨ PTl f li x y) ∨ PTl f lj x y) ∧ z = (cntS (fun x y => PTl f li x y ∧ PTl f lj x y) : Int) ∧ 0 ≤ z ∧ z ≤ 38528)) 0 0 (gFree B) := by
  refine g_met RX8 (cc := cX8_inBoth) (maxL := 6) (ret := (some .int)) (by decide) rfl rfl (Nat.le_of_ble_eq_true rfl) ?_
  intro p e s m args below meth c C hr hlk hnm G ls hl
  have hl : lv_has ls 6 [(0, .ref (ad 192)), (1, .int (iz li)), (2, .int (iz lj))] := hl
  obtain ⟨hn6, hv0, hv25, hlay, hsee⟩ := id hok
  refine g_aload_n C dX8_inBoth_0 rfl hl 0 rfl ?_
  refine g_iload_n C dX8_inBoth_1 rfl hl 2 rfl ?_
  refine g_ci C G (g_runV (As := [.int (iz lj)]) (rest := []) (pos := 192) C G (c_X8_size l κ B n ad g ly th mk tx rl a0 wr s0 s1 rm f M9 lj hn8 hM hN hK hok hlj (by omega) hMr) (cwV 1 C.1.2.2.2.2 gX8_inBoth_X8_size rfl rfl rfl (by decide +kernel) ⟨Nat.le_of_ble_eq_true rfl, Nat.le_of_ble_eq_true rfl⟩) (by omega) hM (T := TX8) (N := 17) rfl rfl hl rfl (Nat.le_of_ble_eq_true rfl) dX8_inBoth_2 ⟨Nat.le_of_ble_eq_true rfl, Nat.le_of_ble_eq_true rfl⟩) (fun z_3 g_6 H locs hw9 G => ?_)
  obtain ⟨V_1, hgs_5, hS_2, h_4⟩ := hw9
  have hc_7 : g_6 192 = .inr (8, [.ref (ad 193), .int (iz ly), .int (iz th), .ref (ad 194), .int (iz (mk + 1)), .ref (ad 195), .int (iz tx), .ref (ad 196), .int (iz rl), .int (iz a0), .int (iz wr), .int (iz s0), .int (iz s1), .ref (ad 197), .int (iz rm), .ref (ad 198), .ref (ad 199)]) := by rw [hgs_5, gu_ne (by decide)]; exact gu_self _ _ _
  have hc_8 : g_6 193 = aI κ 42 f := by rw [hgs_5, gu_ne (by decide), gu_ne (by decide)]; exact hN
  have hc_9 : g_6 194 = aI κ 28896 V_1 := by rw [hgs_5]; exact gu_self _ _ _
  refine lv_istore_n (lv' := [(3, .int (iz z_3)), (0, .ref (ad 192)), (1, .int (iz li)), (2, .int (iz lj))]) C.1.1 C.1.2.1 dX8_inBoth_5 rfl hl (by decide) rfl (fun ls hl => ?_)
  refine g_aload_n C dX8_inBoth_6 rfl hl 1 rfl ?_
  refine lv_dup C.1.1 C.1.2.1 dX8_inBoth_7 rfl ?_
  refine g_get C G (pos := 192) fX8_inBoth_67 (by omega) hc_7 rfl dX8_inBoth_8 ?_
  refine g_iconst (a := 1) C dX8_inBoth_11 rfl ?_
  refine g_iadd C dX8_inBoth_12 ?_
  refine g_put C G (pos := 192) (fs' := [.ref (ad 193), .int (iz ly), .int (iz th), .ref (ad 194), .int (iz ((mk + 1) + 1)), .ref (ad 195), .int (iz tx), .ref (ad 196), .int (iz rl), .int (iz a0), .int (iz wr), .int (iz s0), .int (iz s1), .ref (ad 197), .int (iz rm), .ref (ad 198), .ref (ad 199)]) fwX8_inBoth_67 (by omega) hc_7 (Nat.le_of_ble_eq_true rfl) rfl rfl rfl dX8_inBoth_13 (fun H locs G => ?_)
  obtain ⟨g_10, hg_11⟩ : ∃ g9, g9 = va_up g_6 192 (.inr (8, [.ref (ad 193), .int (iz ly), .int (iz th), .ref (ad 194), .int (iz ((mk + 1) + 1)), .ref (ad 195), .int (iz tx), .ref (ad 196), .int (iz rl), .int (iz a0), .int (iz wr), .int (iz s0), .int (iz s1), .ref (ad 197), .int (iz rm), .ref (ad 198), .ref (ad 199)])) := ⟨_, rfl⟩
  rw [← hg_11] at G
  have hc_12 : g_10 192 = .inr (8, [.ref (ad 193), .int (iz ly), .int (iz th), .ref (ad 194), .int (iz ((mk + 1) + 1)), .ref (ad 195), .int (iz tx), .ref (ad 196), .int (iz rl), .int (iz a0), .int (iz wr), .int (iz s0), .int (iz s1), .ref (ad 197), .int (iz rm), .ref (ad 198), .ref (ad 199)]) := by rw [hg_11]; exact gu_self _ _ _
  have hc_13 : g_10 193 = aI κ 42 f := by rw [hg_11, gu_ne (by decide)]; exact hc_8
  have hc_14 : g_10 194 = aI κ 28896 V_1 := by rw [hg_11, gu_ne (by decide)]; exact hc_9
  refine g_aload_n C dX8_inBoth_16 rfl hl 1 rfl ?_
  refine g_iload_n C dX8_inBoth_17 rfl hl 2 rfl ?_
  refine g_ci C G (g_runV (As := [.int (iz li)]) (rest := []) (pos := 192) C G (c_X8_mark l κ B n ad g_10 ly th ((mk + 1) + 1) tx rl a0 wr s0 s1 rm f V_1 li hn8 hc_12 hc_13 hc_14 hok hli (by omega) (fun i i0 i1 => by have := hS_2.1 i i0 i1; omega)) (cwV 1 C.1.2.2.2.2 gX8_inBoth_X8_mark rfl rfl rfl (by decide +kernel) ⟨Nat.le_of_ble_eq_true rfl, Nat.le_of_ble_eq_true rfl⟩) (by omega) hc_12 (T := TX8) (N := 17) rfl rfl hl rfl (Nat.le_of_ble_eq_true rfl) dX8_inBoth_18 ⟨Nat.le_of_ble_eq_true rfl, Nat.le_of_ble_eq_true rfl⟩) (fun z_17 g9 H locs hw9 G => ?_)
  obtain ⟨V_15, hw9, hV_16, hV_16o, h_18⟩ := hw9
  subst hw9
  obtain ⟨g_19, hg_20⟩ : ∃ g9, g9 = va_up g_10 194 (aI κ 28896 V_15) := ⟨_, rfl⟩
  rw [← hg_20] at G
  have hc_21 : g_19 192 = .inr (8, [.ref (ad 193), .int (iz ly), .int (iz th), .ref (ad 194), .int (iz ((mk + 1) + 1)), .ref (ad 195), .int (iz tx), .ref (ad 196), .int (iz rl), .int (iz a0), .int (iz wr), .int (iz s0), .int (iz s1), .ref (ad 197), .int (iz rm), .ref (ad 198), .ref (ad 199)]) := by rw [hg_20, gu_ne (by decide)]; exact hc_12
  have hc_22 : g_19 193 = aI κ 42 f := by rw [hg_20, gu_ne (by decide)]; exact hc_13
  have hc_23 : g_19 194 = aI κ 28896 V_15 := by rw [hg_20]; exact gu_self _ _ _
  refine lv_istore (lv' := [(4, .int (iz z_17)), (3, .int (iz z_3)), (0, .ref (ad 192)), (1, .int (iz li)), (2, .int (iz lj))]) C.1.1 C.1.2.1 dX8_inBoth_21 hl (by decide) rfl (fun ls hl => ?_)
  refine g_iload C dX8_inBoth_23 hl 0 rfl ?_
  refine g_aload_n C dX8_inBoth_25 rfl hl 2 rfl ?_
  refine g_iload_n C dX8_inBoth_26 rfl hl 4 rfl ?_
  refine g_ci C G (g_runV (As := [.int (iz lj)]) (rest := [.int (iz z_17)]) (pos := 192) C G (c_X8_mark l κ B n ad g_19 ly th ((mk + 1) + 1) tx rl a0 wr s0 s1 rm f V_15 lj hn8 hc_21 hc_22 hc_23 hok hlj (by omega) (fun i i0 i1 => by have := ((mkS.up hS_2.1).mark hV_16 hV_16o).1 i i0 i1; omega)) (cwV 1 C.1.2.2.2.2 gX8_inBoth_X8_mark rfl rfl rfl (by decide +kernel) ⟨Nat.le_of_ble_eq_true rfl, Nat.le_of_ble_eq_true rfl⟩) (by omega) hc_21 (T := TX8) (N := 17) rfl rfl hl rfl (Nat.le_of_ble_eq_true rfl) dX8_inBoth_27 ⟨Nat.le_of_ble_eq_true rfl, Nat.le_of_ble_eq_true rfl⟩) (fun z_26 g9 H locs hw9 G => ?_)
  obtain ⟨V_24, hw9, hV_25, hV_25o, h_27⟩ := hw9
  subst hw9
  obtain ⟨g_28, hg_29⟩ : ∃ g9, g9 = va_up g_19 194 (aI κ 28896 V_24) := ⟨_, rfl⟩
  rw [← hg_29] at G
  have hc_30 : g_28 192 = .inr (8, [.ref (ad 193), .int (iz ly), .int (iz th), .ref (ad 194), .int (iz ((mk + 1) + 1)), .ref (ad 195), .int (iz tx), .ref (ad 196), .int (iz rl), .int (iz a0), .int (iz wr), .int (iz s0), .int (iz s1), .ref (ad 197), .int (iz rm), .ref (ad 198), .ref (ad 199)]) := by rw [hg_29, gu_ne (by decide)]; exact hc_21
  have hc_31 : g_28 193 = aI κ 42 f := by rw [hg_29, gu_ne (by decide)]; exact hc_22
  have hc_32 : g_28 194 = aI κ 28896 V_24 := by rw [hg_29]; exact gu_self _ _ _
  refine g_iadd C dX8_inBoth_30 ?_
  refine lv_istore (lv' := [(5, .int (iz (z_17 + z_26))), (4, .int (iz z_17)), (3, .int (iz z_3)), (0, .ref (ad 192)), (1, .int (iz li)), (2, .int (iz lj))]) C.1.1 C.1.2.1 dX8_inBoth_31 hl (by decide) rfl (fun ls hl => ?_)
  refine g_iload C dX8_inBoth_33 hl 1 rfl ?_
  refine g_iload_n C dX8_inBoth_35 rfl hl 2 rfl ?_
  refine g_iadd C dX8_inBoth_36 ?_
  refine g_iload C dX8_inBoth_37 hl 0 rfl ?_
  refine g_isub C dX8_inBoth_39 ?_
  refine g_iret C G hr hlk (Nat.le_of_ble_eq_true rfl) (Nat.le_of_ble_eq_true rfl) dX8_inBoth_40 ?_
  have hS1 := (mkS.up hS_2.1).mark hV_16 hV_16o
  have hS2 := hS1.mark hV_25 hV_25o
  have e1 := h_27.1
  rw [hS1.cnt hv0] at e1
  have e2 := cntS_both (fun x y => PTl f li x y) (fun x y => PTl f lj x y)
  have e3 : cntS (fun x y => PTl f lj x y ∧ ¬ (False ∨ PTl f li x y)) = cntS (fun x y => PTl f lj x y ∧ ¬ PTl f li x y) := cntS_congr (fun x y _ _ _ _ => by rw [false_or])
  have e4 := h_4.1
  have e5 := cntS_le (fun x y => PTl f li x y ∧ PTl f lj x y)
  have e6 : (z_17 + z_3) - (z_17 + z_26) = (cntS (fun x y => PTl f li x y ∧ PTl f lj x y) : Int) := by omega
  refine ⟨V_24, ?_, hS2, e6, by omega, by omega⟩
  funext q
  by_cases q1 : q = 194
  · subst q1; rw [hc_32, gu_self]
  · by_cases q2 : q = 192
    · subst q2; rw [hc_30, gu_ne (by decide), gu_self]
    · rw [gu_ne q1, gu_ne q2]; exact ((((congrFun hg_29 q).trans (gu_ne (by omega))).trans (((congrFun hg_20 q).trans (gu_ne (by omega))).trans (((congrFun hg_11 q).trans (gu_ne (by omega))).trans ((congrFun hgs_5 q).trans ((gu_ne (by omega)).trans (gu_ne (by omega))))))))
theorem fwX8_common__31 : gFldW wsX8_common_ RX8 31 8 2 .int false := ⟨RX8, TX8, 17, tyX8, rfl, by decide, by decide +kernel, by decide +kernel, tyX8_ok, nmX8, rfl, by decide +kernel, by decide +kernel⟩
set_option maxHeartbeats 4000000 in
set_option maxRecDepth 100000 in
theorem c_X8_common_ (l : Launch) (κ : gKap) (B n : Nat) (ad : Nat → Nat) (g : Nat → va_E) (ly : Int) (th : Int) (mk : Int) (tx : Int) (rl : Int) (a0 : Int) (wr : Int) (s0 : Int) (s1 : Int) (rm : Int) (f : Int → Int) (M9 : Int → Int) (X9 : Int → Int) (q9 : Int → Int) (pa : Int → Int) (be : Int → Int) (sv : Int → Int) (li : Int) (lj : Int) (hn8 : 200 ≤ n) (hM : g 192 = oM ad ly th mk tx rl a0 wr s0 s1 rm) (hN : g 193 = aI κ 42 f) (hK : g 194 = aI κ 28896 M9) (hT : g 195 = aI κ 100 X9) (hRd : g 196 = aI κ 42 q9) (hPa : g 197 = aI κ 602 pa) (hBe : g 198 = aI κ 43 be) (hSv : g 199 = aI κ 86 sv) (hok : okPl ly f) (hmk : 0 ≤ mk ∧ mk ≤ 800000000) (hMr : ∀ i, 0 ≤ i → i < 28896 → 0 ≤ M9 i ∧ M9 i ≤ mk) (hinq : inV q9) (hli : inI li) (hlj : inI lj) : Met l yX8_common_ wsX8_common_ ({ frames := 6, cells := 0, slots := 0, locals := 143 }) (gPre κ B n ad g [.ref (ad 192), .int (iz li), .int (iz lj)]) (gQi κ B n ad (fun z g' => ∃ t9, ((t9 = 1 ∧ ¬ ((0 ≤ li ∧ li < ly) ∧ 0 ≤ lj ∧ lj < ly)) ∨ (t9 = 0 ∧ ((0 ≤ li ∧ li < ly) ∧ 0 ≤ lj ∧ lj < ly) ∧ z = (cntS (fun x y => PTl f li x y ∧ PTl f lj x y) : Int))) ∧ jkM κ ad g' ly t9 tx s0 s1 rm (mk + 1000) f X9 pa sv ∧ frM g g')) 0 0 (gFree B) := by
  refine g_met RX8 (cc := cX8_common_) (maxL := 3) (ret := (some .int)) (by decide) rfl rfl (Nat.le_of_ble_eq_true rfl) ?_
  intro p e s m args below meth c C hr hlk hnm G ls hl
  have hl : lv_has ls 3 [(0, .ref (ad 192)), (1, .int (iz li)), (2, .int (iz lj))] := hl
  obtain ⟨hn6, hv0, hv25, hlay, hsee⟩ := id hok
  refine g_aload_n C dX8_common__0 rfl hl 0 rfl ?_
  refine g_iconst (a := 0) C dX8_common__1 rfl ?_
  refine g_put C G (pos := 192) (fs' := [.ref (ad 193), .int (iz ly), .int (iz 0), .ref (ad 194), .int (iz mk), .ref (ad 195), .int (iz tx), .ref (ad 196), .int (iz rl), .int (iz a0), .int (iz wr), .int (iz s0), .int (iz s1), .ref (ad 197), .int (iz rm), .ref (ad 198), .ref (ad 199)]) fwX8_common__31 (by omega) hM (Nat.le_of_ble_eq_true rfl) rfl rfl rfl dX8_common__2 (fun H locs G => ?_)
  obtain ⟨g_1, hg_2⟩ : ∃ g9, g9 = va_up g 192 (.inr (8, [.ref (ad 193), .int (iz ly), .int (iz 0), .ref (ad 194), .int (iz mk), .ref (ad 195), .int (iz tx), .ref (ad 196), .int (iz rl), .int (iz a0), .int (iz wr), .int (iz s0), .int (iz s1), .ref (ad 197), .int (iz rm), .ref (ad 198), .ref (ad 199)])) := ⟨_, rfl⟩
  rw [← hg_2] at G
  have hc_3 : g_1 192 = .inr (8, [.ref (ad 193), .int (iz ly), .int (iz 0), .ref (ad 194), .int (iz mk), .ref (ad 195), .int (iz tx), .ref (ad 196), .int (iz rl), .int (iz a0), .int (iz wr), .int (iz s0), .int (iz s1), .ref (ad 197), .int (iz rm), .ref (ad 198), .ref (ad 199)]) := by rw [hg_2]; exact gu_self _ _ _
  have hc_4 : g_1 193 = aI κ 42 f := by rw [hg_2, gu_ne (by decide)]; exact hN
  have hc_5 : g_1 194 = aI κ 28896 M9 := by rw [hg_2, gu_ne (by decide)]; exact hK
  have hc_6 : g_1 195 = aI κ 100 X9 := by rw [hg_2, gu_ne (by decide)]; exact hT
  have hc_7 : g_1 196 = aI κ 42 q9 := by rw [hg_2, gu_ne (by decide)]; exact hRd
  have hc_8 : g_1 197 = aI κ 602 pa := by rw [hg_2, gu_ne (by decide)]; exact hPa
  have hc_9 : g_1 198 = aI κ 43 be := by rw [hg_2, gu_ne (by decide)]; exact hBe
  have hc_10 : g_1 199 = aI κ 86 sv := by rw [hg_2, gu_ne (by decide)]; exact hSv
  refine g_aload_n C dX8_common__5 rfl hl 0 rfl ?_
  refine g_iload_n C dX8_common__6 rfl hl 1 rfl ?_
  refine g_ci C G (g_runV (As := [.int (iz li)]) (rest := []) (pos := 192) C G (c_X8_isLayer l κ B n ad g_1 ly 0 mk tx rl a0 wr s0 s1 rm li hn8 hc_3 (by omega) (by omega)) (cwV 1 C.1.2.2.2.2 gX8_common__X8_isLayer rfl rfl rfl (by decide +kernel) ⟨Nat.le_of_ble_eq_true rfl, Nat.le_of_ble_eq_true rfl⟩) (by omega) hc_3 (T := TX8) (N := 17) rfl rfl hl rfl (Nat.le_of_ble_eq_true rfl) dX8_common__7 ⟨Nat.le_of_ble_eq_true rfl, Nat.le_of_ble_eq_true rfl⟩) (fun z_12 g9 H locs hw G => ?_)
  obtain ⟨hg9, hw⟩ := hw
  replace hg9 := hg9.symm
  subst hg9
  rcases hw with ⟨b_11, rfl⟩ | ⟨b_11, rfl⟩
  · refine g_if_eq (tgt := 21) C (by decide) dX8_common__10 (by decide) (fun c9 => absurd c9 (by decide)) (fun _ => ?_)
    refine g_aload_n C dX8_common__13 rfl hl 0 rfl ?_
    refine g_iload_n C dX8_common__14 rfl hl 2 rfl ?_
    refine g_ci C G (g_runV (As := [.int (iz lj)]) (rest := []) (pos := 192) C G (c_X8_isLayer l κ B n ad g_1 ly 0 mk tx rl a0 wr s0 s1 rm lj hn8 hc_3 (by omega) (by omega)) (cwV 1 C.1.2.2.2.2 gX8_common__X8_isLayer rfl rfl rfl (by decide +kernel) ⟨Nat.le_of_ble_eq_true rfl, Nat.le_of_ble_eq_true rfl⟩) (by omega) hc_3 (T := TX8) (N := 17) rfl rfl hl rfl (Nat.le_of_ble_eq_true rfl) dX8_common__15 ⟨Nat.le_of_ble_eq_true rfl, Nat.le_of_ble_eq_true rfl⟩) (fun z_14 g9 H locs hw G => ?_)
    obtain ⟨hg9, hw⟩ := hw
    replace hg9 := hg9.symm
    subst hg9
    rcases hw with ⟨b_13, rfl⟩ | ⟨b_13, rfl⟩
    · refine g_if_ne (tgt := 27) C (by decide) dX8_common__18 (by decide) (fun _ => ?_) (fun c9 => absurd c9 (by decide))
      refine g_aload_n C dX8_common__27 rfl hl 0 rfl ?_
      refine g_iload_n C dX8_common__28 rfl hl 1 rfl ?_
      refine g_iload_n C dX8_common__29 rfl hl 2 rfl ?_
      refine g_ci C G (g_runV (As := [.int (iz li), .int (iz lj)]) (rest := []) (pos := 192) C G (c_X8_inBoth l κ B n ad g_1 ly 0 mk tx rl a0 wr s0 s1 rm f M9 li lj hn8 hc_3 hc_4 hc_5 hok (by omega) (by omega) (by omega) hMr) (cwV 2 C.1.2.2.2.2 gX8_common__X8_inBoth rfl rfl rfl (by decide +kernel) ⟨Nat.le_of_ble_eq_true rfl, Nat.le_of_ble_eq_true rfl⟩) (by omega) hc_3 (T := TX8) (N := 17) rfl rfl hl rfl (Nat.le_of_ble_eq_true rfl) dX8_common__30 ⟨Nat.le_of_ble_eq_true rfl, Nat.le_of_ble_eq_true rfl⟩) (fun z_17 g_20 H locs hw9 G => ?_)
      obtain ⟨V_15, hgs_19, hS_16, h_18⟩ := hw9
      have hc_21 : g_20 192 = .inr (8, [.ref (ad 193), .int (iz ly), .int (iz 0), .ref (ad 194), .int (iz (mk + 1 + 1)), .ref (ad 195), .int (iz tx), .ref (ad 196), .int (iz rl), .int (iz a0), .int (iz wr), .int (iz s0), .int (iz s1), .ref (ad 197), .int (iz rm), .ref (ad 198), .ref (ad 199)]) := by rw [hgs_19, gu_ne (by decide)]; exact gu_self _ _ _
      have hc_22 : g_20 193 = aI κ 42 f := by rw [hgs_19, gu_ne (by decide), gu_ne (by decide)]; exact hc_4
      have hc_23 : g_20 194 = aI κ 28896 V_15 := by rw [hgs_19]; exact gu_self _ _ _
      have hc_24 : g_20 195 = aI κ 100 X9 := by rw [hgs_19, gu_ne (by decide), gu_ne (by decide)]; exact hc_6
      have hc_25 : g_20 196 = aI κ 42 q9 := by rw [hgs_19, gu_ne (by decide), gu_ne (by decide)]; exact hc_7
      have hc_26 : g_20 197 = aI κ 602 pa := by rw [hgs_19, gu_ne (by decide), gu_ne (by decide)]; exact hc_8
      have hc_27 : g_20 198 = aI κ 43 be := by rw [hgs_19, gu_ne (by decide), gu_ne (by decide)]; exact hc_9
      have hc_28 : g_20 199 = aI κ 86 sv := by rw [hgs_19, gu_ne (by decide), gu_ne (by decide)]; exact hc_10
      refine g_iret C G hr hlk (Nat.le_of_ble_eq_true rfl) (Nat.le_of_ble_eq_true rfl) dX8_common__33 ?_
      exact ⟨0, Or.inr (⟨rfl, by omega, h_18.1⟩), ⟨_, _, _, _, _, _, _, hc_21, hc_22, hc_23, hc_24, hc_25, hc_26, hc_27, hc_28, by omega, hS_16.1, hinq⟩, fun q hq => (((congrFun hgs_19 q).trans ((gu_ne (by omega)).trans (gu_ne (by omega)))).trans ((congrFun hg_2 q).trans (gu_ne (by omega))))⟩
    · refine g_if_ne (tgt := 27) C (by decide) dX8_common__18 (by decide) (fun c9 => absurd c9 (by decide)) (fun _ => ?_)
      refine g_aload_n C dX8_common__21 rfl hl 0 rfl ?_
      refine g_iconst (a := 1) C dX8_common__22 rfl ?_
      refine g_ci C G (g_runV (As := [.int (iz 1)]) (rest := []) (pos := 192) C G (c_X8_refused l κ B n ad g_1 ly 0 mk tx rl a0 wr s0 s1 rm 1 hn8 hc_3) (cwV 1 C.1.2.2.2.2 gX8_common__X8_refused rfl rfl rfl (by decide +kernel) ⟨Nat.le_of_ble_eq_true rfl, Nat.le_of_ble_eq_true rfl⟩) (by omega) hc_3 (T := TX8) (N := 17) rfl rfl hl rfl (Nat.le_of_ble_eq_true rfl) dX8_common__23 ⟨Nat.le_of_ble_eq_true rfl, Nat.le_of_ble_eq_true rfl⟩) (fun z_29 g9 H locs hw G => ?_)
      obtain ⟨hw, h_30⟩ := hw
      subst hw
      obtain ⟨g_31, hg_32⟩ : ∃ g9, g9 = va_up g_1 192 (.inr (8, [.ref (ad 193), .int (iz ly), .int (iz 1), .ref (ad 194), .int (iz mk), .ref (ad 195), .int (iz tx), .ref (ad 196), .int (iz rl), .int (iz a0), .int (iz wr), .int (iz s0), .int (iz s1), .ref (ad 197), .int (iz rm), .ref (ad 198), .ref (ad 199)])) := ⟨_, rfl⟩
      rw [← hg_32] at G
      have hc_33 : g_31 192 = .inr (8, [.ref (ad 193), .int (iz ly), .int (iz 1), .ref (ad 194), .int (iz mk), .ref (ad 195), .int (iz tx), .ref (ad 196), .int (iz rl), .int (iz a0), .int (iz wr), .int (iz s0), .int (iz s1), .ref (ad 197), .int (iz rm), .ref (ad 198), .ref (ad 199)]) := by rw [hg_32]; exact gu_self _ _ _
      have hc_34 : g_31 193 = aI κ 42 f := by rw [hg_32, gu_ne (by decide)]; exact hc_4
      have hc_35 : g_31 194 = aI κ 28896 M9 := by rw [hg_32, gu_ne (by decide)]; exact hc_5
      have hc_36 : g_31 195 = aI κ 100 X9 := by rw [hg_32, gu_ne (by decide)]; exact hc_6
      have hc_37 : g_31 196 = aI κ 42 q9 := by rw [hg_32, gu_ne (by decide)]; exact hc_7
      have hc_38 : g_31 197 = aI κ 602 pa := by rw [hg_32, gu_ne (by decide)]; exact hc_8
      have hc_39 : g_31 198 = aI κ 43 be := by rw [hg_32, gu_ne (by decide)]; exact hc_9
      have hc_40 : g_31 199 = aI κ 86 sv := by rw [hg_32, gu_ne (by decide)]; exact hc_10
      refine g_iret C G hr hlk (Nat.le_of_ble_eq_true rfl) (Nat.le_of_ble_eq_true rfl) dX8_common__26 ?_
      exact ⟨1, Or.inl ⟨rfl, by omega⟩, ⟨_, _, _, _, _, _, _, hc_33, hc_34, hc_35, hc_36, hc_37, hc_38, hc_39, hc_40, by omega, hMr, hinq⟩, fun q hq => (((congrFun hg_32 q).trans (gu_ne (by omega))).trans ((congrFun hg_2 q).trans (gu_ne (by omega))))⟩
  · refine g_if_eq (tgt := 21) C (by decide) dX8_common__10 (by decide) (fun _ => ?_) (fun c9 => absurd c9 (by decide))
    refine g_aload_n C dX8_common__21 rfl hl 0 rfl ?_
    refine g_iconst (a := 1) C dX8_common__22 rfl ?_
    refine g_ci C G (g_runV (As := [.int (iz 1)]) (rest := []) (pos := 192) C G (c_X8_refused l κ B n ad g_1 ly 0 mk tx rl a0 wr s0 s1 rm 1 hn8 hc_3) (cwV 1 C.1.2.2.2.2 gX8_common__X8_refused rfl rfl rfl (by decide +kernel) ⟨Nat.le_of_ble_eq_true rfl, Nat.le_of_ble_eq_true rfl⟩) (by omega) hc_3 (T := TX8) (N := 17) rfl rfl hl rfl (Nat.le_of_ble_eq_true rfl) dX8_common__23 ⟨Nat.le_of_ble_eq_true rfl, Nat.le_of_ble_eq_true rfl⟩) (fun z_41 g9 H locs hw G => ?_)
    obtain ⟨hw, h_42⟩ := hw
    subst hw
    obtain ⟨g_43, hg_44⟩ : ∃ g9, g9 = va_up g_1 192 (.inr (8, [.ref (ad 193), .int (iz ly), .int (iz 1), .ref (ad 194), .int (iz mk), .ref (ad 195), .int (iz tx), .ref (ad 196), .int (iz rl), .int (iz a0), .int (iz wr), .int (iz s0), .int (iz s1), .ref (ad 197), .int (iz rm), .ref (ad 198), .ref (ad 199)])) := ⟨_, rfl⟩
    rw [← hg_44] at G
    have hc_45 : g_43 192 = .inr (8, [.ref (ad 193), .int (iz ly), .int (iz 1), .ref (ad 194), .int (iz mk), .ref (ad 195), .int (iz tx), .ref (ad 196), .int (iz rl), .int (iz a0), .int (iz wr), .int (iz s0), .int (iz s1), .ref (ad 197), .int (iz rm), .ref (ad 198), .ref (ad 199)]) := by rw [hg_44]; exact gu_self _ _ _
    have hc_46 : g_43 193 = aI κ 42 f := by rw [hg_44, gu_ne (by decide)]; exact hc_4
    have hc_47 : g_43 194 = aI κ 28896 M9 := by rw [hg_44, gu_ne (by decide)]; exact hc_5
    have hc_48 : g_43 195 = aI κ 100 X9 := by rw [hg_44, gu_ne (by decide)]; exact hc_6
    have hc_49 : g_43 196 = aI κ 42 q9 := by rw [hg_44, gu_ne (by decide)]; exact hc_7
    have hc_50 : g_43 197 = aI κ 602 pa := by rw [hg_44, gu_ne (by decide)]; exact hc_8
    have hc_51 : g_43 198 = aI κ 43 be := by rw [hg_44, gu_ne (by decide)]; exact hc_9
    have hc_52 : g_43 199 = aI κ 86 sv := by rw [hg_44, gu_ne (by decide)]; exact hc_10
    refine g_iret C G hr hlk (Nat.le_of_ble_eq_true rfl) (Nat.le_of_ble_eq_true rfl) dX8_common__26 ?_
    exact ⟨1, Or.inl ⟨rfl, by omega⟩, ⟨_, _, _, _, _, _, _, hc_45, hc_46, hc_47, hc_48, hc_49, hc_50, hc_51, hc_52, by omega, hMr, hinq⟩, fun q hq => (((congrFun hg_44 q).trans (gu_ne (by omega))).trans ((congrFun hg_2 q).trans (gu_ne (by omega))))⟩
theorem fwX8_meet_31 : gFldW wsX8_meet RX8 31 8 2 .int false := ⟨RX8, TX8, 17, tyX8, rfl, by decide, by decide +kernel, by decide +kernel, tyX8_ok, nmX8, rfl, by decide +kernel, by decide +kernel⟩
set_option maxHeartbeats 4000000 in
set_option maxRecDepth 100000 in
theorem c_X8_meet (l : Launch) (κ : gKap) (B n : Nat) (ad : Nat → Nat) (g : Nat → va_E) (ly : Int) (th : Int) (mk : Int) (tx : Int) (rl : Int) (a0 : Int) (wr : Int) (s0 : Int) (s1 : Int) (rm : Int) (f : Int → Int) (M9 : Int → Int) (X9 : Int → Int) (q9 : Int → Int) (pa : Int → Int) (be : Int → Int) (sv : Int → Int) (li : Int) (lj : Int) (hn8 : 200 ≤ n) (hM : g 192 = oM ad ly th mk tx rl a0 wr s0 s1 rm) (hN : g 193 = aI κ 42 f) (hK : g 194 = aI κ 28896 M9) (hT : g 195 = aI κ 100 X9) (hRd : g 196 = aI κ 42 q9) (hPa : g 197 = aI κ 602 pa) (hBe : g 198 = aI κ 43 be) (hSv : g 199 = aI κ 86 sv) (hok : okPl ly f) (hmk : 0 ≤ mk ∧ mk ≤ 800000000) (hMr : ∀ i, 0 ≤ i → i < 28896 → 0 ≤ M9 i ∧ M9 i ≤ mk) (hinq : inV q9) (hli : inI li) (hlj : inI lj) : Met l yX8_meet wsX8_meet ({ frames := 2, cells := 0, slots := 0, locals := 50 }) (gPre κ B n ad g [.ref (ad 192), .int (iz li), .int (iz lj)]) (gQi κ B n ad (fun z g' => ∃ t9, ((t9 = 1 ∧ ¬ ((0 ≤ li ∧ li < ly) ∧ 0 ≤ lj ∧ lj < ly)) ∨ (t9 = 0 ∧ ((0 ≤ li ∧ li < ly) ∧ 0 ≤ lj ∧ lj < ly) ∧ isFirst (fun t => f (4 * li + 4) = f (4 * lj + 4) ∧ rad (f (4 * li + 1)) (f (4 * li + 2)) (f (4 * li + 3)) (t % f (4 * li + 1)) = rad (f (4 * lj + 1)) (f (4 * lj + 2)) (f (4 * lj + 3)) (t % f (4 * lj + 1))) (f (4 * li + 1) / gd (f (4 * li + 1)) (f (4 * lj + 1)) * f (4 * lj + 1)) z)) ∧ jkM κ ad g' ly t9 tx s0 s1 rm (mk + 1000) f X9 pa sv ∧ frM g g')) 0 0 (gFree B) := by
  refine g_met RX8 (cc := cX8_meet) (maxL := 5) (ret := (some .int)) (by decide) rfl rfl (Nat.le_of_ble_eq_true rfl) ?_
  intro p e s m args below meth c C hr hlk hnm G ls hl
  have hl : lv_has ls 5 [(0, .ref (ad 192)), (1, .int (iz li)), (2, .int (iz lj))] := hl
  obtain ⟨hn6, hv0, hv25, hlay, hsee⟩ := id hok
  refine g_aload_n C dX8_meet_0 rfl hl 0 rfl ?_
  refine g_iconst (a := 0) C dX8_meet_1 rfl ?_
  refine g_put C G (pos := 192) (fs' := [.ref (ad 193), .int (iz ly), .int (iz 0), .ref (ad 194), .int (iz mk), .ref (ad 195), .int (iz tx), .ref (ad 196), .int (iz rl), .int (iz a0), .int (iz wr), .int (iz s0), .int (iz s1), .ref (ad 197), .int (iz rm), .ref (ad 198), .ref (ad 199)]) fwX8_meet_31 (by omega) hM (Nat.le_of_ble_eq_true rfl) rfl rfl rfl dX8_meet_2 (fun H locs G => ?_)
  obtain ⟨g_1, hg_2⟩ : ∃ g9, g9 = va_up g 192 (.inr (8, [.ref (ad 193), .int (iz ly), .int (iz 0), .ref (ad 194), .int (iz mk), .ref (ad 195), .int (iz tx), .ref (ad 196), .int (iz rl), .int (iz a0), .int (iz wr), .int (iz s0), .int (iz s1), .ref (ad 197), .int (iz rm), .ref (ad 198), .ref (ad 199)])) := ⟨_, rfl⟩
  rw [← hg_2] at G
  have hc_3 : g_1 192 = .inr (8, [.ref (ad 193), .int (iz ly), .int (iz 0), .ref (ad 194), .int (iz mk), .ref (ad 195), .int (iz tx), .ref (ad 196), .int (iz rl), .int (iz a0), .int (iz wr), .int (iz s0), .int (iz s1), .ref (ad 197), .int (iz rm), .ref (ad 198), .ref (ad 199)]) := by rw [hg_2]; exact gu_self _ _ _
  have hc_4 : g_1 193 = aI κ 42 f := by rw [hg_2, gu_ne (by decide)]; exact hN
  have hc_5 : g_1 194 = aI κ 28896 M9 := by rw [hg_2, gu_ne (by decide)]; exact hK
  have hc_6 : g_1 195 = aI κ 100 X9 := by rw [hg_2, gu_ne (by decide)]; exact hT
  have hc_7 : g_1 196 = aI κ 42 q9 := by rw [hg_2, gu_ne (by decide)]; exact hRd
  have hc_8 : g_1 197 = aI κ 602 pa := by rw [hg_2, gu_ne (by decide)]; exact hPa
  have hc_9 : g_1 198 = aI κ 43 be := by rw [hg_2, gu_ne (by decide)]; exact hBe
  have hc_10 : g_1 199 = aI κ 86 sv := by rw [hg_2, gu_ne (by decide)]; exact hSv
  refine g_aload_n C dX8_meet_5 rfl hl 0 rfl ?_
  refine g_iload_n C dX8_meet_6 rfl hl 1 rfl ?_
  refine g_ci C G (g_runV (As := [.int (iz li)]) (rest := []) (pos := 192) C G (c_X8_isLayer l κ B n ad g_1 ly 0 mk tx rl a0 wr s0 s1 rm li hn8 hc_3 (by omega) (by omega)) (cwV 1 C.1.2.2.2.2 gX8_meet_X8_isLayer rfl rfl rfl (by decide +kernel) ⟨Nat.le_of_ble_eq_true rfl, Nat.le_of_ble_eq_true rfl⟩) (by omega) hc_3 (T := TX8) (N := 17) rfl rfl hl rfl (Nat.le_of_ble_eq_true rfl) dX8_meet_7 ⟨Nat.le_of_ble_eq_true rfl, Nat.le_of_ble_eq_true rfl⟩) (fun z_12 g9 H locs hw G => ?_)
  obtain ⟨hg9, hw⟩ := hw
  replace hg9 := hg9.symm
  subst hg9
  rcases hw with ⟨b_11, rfl⟩ | ⟨b_11, rfl⟩
  · refine g_if_eq (tgt := 21) C (by decide) dX8_meet_10 (by decide) (fun c9 => absurd c9 (by decide)) (fun _ => ?_)
    refine g_aload_n C dX8_meet_13 rfl hl 0 rfl ?_
    refine g_iload_n C dX8_meet_14 rfl hl 2 rfl ?_
    refine g_ci C G (g_runV (As := [.int (iz lj)]) (rest := []) (pos := 192) C G (c_X8_isLayer l κ B n ad g_1 ly 0 mk tx rl a0 wr s0 s1 rm lj hn8 hc_3 (by omega) (by omega)) (cwV 1 C.1.2.2.2.2 gX8_meet_X8_isLayer rfl rfl rfl (by decide +kernel) ⟨Nat.le_of_ble_eq_true rfl, Nat.le_of_ble_eq_true rfl⟩) (by omega) hc_3 (T := TX8) (N := 17) rfl rfl hl rfl (Nat.le_of_ble_eq_true rfl) dX8_meet_15 ⟨Nat.le_of_ble_eq_true rfl, Nat.le_of_ble_eq_true rfl⟩) (fun z_14 g9 H locs hw G => ?_)
    obtain ⟨hg9, hw⟩ := hw
    replace hg9 := hg9.symm
    subst hg9
    rcases hw with ⟨b_13, rfl⟩ | ⟨b_13, rfl⟩
    · refine g_if_ne (tgt := 27) C (by decide) dX8_meet_18 (by decide) (fun _ => ?_) (fun c9 => absurd c9 (by decide))
      refine g_aload_n C dX8_meet_27 rfl hl 0 rfl ?_
      refine g_iload_n C dX8_meet_28 rfl hl 1 rfl ?_
      have hla := hlay li (by omega) (by omega)
      have hlb := hlay lj (by omega) (by omega)
      have hlc := lcm_range (a := f (4 * li + 1)) (b := f (4 * lj + 1)) (by omega) (by omega) (by omega) (by omega)
      refine g_ci C G (g_runV (As := [.int (iz li)]) (rest := []) (pos := 192) C G (c_X8_wheel l κ B n ad g_1 ly 0 mk tx rl a0 wr s0 s1 rm f li hn8 hc_3 hc_4 (by omega)) (cwV 1 C.1.2.2.2.2 gX8_meet_X8_wheel rfl rfl rfl (by decide +kernel) ⟨Nat.le_of_ble_eq_true rfl, Nat.le_of_ble_eq_true rfl⟩) (by omega) hc_3 (T := TX8) (N := 17) rfl rfl hl rfl (Nat.le_of_ble_eq_true rfl) dX8_meet_29 ⟨Nat.le_of_ble_eq_true rfl, Nat.le_of_ble_eq_true rfl⟩) (fun z_15 g9 H locs hw G => ?_)
      obtain ⟨hg9, h_16⟩ := hw
      replace hg9 := hg9.symm
      subst hg9
      subst h_16
      refine g_aload_n C dX8_meet_32 rfl hl 0 rfl ?_
      refine g_iload_n C dX8_meet_33 rfl hl 1 rfl ?_
      refine g_ci C G (g_runV (As := [.int (iz li)]) (rest := [.int (iz (f (4 * li + 1)))]) (pos := 192) C G (c_X8_wheel l κ B n ad g_1 ly 0 mk tx rl a0 wr s0 s1 rm f li hn8 hc_3 hc_4 (by omega)) (cwV 1 C.1.2.2.2.2 gX8_meet_X8_wheel rfl rfl rfl (by decide +kernel) ⟨Nat.le_of_ble_eq_true rfl, Nat.le_of_ble_eq_true rfl⟩) (by omega) hc_3 (T := TX8) (N := 17) rfl rfl hl rfl (Nat.le_of_ble_eq_true rfl) dX8_meet_34 ⟨Nat.le_of_ble_eq_true rfl, Nat.le_of_ble_eq_true rfl⟩) (fun z_17 g9 H locs hw G => ?_)
      obtain ⟨hg9, h_18⟩ := hw
      replace hg9 := hg9.symm
      subst hg9
      subst h_18
      refine g_aload_n C dX8_meet_37 rfl hl 0 rfl ?_
      refine g_iload_n C dX8_meet_38 rfl hl 2 rfl ?_
      refine g_ci C G (g_runV (As := [.int (iz lj)]) (rest := [.int (iz (f (4 * li + 1))), .int (iz (f (4 * li + 1)))]) (pos := 192) C G (c_X8_wheel l κ B n ad g_1 ly 0 mk tx rl a0 wr s0 s1 rm f lj hn8 hc_3 hc_4 (by omega)) (cwV 1 C.1.2.2.2.2 gX8_meet_X8_wheel rfl rfl rfl (by decide +kernel) ⟨Nat.le_of_ble_eq_true rfl, Nat.le_of_ble_eq_true rfl⟩) (by omega) hc_3 (T := TX8) (N := 17) rfl rfl hl rfl (Nat.le_of_ble_eq_true rfl) dX8_meet_39 ⟨Nat.le_of_ble_eq_true rfl, Nat.le_of_ble_eq_true rfl⟩) (fun z_19 g9 H locs hw G => ?_)
      obtain ⟨hg9, h_20⟩ := hw
      replace hg9 := hg9.symm
      subst hg9
      subst h_20
      refine g_ci C G (g_runS (As := [.int (iz (f (4 * li + 1))), .int (iz (f (4 * lj + 1)))]) (rest := [.int (iz (f (4 * li + 1)))]) C G (c_X8_divisor l κ B n ad g_1 (f (4 * li + 1)) (f (4 * lj + 1)) (by omega) (by omega)) (va_cwS 2 C.1.2.2.2.2 gX8_meet_X8_divisor rfl rfl rfl (by decide +kernel) ⟨Nat.le_of_ble_eq_true rfl, Nat.le_of_ble_eq_true rfl⟩) rfl hl rfl (Nat.le_of_ble_eq_true rfl) dX8_meet_42 ⟨Nat.le_of_ble_eq_true rfl, Nat.le_of_ble_eq_true rfl⟩) (fun z_21 g9 H locs hw G => ?_)
      obtain ⟨hg9, h_22⟩ := hw
      replace hg9 := hg9.symm
      subst hg9
      refine g_idiv C (by omega) (by omega) (by omega) dX8_meet_45 ?_
      rw [show (Int.tdiv (f (4 * li + 1)) z_21 : Int) = f (4 * li + 1) / gd (f (4 * li + 1)) (f (4 * lj + 1)) from (by rw [h_22.1, tdiv_pos (by omega)])]
      refine g_aload_n C dX8_meet_46 rfl hl 0 rfl ?_
      refine g_iload_n C dX8_meet_47 rfl hl 2 rfl ?_
      refine g_ci C G (g_runV (As := [.int (iz lj)]) (rest := [.int (iz (f (4 * li + 1) / gd (f (4 * li + 1)) (f (4 * lj + 1))))]) (pos := 192) C G (c_X8_wheel l κ B n ad g_1 ly 0 mk tx rl a0 wr s0 s1 rm f lj hn8 hc_3 hc_4 (by omega)) (cwV 1 C.1.2.2.2.2 gX8_meet_X8_wheel rfl rfl rfl (by decide +kernel) ⟨Nat.le_of_ble_eq_true rfl, Nat.le_of_ble_eq_true rfl⟩) (by omega) hc_3 (T := TX8) (N := 17) rfl rfl hl rfl (Nat.le_of_ble_eq_true rfl) dX8_meet_48 ⟨Nat.le_of_ble_eq_true rfl, Nat.le_of_ble_eq_true rfl⟩) (fun z_23 g9 H locs hw G => ?_)
      obtain ⟨hg9, h_24⟩ := hw
      replace hg9 := hg9.symm
      subst hg9
      subst h_24
      refine g_imul C dX8_meet_51 ?_
      refine lv_istore_n (lv' := [(3, .int (iz ((f (4 * li + 1) / gd (f (4 * li + 1)) (f (4 * lj + 1))) * (f (4 * lj + 1))))), (0, .ref (ad 192)), (1, .int (iz li)), (2, .int (iz lj))]) C.1.1 C.1.2.1 dX8_meet_52 rfl hl (by decide) rfl (fun ls hl => ?_)
      refine g_iconst (a := 0) C dX8_meet_53 rfl ?_
      refine lv_istore (lv' := [(4, .int (iz 0)), (3, .int (iz ((f (4 * li + 1) / gd (f (4 * li + 1)) (f (4 * lj + 1))) * (f (4 * lj + 1))))), (0, .ref (ad 192)), (1, .int (iz li)), (2, .int (iz lj))]) C.1.1 C.1.2.1 dX8_meet_54 hl (by decide) rfl (fun ls hl => ?_)
      have lp_56_n_26 : ∀ (k_25 : Nat) (t : Int), (f (4 * li + 1) / gd (f (4 * li + 1)) (f (4 * lj + 1)) * f (4 * lj + 1) - t).toNat < k_25 → (0 ≤ t ∧ t ≤ f (4 * li + 1) / gd (f (4 * li + 1)) (f (4 * lj + 1)) * f (4 * lj + 1)) → (∀ j, 0 ≤ j → j < t → ¬ (f (4 * li + 4) = f (4 * lj + 4) ∧ rad (f (4 * li + 1)) (f (4 * li + 2)) (f (4 * li + 3)) (j % f (4 * li + 1)) = rad (f (4 * lj + 1)) (f (4 * lj + 2)) (f (4 * lj + 3)) (j % f (4 * lj + 1)))) → ∀ (H : Heap) (locs : List Loc), gG κ B n ad s g_1 H locs → ∀ (ls : Array Slot), lv_has ls 5 [(0, .ref (ad 192)), (1, .int (iz li)), (2, .int (iz lj)), (3, .int (iz ((f (4 * li + 1) / gd (f (4 * li + 1)) (f (4 * lj + 1))) * (f (4 * lj + 1))))), (4, .int (iz t))] → W p l e ({ frames := 2, cells := 0, slots := 0, locals := 50 }) s m args below meth c H locs 0 0 (MQ below (gQi κ B n ad (fun z g' => ∃ t9, ((t9 = 1 ∧ ¬ ((0 ≤ li ∧ li < ly) ∧ 0 ≤ lj ∧ lj < ly)) ∨ (t9 = 0 ∧ ((0 ≤ li ∧ li < ly) ∧ 0 ≤ lj ∧ lj < ly) ∧ isFirst (fun t => f (4 * li + 4) = f (4 * lj + 4) ∧ rad (f (4 * li + 1)) (f (4 * li + 2)) (f (4 * li + 3)) (t % f (4 * li + 1)) = rad (f (4 * lj + 1)) (f (4 * lj + 2)) (f (4 * lj + 3)) (t % f (4 * lj + 1))) (f (4 * li + 1) / gd (f (4 * li + 1)) (f (4 * lj + 1)) * f (4 * lj + 1)) z)) ∧ jkM κ ad g' ly t9 tx s0 s1 rm (mk + 1000) f X9 pa sv ∧ frM g g')) args s 0 0 (gFree B)) (F0 m 56 ls []) := by
        intro k_25
        induction k_25 with
        | zero => intro t hm; exact absurd hm (Nat.not_lt_zero _)
        | succ k_25 ih_lp_56_n_26 =>
          intro t hm ht hno H locs G ls hl
          refine g_iload C dX8_meet_56 hl 4 rfl ?_
          refine g_iload_n C dX8_meet_58 rfl hl 3 rfl ?_
          refine g_icmp_ge (tgt := 103) C (by omega) (by omega) dX8_meet_59 (by decide) (fun c_27 => ?_) (fun c_27 => ?_)
          · refine g_bipush (a := (-9)) C dX8_meet_103 (by decide) ?_
            refine g_iret C G hr hlk (Nat.le_of_ble_eq_true rfl) (Nat.le_of_ble_eq_true rfl) dX8_meet_105 ?_
            have hfin : isFirst (fun t => f (4 * li + 4) = f (4 * lj + 4) ∧ rad (f (4 * li + 1)) (f (4 * li + 2)) (f (4 * li + 3)) (t % f (4 * li + 1)) = rad (f (4 * lj + 1)) (f (4 * lj + 2)) (f (4 * lj + 3)) (t % f (4 * lj + 1))) (f (4 * li + 1) / gd (f (4 * li + 1)) (f (4 * lj + 1)) * f (4 * lj + 1)) (-9) := Or.inr ⟨rfl, fun j j0 j1 q => by
              by_cases hjt : j < t
              · exact hno j j0 hjt q
              · have q9 := q.1; omega⟩
            exact ⟨0, Or.inr (⟨rfl, by omega, hfin⟩), ⟨_, _, _, _, _, _, _, hc_3, hc_4, hc_5, hc_6, hc_7, hc_8, hc_9, hc_10, by omega, hMr, hinq⟩, fun q hq => ((congrFun hg_2 q).trans (gu_ne (by omega)))⟩
          · refine g_aload_n C dX8_meet_62 rfl hl 0 rfl ?_
            refine g_iload_n C dX8_meet_63 rfl hl 1 rfl ?_
            refine g_ci C G (g_runV (As := [.int (iz li)]) (rest := []) (pos := 192) C G (c_X8_start l κ B n ad g_1 ly 0 mk tx rl a0 wr s0 s1 rm f li hn8 hc_3 hc_4 (by omega)) (cwV 1 C.1.2.2.2.2 gX8_meet_X8_start rfl rfl rfl (by decide +kernel) ⟨Nat.le_of_ble_eq_true rfl, Nat.le_of_ble_eq_true rfl⟩) (by omega) hc_3 (T := TX8) (N := 17) rfl rfl hl rfl (Nat.le_of_ble_eq_true rfl) dX8_meet_64 ⟨Nat.le_of_ble_eq_true rfl, Nat.le_of_ble_eq_true rfl⟩) (fun z_28 g9 H locs hw G => ?_)
            obtain ⟨hg9, h_29⟩ := hw
            replace hg9 := hg9.symm
            subst hg9
            subst h_29
            refine g_aload_n C dX8_meet_67 rfl hl 0 rfl ?_
            refine g_iload_n C dX8_meet_68 rfl hl 2 rfl ?_
            refine g_ci C G (g_runV (As := [.int (iz lj)]) (rest := [.int (iz (f (4 * li + 4)))]) (pos := 192) C G (c_X8_start l κ B n ad g_1 ly 0 mk tx rl a0 wr s0 s1 rm f lj hn8 hc_3 hc_4 (by omega)) (cwV 1 C.1.2.2.2.2 gX8_meet_X8_start rfl rfl rfl (by decide +kernel) ⟨Nat.le_of_ble_eq_true rfl, Nat.le_of_ble_eq_true rfl⟩) (by omega) hc_3 (T := TX8) (N := 17) rfl rfl hl rfl (Nat.le_of_ble_eq_true rfl) dX8_meet_69 ⟨Nat.le_of_ble_eq_true rfl, Nat.le_of_ble_eq_true rfl⟩) (fun z_30 g9 H locs hw G => ?_)
            obtain ⟨hg9, h_31⟩ := hw
            replace hg9 := hg9.symm
            subst hg9
            subst h_31
            refine g_icmp_ne (tgt := 103) C (by omega) (by omega) dX8_meet_72 (by decide) (fun c_32 => ?_) (fun c_32 => ?_)
            · refine g_bipush (a := (-9)) C dX8_meet_103 (by decide) ?_
              refine g_iret C G hr hlk (Nat.le_of_ble_eq_true rfl) (Nat.le_of_ble_eq_true rfl) dX8_meet_105 ?_
              have hfin : isFirst (fun t => f (4 * li + 4) = f (4 * lj + 4) ∧ rad (f (4 * li + 1)) (f (4 * li + 2)) (f (4 * li + 3)) (t % f (4 * li + 1)) = rad (f (4 * lj + 1)) (f (4 * lj + 2)) (f (4 * lj + 3)) (t % f (4 * lj + 1))) (f (4 * li + 1) / gd (f (4 * li + 1)) (f (4 * lj + 1)) * f (4 * lj + 1)) (-9) := Or.inr ⟨rfl, fun j j0 j1 q => by
                by_cases hjt : j < t
                · exact hno j j0 hjt q
                · have q9 := q.1; omega⟩
              exact ⟨0, Or.inr (⟨rfl, by omega, hfin⟩), ⟨_, _, _, _, _, _, _, hc_3, hc_4, hc_5, hc_6, hc_7, hc_8, hc_9, hc_10, by omega, hMr, hinq⟩, fun q hq => ((congrFun hg_2 q).trans (gu_ne (by omega)))⟩
            · refine g_aload_n C dX8_meet_75 rfl hl 0 rfl ?_
              refine g_iload_n C dX8_meet_76 rfl hl 1 rfl ?_
              refine g_iload C dX8_meet_77 hl 4 rfl ?_
              refine g_i2l C (by omega) dX8_meet_79 ?_
              refine g_ci C G (g_runV (As := [.int (iz li), .long (jz t)]) (rest := []) (pos := 192) C G (c_X8_radiusAt l κ B n ad g_1 ly 0 mk tx rl a0 wr s0 s1 rm f li t hn8 hc_3 hc_4 hok (by omega) (by omega)) (cwV 2 C.1.2.2.2.2 gX8_meet_X8_radiusAt rfl rfl rfl (by decide +kernel) ⟨Nat.le_of_ble_eq_true rfl, Nat.le_of_ble_eq_true rfl⟩) (by omega) hc_3 (T := TX8) (N := 17) rfl rfl hl rfl (Nat.le_of_ble_eq_true rfl) dX8_meet_80 ⟨Nat.le_of_ble_eq_true rfl, Nat.le_of_ble_eq_true rfl⟩) (fun z_33 g9 H locs hw G => ?_)
              obtain ⟨hg9, h_34⟩ := hw
              replace hg9 := hg9.symm
              subst hg9
              refine g_aload_n C dX8_meet_83 rfl hl 0 rfl ?_
              refine g_iload_n C dX8_meet_84 rfl hl 2 rfl ?_
              refine g_iload C dX8_meet_85 hl 4 rfl ?_
              refine g_i2l C (by omega) dX8_meet_87 ?_
              refine g_ci C G (g_runV (As := [.int (iz lj), .long (jz t)]) (rest := [.int (iz z_33)]) (pos := 192) C G (c_X8_radiusAt l κ B n ad g_1 ly 0 mk tx rl a0 wr s0 s1 rm f lj t hn8 hc_3 hc_4 hok (by omega) (by omega)) (cwV 2 C.1.2.2.2.2 gX8_meet_X8_radiusAt rfl rfl rfl (by decide +kernel) ⟨Nat.le_of_ble_eq_true rfl, Nat.le_of_ble_eq_true rfl⟩) (by omega) hc_3 (T := TX8) (N := 17) rfl rfl hl rfl (Nat.le_of_ble_eq_true rfl) dX8_meet_88 ⟨Nat.le_of_ble_eq_true rfl, Nat.le_of_ble_eq_true rfl⟩) (fun z_35 g9 H locs hw G => ?_)
              obtain ⟨hg9, h_36⟩ := hw
              replace hg9 := hg9.symm
              subst hg9
              refine g_icmp_ne (tgt := 97) C (by omega) (by omega) dX8_meet_91 (by decide) (fun c_37 => ?_) (fun c_37 => ?_)
              · refine lv_iinc (v := iz (t + 1)) (lv' := [(4, .int (iz (t + 1))), (0, .ref (ad 192)), (1, .int (iz li)), (2, .int (iz lj)), (3, .int (iz ((f (4 * li + 1) / gd (f (4 * li + 1)) (f (4 * lj + 1))) * (f (4 * lj + 1)))))]) C.1.1 C.1.2.1 dX8_meet_97 hl (k := 4) rfl (g_inc (by omega)) (by decide) rfl (fun ls hl => ?_)
                refine g_goto (tgt := 56) C dX8_meet_100 (by decide) ?_
                exact ih_lp_56_n_26 (t + 1) (by omega) (by omega) (fun j j0 j1 => by
                    by_cases hj : j = t
                    · rw [hj, ← h_34.1, ← h_36.1]; omega
                    · exact hno j j0 (by omega)) _ _ G _ (lv_sub hl [1, 2, 3, 4, 0] rfl)
              · refine g_iload C dX8_meet_94 hl 4 rfl ?_
                refine g_iret C G hr hlk (Nat.le_of_ble_eq_true rfl) (Nat.le_of_ble_eq_true rfl) dX8_meet_96 ?_
                exact ⟨0, Or.inr (⟨rfl, by omega, Or.inl ⟨ht.1, by omega, ⟨by omega, by rw [← h_34.1, ← h_36.1]; omega⟩, hno⟩⟩), ⟨_, _, _, _, _, _, _, hc_3, hc_4, hc_5, hc_6, hc_7, hc_8, hc_9, hc_10, by omega, hMr, hinq⟩, fun q hq => ((congrFun hg_2 q).trans (gu_ne (by omega)))⟩
      exact lp_56_n_26 _ 0 (Nat.lt_succ_self _) (by omega) (fun j j0 j1 => absurd j1 (by omega)) _ _ G _ (lv_sub hl [2, 3, 4, 1, 0] rfl)
    · refine g_if_ne (tgt := 27) C (by decide) dX8_meet_18 (by decide) (fun c9 => absurd c9 (by decide)) (fun _ => ?_)
      refine g_aload_n C dX8_meet_21 rfl hl 0 rfl ?_
      refine g_iconst (a := 1) C dX8_meet_22 rfl ?_
      refine g_ci C G (g_runV (As := [.int (iz 1)]) (rest := []) (pos := 192) C G (c_X8_refused l κ B n ad g_1 ly 0 mk tx rl a0 wr s0 s1 rm 1 hn8 hc_3) (cwV 1 C.1.2.2.2.2 gX8_meet_X8_refused rfl rfl rfl (by decide +kernel) ⟨Nat.le_of_ble_eq_true rfl, Nat.le_of_ble_eq_true rfl⟩) (by omega) hc_3 (T := TX8) (N := 17) rfl rfl hl rfl (Nat.le_of_ble_eq_true rfl) dX8_meet_23 ⟨Nat.le_of_ble_eq_true rfl, Nat.le_of_ble_eq_true rfl⟩) (fun z_38 g9 H locs hw G => ?_)
      obtain ⟨hw, h_39⟩ := hw
      subst hw
      obtain ⟨g_40, hg_41⟩ : ∃ g9, g9 = va_up g_1 192 (.inr (8, [.ref (ad 193), .int (iz ly), .int (iz 1), .ref (ad 194), .int (iz mk), .ref (ad 195), .int (iz tx), .ref (ad 196), .int (iz rl), .int (iz a0), .int (iz wr), .int (iz s0), .int (iz s1), .ref (ad 197), .int (iz rm), .ref (ad 198), .ref (ad 199)])) := ⟨_, rfl⟩
      rw [← hg_41] at G
      have hc_42 : g_40 192 = .inr (8, [.ref (ad 193), .int (iz ly), .int (iz 1), .ref (ad 194), .int (iz mk), .ref (ad 195), .int (iz tx), .ref (ad 196), .int (iz rl), .int (iz a0), .int (iz wr), .int (iz s0), .int (iz s1), .ref (ad 197), .int (iz rm), .ref (ad 198), .ref (ad 199)]) := by rw [hg_41]; exact gu_self _ _ _
      have hc_43 : g_40 193 = aI κ 42 f := by rw [hg_41, gu_ne (by decide)]; exact hc_4
      have hc_44 : g_40 194 = aI κ 28896 M9 := by rw [hg_41, gu_ne (by decide)]; exact hc_5
      have hc_45 : g_40 195 = aI κ 100 X9 := by rw [hg_41, gu_ne (by decide)]; exact hc_6
      have hc_46 : g_40 196 = aI κ 42 q9 := by rw [hg_41, gu_ne (by decide)]; exact hc_7
      have hc_47 : g_40 197 = aI κ 602 pa := by rw [hg_41, gu_ne (by decide)]; exact hc_8
      have hc_48 : g_40 198 = aI κ 43 be := by rw [hg_41, gu_ne (by decide)]; exact hc_9
      have hc_49 : g_40 199 = aI κ 86 sv := by rw [hg_41, gu_ne (by decide)]; exact hc_10
      refine g_iret C G hr hlk (Nat.le_of_ble_eq_true rfl) (Nat.le_of_ble_eq_true rfl) dX8_meet_26 ?_
      exact ⟨1, Or.inl ⟨rfl, by omega⟩, ⟨_, _, _, _, _, _, _, hc_42, hc_43, hc_44, hc_45, hc_46, hc_47, hc_48, hc_49, by omega, hMr, hinq⟩, fun q hq => (((congrFun hg_41 q).trans (gu_ne (by omega))).trans ((congrFun hg_2 q).trans (gu_ne (by omega))))⟩
  · refine g_if_eq (tgt := 21) C (by decide) dX8_meet_10 (by decide) (fun _ => ?_) (fun c9 => absurd c9 (by decide))
    refine g_aload_n C dX8_meet_21 rfl hl 0 rfl ?_
    refine g_iconst (a := 1) C dX8_meet_22 rfl ?_
    refine g_ci C G (g_runV (As := [.int (iz 1)]) (rest := []) (pos := 192) C G (c_X8_refused l κ B n ad g_1 ly 0 mk tx rl a0 wr s0 s1 rm 1 hn8 hc_3) (cwV 1 C.1.2.2.2.2 gX8_meet_X8_refused rfl rfl rfl (by decide +kernel) ⟨Nat.le_of_ble_eq_true rfl, Nat.le_of_ble_eq_true rfl⟩) (by omega) hc_3 (T := TX8) (N := 17) rfl rfl hl rfl (Nat.le_of_ble_eq_true rfl) dX8_meet_23 ⟨Nat.le_of_ble_eq_true rfl, Nat.le_of_ble_eq_true rfl⟩) (fun z_50 g9 H locs hw G => ?_)
    obtain ⟨hw, h_51⟩ := hw
    subst hw
    obtain ⟨g_52, hg_53⟩ : ∃ g9, g9 = va_up g_1 192 (.inr (8, [.ref (ad 193), .int (iz ly), .int (iz 1), .ref (ad 194), .int (iz mk), .ref (ad 195), .int (iz tx), .ref (ad 196), .int (iz rl), .int (iz a0), .int (iz wr), .int (iz s0), .int (iz s1), .ref (ad 197), .int (iz rm), .ref (ad 198), .ref (ad 199)])) := ⟨_, rfl⟩
    rw [← hg_53] at G
    have hc_54 : g_52 192 = .inr (8, [.ref (ad 193), .int (iz ly), .int (iz 1), .ref (ad 194), .int (iz mk), .ref (ad 195), .int (iz tx), .ref (ad 196), .int (iz rl), .int (iz a0), .int (iz wr), .int (iz s0), .int (iz s1), .ref (ad 197), .int (iz rm), .ref (ad 198), .ref (ad 199)]) := by rw [hg_53]; exact gu_self _ _ _
    have hc_55 : g_52 193 = aI κ 42 f := by rw [hg_53, gu_ne (by decide)]; exact hc_4
    have hc_56 : g_52 194 = aI κ 28896 M9 := by rw [hg_53, gu_ne (by decide)]; exact hc_5
    have hc_57 : g_52 195 = aI κ 100 X9 := by rw [hg_53, gu_ne (by decide)]; exact hc_6
    have hc_58 : g_52 196 = aI κ 42 q9 := by rw [hg_53, gu_ne (by decide)]; exact hc_7
    have hc_59 : g_52 197 = aI κ 602 pa := by rw [hg_53, gu_ne (by decide)]; exact hc_8
    have hc_60 : g_52 198 = aI κ 43 be := by rw [hg_53, gu_ne (by decide)]; exact hc_9
    have hc_61 : g_52 199 = aI κ 86 sv := by rw [hg_53, gu_ne (by decide)]; exact hc_10
    refine g_iret C G hr hlk (Nat.le_of_ble_eq_true rfl) (Nat.le_of_ble_eq_true rfl) dX8_meet_26 ?_
    exact ⟨1, Or.inl ⟨rfl, by omega⟩, ⟨_, _, _, _, _, _, _, hc_54, hc_55, hc_56, hc_57, hc_58, hc_59, hc_60, hc_61, by omega, hMr, hinq⟩, fun q hq => (((congrFun hg_53 q).trans (gu_ne (by omega))).trans ((congrFun hg_2 q).trans (gu_ne (by omega))))⟩
theorem fX8_isMarked_67 : gFld wsX8_isMarked RX8 67 8 4 := ⟨RX8, TX8, 17, rfl, by decide, by decide +kernel, by decide +kernel⟩
theorem fX8_isMarked_13 : gFld wsX8_isMarked RX8 13 8 3 := ⟨RX8, TX8, 17, rfl, by decide, by decide +kernel, by decide +kernel⟩
set_option maxHeartbeats 4000000 in
set_option maxRecDepth 100000 in
theorem c_X8_isMarked (l : Launch) (κ : gKap) (B n : Nat) (ad : Nat → Nat) (g : Nat → va_E) (ly : Int) (th : Int) (mk : Int) (tx : Int) (rl : Int) (a0 : Int) (wr : Int) (s0 : Int) (s1 : Int) (rm : Int) (f : Int → Int) (M9 : Int → Int) (li : Int) (sp : Int) (S9 : Int → Int → Prop) (hn8 : 200 ≤ n) (hM : g 192 = oM ad ly th mk tx rl a0 wr s0 s1 rm) (hN : g 193 = aI κ 42 f) (hK : g 194 = aI κ 28896 M9) (hok : okPl ly f) (hli : 0 ≤ li ∧ li < ly) (hsp : inI sp) (hmk : 0 ≤ mk ∧ mk ≤ 900000000) (hS : mkS M9 mk S9) : Met l yX8_isMarked wsX8_isMarked ({ frames := 5, cells := 0, slots := 0, locals := 118 }) (gPre κ B n ad g [.ref (ad 192), .int (iz li), .int (iz sp)]) (gQi κ B n ad (fun z g' => ∃ V m9, g' = va_up (va_up g 192 (oM ad ly th m9 tx rl a0 wr s0 s1 rm)) 194 (aI κ 28896 V) ∧ (∀ i, 0 ≤ i → i < 28896 → 0 ≤ V i ∧ V i ≤ m9) ∧ (mk ≤ m9 ∧ m9 ≤ mk + 1) ∧ ((((∀ x y, PTl f li x y → S9 x y) ∧ (cntS (fun x y => PTl f li x y) : Int) = sp) ∧ z = 1) ∨ (¬ ((∀ x y, PTl f li x y → S9 x y) ∧ (cntS (fun x y => PTl f li x y) : Int) = sp) ∧ z = 0)))) 0 0 (gFree B) := by
  refine g_met RX8 (cc := cX8_isMarked) (maxL := 6) (ret := (some .boolean)) (by decide) rfl rfl (Nat.le_of_ble_eq_true rfl) ?_
  intro p e s m args below meth c C hr hlk hnm G ls hl
  have hl : lv_has ls 6 [(0, .ref (ad 192)), (1, .int (iz li)), (2, .int (iz sp))] := hl
  obtain ⟨hn6, hv0, hv25, hlay, hsee⟩ := id hok
  have hla := hlay li hli.1 hli.2
  have hpd := pd_range (ring := f 0) (w := f (4 * li + 1)) hv0 (by omega) (by omega)
  refine g_aload_n C dX8_isMarked_0 rfl hl 0 rfl ?_
  refine g_get C G (pos := 192) fX8_isMarked_67 (by omega) hM rfl dX8_isMarked_1 ?_
  refine lv_istore_n (lv' := [(3, .int (iz mk)), (0, .ref (ad 192)), (1, .int (iz li)), (2, .int (iz sp))]) C.1.1 C.1.2.1 dX8_isMarked_4 rfl hl (by decide) rfl (fun ls hl => ?_)
  refine g_aload_n C dX8_isMarked_5 rfl hl 1 rfl ?_
  refine g_iload_n C dX8_isMarked_6 rfl hl 2 rfl ?_
  refine g_ci C G (g_runV (As := [.int (iz li)]) (rest := []) (pos := 192) C G (c_X8_period l κ B n ad g ly th mk tx rl a0 wr s0 s1 rm f li hn8 hM hN hok hli) (cwV 1 C.1.2.2.2.2 gX8_isMarked_X8_period rfl rfl rfl (by decide +kernel) ⟨Nat.le_of_ble_eq_true rfl, Nat.le_of_ble_eq_true rfl⟩) (by omega) hM (T := TX8) (N := 17) rfl rfl hl rfl (Nat.le_of_ble_eq_true rfl) dX8_isMarked_7 ⟨Nat.le_of_ble_eq_true rfl, Nat.le_of_ble_eq_true rfl⟩) (fun z_1 g9 H locs hw G => ?_)
  obtain ⟨hg9, h_2⟩ := hw
  replace hg9 := hg9.symm
  subst hg9
  refine lv_istore (lv' := [(4, .int (iz z_1)), (3, .int (iz mk)), (0, .ref (ad 192)), (1, .int (iz li)), (2, .int (iz sp))]) C.1.1 C.1.2.1 dX8_isMarked_10 hl (by decide) rfl (fun ls hl => ?_)
  refine g_iconst (a := 0) C dX8_isMarked_12 rfl ?_
  refine lv_istore (lv' := [(5, .int (iz 0)), (4, .int (iz z_1)), (3, .int (iz mk)), (0, .ref (ad 192)), (1, .int (iz li)), (2, .int (iz sp))]) C.1.1 C.1.2.1 dX8_isMarked_13 hl (by decide) rfl (fun ls hl => ?_)
  have lp_15_n_4 : ∀ (k_3 : Nat) (t : Int), (pd (f 0) (f (4 * li + 1)) - t).toNat < k_3 → (0 ≤ t ∧ t ≤ pd (f 0) (f (4 * li + 1))) → (∀ j, 0 ≤ j → j < t → S9 ((f (4 * li + 4) + j) % f 0) (rad (f (4 * li + 1)) (f (4 * li + 2)) (f (4 * li + 3)) (j % f (4 * li + 1)))) → ∀ (H : Heap) (locs : List Loc), gG κ B n ad s g H locs → ∀ (ls : Array Slot), lv_has ls 6 [(0, .ref (ad 192)), (1, .int (iz li)), (2, .int (iz sp)), (3, .int (iz mk)), (4, .int (iz z_1)), (5, .int (iz t))] → W p l e ({ frames := 5, cells := 0, slots := 0, locals := 118 }) s m args below meth c H locs 0 0 (MQ below (gQi κ B n ad (fun z g' => ∃ V m9, g' = va_up (va_up g 192 (oM ad ly th m9 tx rl a0 wr s0 s1 rm)) 194 (aI κ 28896 V) ∧ (∀ i, 0 ≤ i → i < 28896 → 0 ≤ V i ∧ V i ≤ m9) ∧ (mk ≤ m9 ∧ m9 ≤ mk + 1) ∧ ((((∀ x y, PTl f li x y → S9 x y) ∧ (cntS (fun x y => PTl f li x y) : Int) = sp) ∧ z = 1) ∨ (¬ ((∀ x y, PTl f li x y → S9 x y) ∧ (cntS (fun x y => PTl f li x y) : Int) = sp) ∧ z = 0)))) args s 0 0 (gFree B)) (F0 m 15 ls []) := by
    intro k_3
    induction k_3 with
    | zero => intro t hm; exact absurd hm (Nat.not_lt_zero _)
    | succ k_3 ih_lp_15_n_4 =>
      intro t hm ht hno H locs G ls hl
      refine g_iload C dX8_isMarked_15 hl 5 rfl ?_
      refine g_iload C dX8_isMarked_17 hl 4 rfl ?_
      refine g_icmp_ge (tgt := 46) C (by omega) (by omega) dX8_isMarked_19 (by decide) (fun c_5 => ?_) (fun c_5 => ?_)
      · refine g_aload_n C dX8_isMarked_46 rfl hl 0 rfl ?_
        refine g_iload_n C dX8_isMarked_47 rfl hl 1 rfl ?_
        refine g_ci C G (g_runV (As := [.int (iz li)]) (rest := []) (pos := 192) C G (c_X8_size l κ B n ad g ly th mk tx rl a0 wr s0 s1 rm f M9 li hn8 hM hN hK hok hli (by omega) hS.1) (cwV 1 C.1.2.2.2.2 gX8_isMarked_X8_size rfl rfl rfl (by decide +kernel) ⟨Nat.le_of_ble_eq_true rfl, Nat.le_of_ble_eq_true rfl⟩) (by omega) hM (T := TX8) (N := 17) rfl rfl hl rfl (Nat.le_of_ble_eq_true rfl) dX8_isMarked_48 ⟨Nat.le_of_ble_eq_true rfl, Nat.le_of_ble_eq_true rfl⟩) (fun z_8 g_11 H locs hw9 G => ?_)
        obtain ⟨V_6, hgs_10, hS_7, h_9⟩ := hw9
        have hc_12 : g_11 192 = .inr (8, [.ref (ad 193), .int (iz ly), .int (iz th), .ref (ad 194), .int (iz (mk + 1)), .ref (ad 195), .int (iz tx), .ref (ad 196), .int (iz rl), .int (iz a0), .int (iz wr), .int (iz s0), .int (iz s1), .ref (ad 197), .int (iz rm), .ref (ad 198), .ref (ad 199)]) := by rw [hgs_10, gu_ne (by decide)]; exact gu_self _ _ _
        have hc_13 : g_11 193 = aI κ 42 f := by rw [hgs_10, gu_ne (by decide), gu_ne (by decide)]; exact hN
        have hc_14 : g_11 194 = aI κ 28896 V_6 := by rw [hgs_10]; exact gu_self _ _ _
        refine g_iload_n C dX8_isMarked_51 rfl hl 2 rfl ?_
        refine g_icmp_ne (tgt := 59) C (by omega) (by omega) dX8_isMarked_52 (by decide) (fun c_15 => ?_) (fun c_15 => ?_)
        · refine g_iconst (a := 0) C dX8_isMarked_59 rfl ?_
          refine g_zret C G hr hlk (by decide) (Nat.le_of_ble_eq_true rfl) (Nat.le_of_ble_eq_true rfl) dX8_isMarked_60 ?_
          have hall : ∀ x y, PTl f li x y → S9 x y := fun x y ⟨j, j0, j1, j2, j3⟩ => by rw [← j2, ← j3]; exact hno j j0 (by omega)
          exact ⟨V_6, _, by rw [hgs_10], hS_7.1, by omega, Or.inr ⟨fun q => by have q2 := q.2; rw [← h_9.1] at q2; omega, rfl⟩⟩
        · refine g_iconst (a := 1) C dX8_isMarked_55 rfl ?_
          refine g_goto (tgt := 60) C dX8_isMarked_56 (by decide) ?_
          refine g_zret C G hr hlk (by decide) (Nat.le_of_ble_eq_true rfl) (Nat.le_of_ble_eq_true rfl) dX8_isMarked_60 ?_
          have hall : ∀ x y, PTl f li x y → S9 x y := fun x y ⟨j, j0, j1, j2, j3⟩ => by rw [← j2, ← j3]; exact hno j j0 (by omega)
          exact ⟨V_6, _, by rw [hgs_10], hS_7.1, by omega, Or.inl ⟨⟨hall, by rw [← h_9.1]; omega⟩, rfl⟩⟩
      · refine g_aload_n C dX8_isMarked_22 rfl hl 0 rfl ?_
        refine g_get C G (pos := 192) fX8_isMarked_13 (by omega) hM rfl dX8_isMarked_23 ?_
        refine g_aload_n C dX8_isMarked_26 rfl hl 0 rfl ?_
        refine g_iload_n C dX8_isMarked_27 rfl hl 1 rfl ?_
        refine g_iload C dX8_isMarked_28 hl 5 rfl ?_
        refine g_ci C G (g_runV (As := [.int (iz li), .int (iz t)]) (rest := [.ref (ad 194)]) (pos := 192) C G (c_X8_spot l κ B n ad g ly th mk tx rl a0 wr s0 s1 rm f li t hn8 hM hN hok hli (by omega)) (cwV 2 C.1.2.2.2.2 gX8_isMarked_X8_spot rfl rfl rfl (by decide +kernel) ⟨Nat.le_of_ble_eq_true rfl, Nat.le_of_ble_eq_true rfl⟩) (by omega) hM (T := TX8) (N := 17) rfl rfl hl rfl (Nat.le_of_ble_eq_true rfl) dX8_isMarked_30 ⟨Nat.le_of_ble_eq_true rfl, Nat.le_of_ble_eq_true rfl⟩) (fun z_16 g9 H locs hw G => ?_)
        obtain ⟨hg9, h_17⟩ := hw
        replace hg9 := hg9.symm
        subst hg9
        obtain ⟨a9, r9, hez, hea, her, hra8, hrr8⟩ := h_17
        have hS9 := hS.2 a9 r9 (by omega) (by omega) (by omega) (by omega)
        have hvr := hS.1 z_16 (by omega) (by omega)
        refine g_iaload C G (pos := 194) (by omega) hK (by omega) (by omega) (by omega) dX8_isMarked_33 ?_
        refine g_iload_n C dX8_isMarked_34 rfl hl 3 rfl ?_
        refine g_icmp_eq (tgt := 40) C (by omega) (by omega) dX8_isMarked_35 (by decide) (fun c_18 => ?_) (fun c_18 => ?_)
        · refine lv_iinc (v := iz (t + 1)) (lv' := [(5, .int (iz (t + 1))), (0, .ref (ad 192)), (1, .int (iz li)), (2, .int (iz sp)), (3, .int (iz mk)), (4, .int (iz z_1))]) C.1.1 C.1.2.1 dX8_isMarked_40 hl (k := 5) rfl (g_inc (by omega)) (by decide) rfl (fun ls hl => ?_)
          refine g_goto (tgt := 15) C dX8_isMarked_43 (by decide) ?_
          exact ih_lp_15_n_4 (t + 1) (by omega) (by omega) (fun j j0 j1 => by
              by_cases hj : j = t
              · rw [hj, ← hea, ← her]; exact hS9.mp (by rw [← hez]; omega)
              · exact hno j j0 (by omega)) _ _ G _ (lv_sub hl [1, 2, 3, 4, 5, 0] rfl)
        · refine g_iconst (a := 0) C dX8_isMarked_38 rfl ?_
          refine g_zret C G hr hlk (by decide) (Nat.le_of_ble_eq_true rfl) (Nat.le_of_ble_eq_true rfl) dX8_isMarked_39 ?_
          exact ⟨M9, mk, (by funext q; by_cases hq : q = 194 <;> by_cases hq2 : q = 192 <;> simp [va_up, hq, hq2, hM, hK]), hS.1, by omega, Or.inr ⟨fun q => absurd (hS9.mpr (q.1 a9 r9 ⟨t, ht.1, by omega, hea.symm, her.symm⟩)) (by rw [← hez]; omega), rfl⟩⟩
  exact lp_15_n_4 _ 0 (Nat.lt_succ_self _) (by omega) (fun j j0 j1 => absurd j1 (by omega)) _ _ G _ (lv_sub hl [3, 4, 5, 2, 1, 0] rfl)
theorem fX8_turnedBy_7 : gFld wsX8_turnedBy RX8 7 8 0 := ⟨RX8, TX8, 17, rfl, by decide, by decide +kernel, by decide +kernel⟩
theorem fX8_turnedBy_67 : gFld wsX8_turnedBy RX8 67 8 4 := ⟨RX8, TX8, 17, rfl, by decide, by decide +kernel, by decide +kernel⟩
theorem fwX8_turnedBy_67 : gFldW wsX8_turnedBy RX8 67 8 4 .int false := ⟨RX8, TX8, 17, tyX8, rfl, by decide, by decide +kernel, by decide +kernel, tyX8_ok, nmX8, rfl, by decide +kernel, by decide +kernel⟩
set_option maxHeartbeats 4000000 in
set_option maxRecDepth 100000 in
theorem c_X8_turnedBy (l : Launch) (κ : gKap) (B n : Nat) (ad : Nat → Nat) (g : Nat → va_E) (ly : Int) (th : Int) (mk : Int) (tx : Int) (rl : Int) (a0 : Int) (wr : Int) (s0 : Int) (s1 : Int) (rm : Int) (f : Int → Int) (M9 : Int → Int) (li : Int) (lj : Int) (hn8 : 200 ≤ n) (hM : g 192 = oM ad ly th mk tx rl a0 wr s0 s1 rm) (hN : g 193 = aI κ 42 f) (hK : g 194 = aI κ 28896 M9) (hok : okPl ly f) (hli : 0 ≤ li ∧ li < ly) (hlj : 0 ≤ lj ∧ lj < ly) (hmk : 0 ≤ mk ∧ mk ≤ 850000000) (hMr : ∀ i, 0 ≤ i → i < 28896 → 0 ≤ M9 i ∧ M9 i ≤ mk) : Met l yX8_turnedBy wsX8_turnedBy ({ frames := 6, cells := 0, slots := 0, locals := 143 }) (gPre κ B n ad g [.ref (ad 192), .int (iz li), .int (iz lj)]) (gQi κ B n ad (fun z g' => ∃ V m9, g' 192 = oM ad ly th m9 tx rl a0 wr s0 s1 rm ∧ g' 193 = aI κ 42 f ∧ g' 194 = aI κ 28896 V ∧ (∀ q, q ≠ 192 → q ≠ 193 → q ≠ 194 → g' q = g q) ∧ (∀ i, 0 ≤ i → i < 28896 → 0 ≤ V i ∧ V i ≤ m9) ∧ (mk ≤ m9 ∧ m9 ≤ mk + 200) ∧ isFirst (fun d => SameR (f 0) (f (4 * li + 1)) (f (4 * li + 2)) (f (4 * li + 3)) ((f (4 * li + 4) + d) % f 0) (f (4 * lj + 1)) (f (4 * lj + 2)) (f (4 * lj + 3)) (f (4 * lj + 4))) (f 0) z ∧ -9 ≤ z ∧ z ≤ 96)) 0 0 (gFree B) := by
  refine g_met RX8 (cc := cX8_turnedBy) (maxL := 8) (ret := (some .int)) (by decide) rfl rfl (Nat.le_of_ble_eq_true rfl) ?_
  intro p e s m args below meth c C hr hlk hnm G ls hl
  have hl : lv_has ls 8 [(0, .ref (ad 192)), (1, .int (iz li)), (2, .int (iz lj))] := hl
  obtain ⟨hn6, hv0, hv25, hlay, hsee⟩ := id hok
  have hla := hlay li hli.1 hli.2
  refine g_iconst (a := 4) C dX8_turnedBy_0 rfl ?_
  refine g_iload_n C dX8_turnedBy_1 rfl hl 1 rfl ?_
  refine g_imul C dX8_turnedBy_2 ?_
  refine g_iconst (a := 4) C dX8_turnedBy_3 rfl ?_
  refine g_iadd C dX8_turnedBy_4 ?_
  refine lv_istore_n (lv' := [(3, .int (iz ((4 * li) + 4))), (0, .ref (ad 192)), (1, .int (iz li)), (2, .int (iz lj))]) C.1.1 C.1.2.1 dX8_turnedBy_5 rfl hl (by decide) rfl (fun ls hl => ?_)
  refine g_aload_n C dX8_turnedBy_6 rfl hl 1 rfl ?_
  refine g_get C G (pos := 192) fX8_turnedBy_7 (by omega) hM rfl dX8_turnedBy_7 ?_
  refine g_iload_n C dX8_turnedBy_10 rfl hl 0 rfl ?_
  refine g_iaload C G (pos := 193) (by omega) hN (by omega) (by omega) (by omega) dX8_turnedBy_11 ?_
  refine lv_istore (lv' := [(4, .int (iz (f ((4 * li) + 4)))), (3, .int (iz ((4 * li) + 4))), (0, .ref (ad 192)), (1, .int (iz li)), (2, .int (iz lj))]) C.1.1 C.1.2.1 dX8_turnedBy_12 hl (by decide) rfl (fun ls hl => ?_)
  refine g_bipush (a := (-9)) C dX8_turnedBy_14 (by decide) ?_
  refine lv_istore (lv' := [(5, .int (iz (-9))), (4, .int (iz (f ((4 * li) + 4)))), (3, .int (iz ((4 * li) + 4))), (0, .ref (ad 192)), (1, .int (iz li)), (2, .int (iz lj))]) C.1.1 C.1.2.1 dX8_turnedBy_16 hl (by decide) rfl (fun ls hl => ?_)
  refine g_iconst (a := 0) C dX8_turnedBy_18 rfl ?_
  refine lv_istore (lv' := [(6, .int (iz 0)), (5, .int (iz (-9))), (4, .int (iz (f ((4 * li) + 4)))), (3, .int (iz ((4 * li) + 4))), (0, .ref (ad 192)), (1, .int (iz li)), (2, .int (iz lj))]) C.1.1 C.1.2.1 dX8_turnedBy_19 hl (by decide) rfl (fun ls hl => ?_)
  have lp_21_n_2 : ∀ (k_1 : Nat) (d : Int) (fo : Int) (m9 : Int) (V : Int → Int) (F9 : Int → Int) (gv : Nat → va_E), (f 0 - d).toNat < k_1 → (0 ≤ d ∧ d ≤ f 0) → (fo = -9 ∨ (0 ≤ fo ∧ fo < f 0)) → ((fo = -9 ∧ ∀ j, 0 ≤ j → j < d → ¬ SameR (f 0) (f (4 * li + 1)) (f (4 * li + 2)) (f (4 * li + 3)) ((f (4 * li + 4) + j) % f 0) (f (4 * lj + 1)) (f (4 * lj + 2)) (f (4 * lj + 3)) (f (4 * lj + 4))) ∨ (0 ≤ fo ∧ fo < f 0 ∧ (SameR (f 0) (f (4 * li + 1)) (f (4 * li + 2)) (f (4 * li + 3)) ((f (4 * li + 4) + fo) % f 0) (f (4 * lj + 1)) (f (4 * lj + 2)) (f (4 * lj + 3)) (f (4 * lj + 4))) ∧ ∀ j, 0 ≤ j → j < fo → ¬ SameR (f 0) (f (4 * li + 1)) (f (4 * li + 2)) (f (4 * li + 3)) ((f (4 * li + 4) + j) % f 0) (f (4 * lj + 1)) (f (4 * lj + 2)) (f (4 * lj + 3)) (f (4 * lj + 4)))) → (mk ≤ m9 ∧ m9 ≤ mk + 2 * d) → (gv 192 = oM ad ly th m9 tx rl a0 wr s0 s1 rm) → (gv 193 = aI κ 42 F9) → (gv 194 = aI κ 28896 V) → (∀ q, q ≠ 192 → q ≠ 193 → q ≠ 194 → gv q = g q) → (∀ i, 0 ≤ i → i < 28896 → 0 ≤ V i ∧ V i ≤ m9) → (∀ i, i ≠ 4 * li + 4 → F9 i = f i) → ∀ (H : Heap) (locs : List Loc), gG κ B n ad s gv H locs → ∀ (ls : Array Slot), lv_has ls 8 [(0, .ref (ad 192)), (1, .int (iz li)), (2, .int (iz lj)), (3, .int (iz ((4 * li) + 4))), (4, .int (iz (f ((4 * li) + 4)))), (5, .int (iz fo)), (6, .int (iz d))] → W p l e ({ frames := 6, cells := 0, slots := 0, locals := 143 }) s m args below meth c H locs 0 0 (MQ below (gQi κ B n ad (fun z g' => ∃ V m9, g' 192 = oM ad ly th m9 tx rl a0 wr s0 s1 rm ∧ g' 193 = aI κ 42 f ∧ g' 194 = aI κ 28896 V ∧ (∀ q, q ≠ 192 → q ≠ 193 → q ≠ 194 → g' q = g q) ∧ (∀ i, 0 ≤ i → i < 28896 → 0 ≤ V i ∧ V i ≤ m9) ∧ (mk ≤ m9 ∧ m9 ≤ mk + 200) ∧ isFirst (fun d => SameR (f 0) (f (4 * li + 1)) (f (4 * li + 2)) (f (4 * li + 3)) ((f (4 * li + 4) + d) % f 0) (f (4 * lj + 1)) (f (4 * lj + 2)) (f (4 * lj + 3)) (f (4 * lj + 4))) (f 0) z ∧ -9 ≤ z ∧ z ≤ 96)) args s 0 0 (gFree B)) (F0 m 21 ls []) := by
    intro k_1
    induction k_1 with
    | zero => intro d fo m9 V F9 gv hm; exact absurd hm (Nat.not_lt_zero _)
    | succ k_1 ih_lp_21_n_2 =>
      intro d fo m9 V F9 gv hm hd hfr9 hfo hmb hm9 hn9 hk9 hfr hVr hF H locs G ls hl
      refine g_iload C dX8_turnedBy_21 hl 6 rfl ?_
      refine g_aload_n C dX8_turnedBy_23 rfl hl 0 rfl ?_
      refine g_get C G (pos := 192) fX8_turnedBy_7 (by omega) hm9 rfl dX8_turnedBy_24 ?_
      refine g_iconst (a := 0) C dX8_turnedBy_27 rfl ?_
      refine g_iaload C G (pos := 193) (by omega) hn9 (by omega) (by omega) (by omega) dX8_turnedBy_28 ?_
      rw [show (F9 0 : Int) = f 0 from (hF 0 (by omega))]
      refine g_icmp_ge (tgt := 107) C (by omega) (by omega) dX8_turnedBy_29 (by decide) (fun c_3 => ?_) (fun c_3 => ?_)
      · refine g_aload_n C dX8_turnedBy_107 rfl hl 0 rfl ?_
        refine g_get C G (pos := 192) fX8_turnedBy_7 (by omega) hm9 rfl dX8_turnedBy_108 ?_
        refine g_iload_n C dX8_turnedBy_111 rfl hl 3 rfl ?_
        refine g_iload C dX8_turnedBy_112 hl 4 rfl ?_
        refine g_iastore C G (pos := 193) (by omega) hn9 (by omega) (by omega) (by omega) dX8_turnedBy_114 (fun H locs G => ?_)
        obtain ⟨g_4, hg_5⟩ : ∃ g9, g9 = va_up gv 193 (aI κ 42 (vu F9 ((4 * li) + 4) (f ((4 * li) + 4)))) := ⟨_, rfl⟩
        rw [← hg_5] at G
        have hc_6 : g_4 192 = .inr (8, [.ref (ad 193), .int (iz ly), .int (iz th), .ref (ad 194), .int (iz m9), .ref (ad 195), .int (iz tx), .ref (ad 196), .int (iz rl), .int (iz a0), .int (iz wr), .int (iz s0), .int (iz s1), .ref (ad 197), .int (iz rm), .ref (ad 198), .ref (ad 199)]) := by rw [hg_5, gu_ne (by decide)]; exact hm9
        have hc_7 : g_4 193 = aI κ 42 (vu F9 ((4 * li) + 4) (f ((4 * li) + 4))) := by rw [hg_5]; exact gu_self _ _ _
        have hc_8 : g_4 194 = aI κ 28896 V := by rw [hg_5, gu_ne (by decide)]; exact hk9
        refine g_iload C dX8_turnedBy_115 hl 5 rfl ?_
        refine g_iret C G hr hlk (Nat.le_of_ble_eq_true rfl) (Nat.le_of_ble_eq_true rfl) dX8_turnedBy_117 ?_
        have hzf : isFirst (fun d => SameR (f 0) (f (4 * li + 1)) (f (4 * li + 2)) (f (4 * li + 3)) ((f (4 * li + 4) + d) % f 0) (f (4 * lj + 1)) (f (4 * lj + 2)) (f (4 * lj + 3)) (f (4 * lj + 4))) (f 0) fo := by
          rcases hfo with ⟨q1, q2⟩ | ⟨q1, q2, q3, q4⟩
          · exact Or.inr ⟨q1, fun j j0 j1 => q2 j j0 (by omega)⟩
          · exact Or.inl ⟨q1, q2, q3, q4⟩
        exact ⟨_, m9, hc_6, hc_7.trans (congrArg (fun q => aI κ 42 q) (tb_was hF)), hc_8, fun q q1 q2 q3 => (((congrFun hg_5 q).trans (gu_ne (by omega))).trans (hfr q (by omega) (by omega) (by omega))), hVr, by omega, hzf, by omega, by omega⟩
      · refine g_iload C dX8_turnedBy_32 hl 5 rfl ?_
        refine g_bipush (a := (-9)) C dX8_turnedBy_34 (by decide) ?_
        refine g_icmp_ne (tgt := 107) C (by omega) (by omega) dX8_turnedBy_36 (by decide) (fun c_9 => ?_) (fun c_9 => ?_)
        · refine g_aload_n C dX8_turnedBy_107 rfl hl 0 rfl ?_
          refine g_get C G (pos := 192) fX8_turnedBy_7 (by omega) hm9 rfl dX8_turnedBy_108 ?_
          refine g_iload_n C dX8_turnedBy_111 rfl hl 3 rfl ?_
          refine g_iload C dX8_turnedBy_112 hl 4 rfl ?_
          refine g_iastore C G (pos := 193) (by omega) hn9 (by omega) (by omega) (by omega) dX8_turnedBy_114 (fun H locs G => ?_)
          obtain ⟨g_10, hg_11⟩ : ∃ g9, g9 = va_up gv 193 (aI κ 42 (vu F9 ((4 * li) + 4) (f ((4 * li) + 4)))) := ⟨_, rfl⟩
          rw [← hg_11] at G
          have hc_12 : g_10 192 = .inr (8, [.ref (ad 193), .int (iz ly), .int (iz th), .ref (ad 194), .int (iz m9), .ref (ad 195), .int (iz tx), .ref (ad 196), .int (iz rl), .int (iz a0), .int (iz wr), .int (iz s0), .int (iz s1), .ref (ad 197), .int (iz rm), .ref (ad 198), .ref (ad 199)]) := by rw [hg_11, gu_ne (by decide)]; exact hm9
          have hc_13 : g_10 193 = aI κ 42 (vu F9 ((4 * li) + 4) (f ((4 * li) + 4))) := by rw [hg_11]; exact gu_self _ _ _
          have hc_14 : g_10 194 = aI κ 28896 V := by rw [hg_11, gu_ne (by decide)]; exact hk9
          refine g_iload C dX8_turnedBy_115 hl 5 rfl ?_
          refine g_iret C G hr hlk (Nat.le_of_ble_eq_true rfl) (Nat.le_of_ble_eq_true rfl) dX8_turnedBy_117 ?_
          have hzf : isFirst (fun d => SameR (f 0) (f (4 * li + 1)) (f (4 * li + 2)) (f (4 * li + 3)) ((f (4 * li + 4) + d) % f 0) (f (4 * lj + 1)) (f (4 * lj + 2)) (f (4 * lj + 3)) (f (4 * lj + 4))) (f 0) fo := by
            rcases hfo with ⟨q1, q2⟩ | ⟨q1, q2, q3, q4⟩
            · exact Or.inr ⟨q1, fun j j0 j1 => q2 j j0 (by omega)⟩
            · exact Or.inl ⟨q1, q2, q3, q4⟩
          exact ⟨_, m9, hc_12, hc_13.trans (congrArg (fun q => aI κ 42 q) (tb_was hF)), hc_14, fun q q1 q2 q3 => (((congrFun hg_11 q).trans (gu_ne (by omega))).trans (hfr q (by omega) (by omega) (by omega))), hVr, by omega, hzf, by omega, by omega⟩
        · have hno9 : ∀ j, 0 ≤ j → j < d → ¬ SameR (f 0) (f (4 * li + 1)) (f (4 * li + 2)) (f (4 * li + 3)) ((f (4 * li + 4) + j) % f 0) (f (4 * lj + 1)) (f (4 * lj + 2)) (f (4 * lj + 3)) (f (4 * lj + 4)) := (hfo.resolve_right (fun q => by omega)).2
          refine g_aload_n C dX8_turnedBy_39 rfl hl 0 rfl ?_
          refine g_get C G (pos := 192) fX8_turnedBy_7 (by omega) hm9 rfl dX8_turnedBy_40 ?_
          refine g_iload_n C dX8_turnedBy_43 rfl hl 3 rfl ?_
          refine g_iload C dX8_turnedBy_44 hl 4 rfl ?_
          refine g_iastore C G (pos := 193) (by omega) hn9 (by omega) (by omega) (by omega) dX8_turnedBy_46 (fun H locs G => ?_)
          obtain ⟨g_15, hg_16⟩ : ∃ g9, g9 = va_up gv 193 (aI κ 42 (vu F9 ((4 * li) + 4) (f ((4 * li) + 4)))) := ⟨_, rfl⟩
          rw [← hg_16] at G
          have hc_17 : g_15 192 = .inr (8, [.ref (ad 193), .int (iz ly), .int (iz th), .ref (ad 194), .int (iz m9), .ref (ad 195), .int (iz tx), .ref (ad 196), .int (iz rl), .int (iz a0), .int (iz wr), .int (iz s0), .int (iz s1), .ref (ad 197), .int (iz rm), .ref (ad 198), .ref (ad 199)]) := by rw [hg_16, gu_ne (by decide)]; exact hm9
          have hc_18 : g_15 193 = aI κ 42 (vu F9 ((4 * li) + 4) (f ((4 * li) + 4))) := by rw [hg_16]; exact gu_self _ _ _
          have hc_19 : g_15 194 = aI κ 28896 V := by rw [hg_16, gu_ne (by decide)]; exact hk9
          have hc_20 : g_15 193 = aI κ 42 f := hc_18.trans (congrArg (fun q => aI κ 42 q) (tb_was hF))
          refine g_aload_n C dX8_turnedBy_47 rfl hl 0 rfl ?_
          refine lv_dup C.1.1 C.1.2.1 dX8_turnedBy_48 rfl ?_
          refine g_get C G (pos := 192) fX8_turnedBy_67 (by omega) hc_17 rfl dX8_turnedBy_49 ?_
          refine g_iconst (a := 1) C dX8_turnedBy_52 rfl ?_
          refine g_iadd C dX8_turnedBy_53 ?_
          refine g_put C G (pos := 192) (fs' := [.ref (ad 193), .int (iz ly), .int (iz th), .ref (ad 194), .int (iz (m9 + 1)), .ref (ad 195), .int (iz tx), .ref (ad 196), .int (iz rl), .int (iz a0), .int (iz wr), .int (iz s0), .int (iz s1), .ref (ad 197), .int (iz rm), .ref (ad 198), .ref (ad 199)]) fwX8_turnedBy_67 (by omega) hc_17 (Nat.le_of_ble_eq_true rfl) rfl rfl rfl dX8_turnedBy_54 (fun H locs G => ?_)
          obtain ⟨g_21, hg_22⟩ : ∃ g9, g9 = va_up g_15 192 (.inr (8, [.ref (ad 193), .int (iz ly), .int (iz th), .ref (ad 194), .int (iz (m9 + 1)), .ref (ad 195), .int (iz tx), .ref (ad 196), .int (iz rl), .int (iz a0), .int (iz wr), .int (iz s0), .int (iz s1), .ref (ad 197), .int (iz rm), .ref (ad 198), .ref (ad 199)])) := ⟨_, rfl⟩
          rw [← hg_22] at G
          have hc_23 : g_21 192 = .inr (8, [.ref (ad 193), .int (iz ly), .int (iz th), .ref (ad 194), .int (iz (m9 + 1)), .ref (ad 195), .int (iz tx), .ref (ad 196), .int (iz rl), .int (iz a0), .int (iz wr), .int (iz s0), .int (iz s1), .ref (ad 197), .int (iz rm), .ref (ad 198), .ref (ad 199)]) := by rw [hg_22]; exact gu_self _ _ _
          have hc_24 : g_21 193 = aI κ 42 f := by rw [hg_22, gu_ne (by decide)]; exact hc_20
          have hc_25 : g_21 194 = aI κ 28896 V := by rw [hg_22, gu_ne (by decide)]; exact hc_19
          refine g_aload_n C dX8_turnedBy_57 rfl hl 0 rfl ?_
          refine g_iload_n C dX8_turnedBy_58 rfl hl 2 rfl ?_
          refine g_ci C G (g_runV (As := [.int (iz lj)]) (rest := []) (pos := 192) C G (c_X8_mark l κ B n ad g_21 ly th (m9 + 1) tx rl a0 wr s0 s1 rm f V lj hn8 hc_23 hc_24 hc_25 hok hlj (by omega) (fun i i0 i1 => by have := hVr i i0 i1; omega)) (cwV 1 C.1.2.2.2.2 gX8_turnedBy_X8_mark rfl rfl rfl (by decide +kernel) ⟨Nat.le_of_ble_eq_true rfl, Nat.le_of_ble_eq_true rfl⟩) (by omega) hc_23 (T := TX8) (N := 17) rfl rfl hl rfl (Nat.le_of_ble_eq_true rfl) dX8_turnedBy_59 ⟨Nat.le_of_ble_eq_true rfl, Nat.le_of_ble_eq_true rfl⟩) (fun z_28 g9 H locs hw9 G => ?_)
          obtain ⟨V_26, hw9, hV_27, hV_27o, h_29⟩ := hw9
          subst hw9
          obtain ⟨g_30, hg_31⟩ : ∃ g9, g9 = va_up g_21 194 (aI κ 28896 V_26) := ⟨_, rfl⟩
          rw [← hg_31] at G
          have hc_32 : g_30 192 = .inr (8, [.ref (ad 193), .int (iz ly), .int (iz th), .ref (ad 194), .int (iz (m9 + 1)), .ref (ad 195), .int (iz tx), .ref (ad 196), .int (iz rl), .int (iz a0), .int (iz wr), .int (iz s0), .int (iz s1), .ref (ad 197), .int (iz rm), .ref (ad 198), .ref (ad 199)]) := by rw [hg_31, gu_ne (by decide)]; exact hc_23
          have hc_33 : g_30 193 = aI κ 42 f := by rw [hg_31, gu_ne (by decide)]; exact hc_24
          have hc_34 : g_30 194 = aI κ 28896 V_26 := by rw [hg_31]; exact gu_self _ _ _
          have hS1 := (mkS.up hVr).mark hV_27 hV_27o
          have hz9 : z_28 = (cntS (fun x y => PTl f lj x y) : Int) := by rw [h_29.1]; exact congrArg (fun q : Nat => (q : Int)) (mkS.cnt0 hVr hv0)
          refine lv_istore (lv' := [(7, .int (iz z_28)), (0, .ref (ad 192)), (1, .int (iz li)), (2, .int (iz lj)), (3, .int (iz ((4 * li) + 4))), (4, .int (iz (f ((4 * li) + 4)))), (5, .int (iz fo)), (6, .int (iz d))]) C.1.1 C.1.2.1 dX8_turnedBy_62 hl (by decide) rfl (fun ls hl => ?_)
          refine g_aload_n C dX8_turnedBy_64 rfl hl 1 rfl ?_
          refine g_get C G (pos := 192) fX8_turnedBy_7 (by omega) hc_32 rfl dX8_turnedBy_65 ?_
          refine g_iload_n C dX8_turnedBy_68 rfl hl 4 rfl ?_
          refine g_iload C dX8_turnedBy_69 hl 5 rfl ?_
          refine g_iload C dX8_turnedBy_71 hl 7 rfl ?_
          refine g_iadd C dX8_turnedBy_73 ?_
          refine g_aload_n C dX8_turnedBy_74 rfl hl 1 rfl ?_
          refine g_get C G (pos := 192) fX8_turnedBy_7 (by omega) hc_32 rfl dX8_turnedBy_75 ?_
          refine g_iconst (a := 0) C dX8_turnedBy_78 rfl ?_
          refine g_iaload C G (pos := 193) (by omega) hc_33 (by omega) (by omega) (by omega) dX8_turnedBy_79 ?_
          refine g_irem C (by omega) (by omega) (by omega) dX8_turnedBy_80 ?_
          rw [show (Int.tmod ((f ((4 * li) + 4)) + d) (f 0) : Int) = (f (4 * li + 4) + d) % f 0 from (tmod_pos (by omega))]
          have hs0 := Int.emod_nonneg (f (4 * li + 4) + d) (show f 0 ≠ 0 by omega)
          have hs1 := Int.emod_lt_of_pos (f (4 * li + 4) + d) (show 0 < f 0 by omega)
          have hok2 := okPl.st (x := (f (4 * li + 4) + d) % f 0) hok hli ⟨hs0, hs1⟩
          refine g_iastore C G (pos := 193) (by omega) hc_33 (by omega) (by omega) (by omega) dX8_turnedBy_81 (fun H locs G => ?_)
          obtain ⟨g_35, hg_36⟩ : ∃ g9, g9 = va_up g_30 193 (aI κ 42 (vu f ((4 * li) + 4) ((f (4 * li + 4) + d) % f 0))) := ⟨_, rfl⟩
          rw [← hg_36] at G
          have hc_37 : g_35 192 = .inr (8, [.ref (ad 193), .int (iz ly), .int (iz th), .ref (ad 194), .int (iz (m9 + 1)), .ref (ad 195), .int (iz tx), .ref (ad 196), .int (iz rl), .int (iz a0), .int (iz wr), .int (iz s0), .int (iz s1), .ref (ad 197), .int (iz rm), .ref (ad 198), .ref (ad 199)]) := by rw [hg_36, gu_ne (by decide)]; exact hc_32
          have hc_38 : g_35 193 = aI κ 42 (vu f ((4 * li) + 4) ((f (4 * li + 4) + d) % f 0)) := by rw [hg_36]; exact gu_self _ _ _
          have hc_39 : g_35 194 = aI κ 28896 V_26 := by rw [hg_36, gu_ne (by decide)]; exact hc_34
          refine g_aload_n C dX8_turnedBy_82 rfl hl 1 rfl ?_
          refine g_iload_n C dX8_turnedBy_83 rfl hl 2 rfl ?_
          refine g_iload C dX8_turnedBy_84 hl 0 rfl ?_
          refine g_ci C G (g_runV (As := [.int (iz li), .int (iz z_28)]) (rest := []) (pos := 192) C G (c_X8_isMarked l κ B n ad g_35 ly th (m9 + 1) tx rl a0 wr s0 s1 rm (vu f ((4 * li) + 4) ((f (4 * li + 4) + d) % f 0)) V_26 li z_28 (fun x y => False ∨ PTl f lj x y) hn8 hc_37 hc_38 hc_39 hok2 hli (by omega) (by omega) hS1) (cwV 2 C.1.2.2.2.2 gX8_turnedBy_X8_isMarked rfl rfl rfl (by decide +kernel) ⟨Nat.le_of_ble_eq_true rfl, Nat.le_of_ble_eq_true rfl⟩) (by omega) hc_37 (T := TX8) (N := 17) rfl rfl hl rfl (Nat.le_of_ble_eq_true rfl) dX8_turnedBy_86 ⟨Nat.le_of_ble_eq_true rfl, Nat.le_of_ble_eq_true rfl⟩) (fun z_46 g_42 H locs hw9 G => ?_)
          obtain ⟨V_40, m_41, hgs_43, hVr_44, hmb_45, hw9⟩ := hw9
          have hc_47 : g_42 192 = .inr (8, [.ref (ad 193), .int (iz ly), .int (iz th), .ref (ad 194), .int (iz m_41), .ref (ad 195), .int (iz tx), .ref (ad 196), .int (iz rl), .int (iz a0), .int (iz wr), .int (iz s0), .int (iz s1), .ref (ad 197), .int (iz rm), .ref (ad 198), .ref (ad 199)]) := by rw [hgs_43, gu_ne (by decide)]; exact gu_self _ _ _
          have hc_48 : g_42 193 = aI κ 42 (vu f ((4 * li) + 4) ((f (4 * li + 4) + d) % f 0)) := by rw [hgs_43, gu_ne (by decide), gu_ne (by decide)]; exact hc_38
          have hc_49 : g_42 194 = aI κ 28896 V_40 := by rw [hgs_43]; exact gu_self _ _ _
          rcases hw9 with ⟨b_50, rfl⟩ | ⟨b_50, rfl⟩
          · have hsr := tb_same (d := d) hok hli hlj
            rw [← hz9] at hsr
            refine g_if_eq (tgt := 97) C (by decide) dX8_turnedBy_89 (by decide) (fun c9 => absurd c9 (by decide)) (fun _ => ?_)
            refine g_iload C dX8_turnedBy_92 hl 7 rfl ?_
            refine g_goto (tgt := 99) C dX8_turnedBy_94 (by decide) ?_
            refine lv_istore (lv' := [(5, .int (iz d)), (7, .int (iz z_28)), (0, .ref (ad 192)), (1, .int (iz li)), (2, .int (iz lj)), (3, .int (iz ((4 * li) + 4))), (4, .int (iz (f ((4 * li) + 4)))), (6, .int (iz d))]) C.1.1 C.1.2.1 dX8_turnedBy_99 hl (by decide) rfl (fun ls hl => ?_)
            refine lv_iinc (v := iz (d + 1)) (lv' := [(6, .int (iz (d + 1))), (5, .int (iz d)), (7, .int (iz z_28)), (0, .ref (ad 192)), (1, .int (iz li)), (2, .int (iz lj)), (3, .int (iz ((4 * li) + 4))), (4, .int (iz (f ((4 * li) + 4))))]) C.1.1 C.1.2.1 dX8_turnedBy_101 hl (k := 7) rfl (g_inc (by omega)) (by decide) rfl (fun ls hl => ?_)
            refine g_goto (tgt := 21) C dX8_turnedBy_104 (by decide) ?_
            exact ih_lp_21_n_2 (d + 1) d m_41 V_40 (vu f ((4 * li) + 4) ((f (4 * li + 4) + d) % f 0)) g_42 (by omega) (by omega) (by omega) (Or.inr ⟨hd.1, by omega, hsr.mp b_50, hno9⟩) (by omega) hc_47 hc_48 hc_49 (fun q q1 q2 q3 => (((congrFun hgs_43 q).trans ((gu_ne (by omega)).trans (gu_ne (by omega)))).trans (((congrFun hg_36 q).trans (gu_ne (by omega))).trans (((congrFun hg_31 q).trans (gu_ne (by omega))).trans (((congrFun hg_22 q).trans (gu_ne (by omega))).trans (((congrFun hg_16 q).trans (gu_ne (by omega))).trans (hfr q (by omega) (by omega) (by omega)))))))) hVr_44 (fun i hi => vu_ne hi) _ _ G _ (lv_sub hl [3, 4, 5, 6, 7, 1, 0] rfl)
          · have hsr := tb_same (d := d) hok hli hlj
            rw [← hz9] at hsr
            refine g_if_eq (tgt := 97) C (by decide) dX8_turnedBy_89 (by decide) (fun _ => ?_) (fun c9 => absurd c9 (by decide))
            refine g_bipush (a := (-9)) C dX8_turnedBy_97 (by decide) ?_
            refine lv_istore (lv' := [(5, .int (iz (-9))), (7, .int (iz z_28)), (0, .ref (ad 192)), (1, .int (iz li)), (2, .int (iz lj)), (3, .int (iz ((4 * li) + 4))), (4, .int (iz (f ((4 * li) + 4)))), (6, .int (iz d))]) C.1.1 C.1.2.1 dX8_turnedBy_99 hl (by decide) rfl (fun ls hl => ?_)
            refine lv_iinc (v := iz (d + 1)) (lv' := [(6, .int (iz (d + 1))), (5, .int (iz (-9))), (7, .int (iz z_28)), (0, .ref (ad 192)), (1, .int (iz li)), (2, .int (iz lj)), (3, .int (iz ((4 * li) + 4))), (4, .int (iz (f ((4 * li) + 4))))]) C.1.1 C.1.2.1 dX8_turnedBy_101 hl (k := 7) rfl (g_inc (by omega)) (by decide) rfl (fun ls hl => ?_)
            refine g_goto (tgt := 21) C dX8_turnedBy_104 (by decide) ?_
            exact ih_lp_21_n_2 (d + 1) (-9) m_41 V_40 (vu f ((4 * li) + 4) ((f (4 * li + 4) + d) % f 0)) g_42 (by omega) (by omega) (by omega) (Or.inl ⟨rfl, fun j j0 j1 => by
                by_cases hj : j = d
                · rw [hj]; exact fun q => b_50 (hsr.mpr q)
                · exact hno9 j j0 (by omega)⟩) (by omega) hc_47 hc_48 hc_49 (fun q q1 q2 q3 => (((congrFun hgs_43 q).trans ((gu_ne (by omega)).trans (gu_ne (by omega)))).trans (((congrFun hg_36 q).trans (gu_ne (by omega))).trans (((congrFun hg_31 q).trans (gu_ne (by omega))).trans (((congrFun hg_22 q).trans (gu_ne (by omega))).trans (((congrFun hg_16 q).trans (gu_ne (by omega))).trans (hfr q (by omega) (by omega) (by omega)))))))) hVr_44 (fun i hi => vu_ne hi) _ _ G _ (lv_sub hl [3, 4, 5, 6, 7, 1, 0] rfl)
  exact lp_21_n_2 _ 0 (-9) mk M9 f g (Nat.lt_succ_self _) (by omega) (by omega) (Or.inl ⟨rfl, fun j j0 j1 => absurd j1 (by omega)⟩) (by omega) hM hN hK (fun q q1 q2 q3 => rfl) hMr (fun i _ => rfl) _ _ G _ (lv_sub hl [4, 5, 6, 3, 2, 1, 0] rfl)
theorem fwX8_turned_31 : gFldW wsX8_turned RX8 31 8 2 .int false := ⟨RX8, TX8, 17, tyX8, rfl, by decide, by decide +kernel, by decide +kernel, tyX8_ok, nmX8, rfl, by decide +kernel, by decide +kernel⟩
set_option maxHeartbeats 4000000 in
set_option maxRecDepth 100000 in
theorem c_X8_turned (l : Launch) (κ : gKap) (B n : Nat) (ad : Nat → Nat) (g : Nat → va_E) (ly : Int) (th : Int) (mk : Int) (tx : Int) (rl : Int) (a0 : Int) (wr : Int) (s0 : Int) (s1 : Int) (rm : Int) (f : Int → Int) (M9 : Int → Int) (X9 : Int → Int) (q9 : Int → Int) (pa : Int → Int) (be : Int → Int) (sv : Int → Int) (li : Int) (lj : Int) (hn8 : 200 ≤ n) (hM : g 192 = oM ad ly th mk tx rl a0 wr s0 s1 rm) (hN : g 193 = aI κ 42 f) (hK : g 194 = aI κ 28896 M9) (hT : g 195 = aI κ 100 X9) (hRd : g 196 = aI κ 42 q9) (hPa : g 197 = aI κ 602 pa) (hBe : g 198 = aI κ 43 be) (hSv : g 199 = aI κ 86 sv) (hok : okPl ly f) (hmk : 0 ≤ mk ∧ mk ≤ 800000000) (hMr : ∀ i, 0 ≤ i → i < 28896 → 0 ≤ M9 i ∧ M9 i ≤ mk) (hinq : inV q9) (hli : inI li) (hlj : inI lj) : Met l yX8_turned wsX8_turned ({ frames := 7, cells := 0, slots := 0, locals := 170 }) (gPre κ B n ad g [.ref (ad 192), .int (iz li), .int (iz lj)]) (gQi κ B n ad (fun z g' => ∃ t9, ((t9 = 1 ∧ ¬ ((0 ≤ li ∧ li < ly) ∧ 0 ≤ lj ∧ lj < ly)) ∨ (t9 = 0 ∧ ((0 ≤ li ∧ li < ly) ∧ 0 ≤ lj ∧ lj < ly) ∧ isFirst (fun d => SameR (f 0) (f (4 * li + 1)) (f (4 * li + 2)) (f (4 * li + 3)) ((f (4 * li + 4) + d) % f 0) (f (4 * lj + 1)) (f (4 * lj + 2)) (f (4 * lj + 3)) (f (4 * lj + 4))) (f 0) z)) ∧ jkM κ ad g' ly t9 tx s0 s1 rm (mk + 1000) f X9 pa sv ∧ frM g g')) 0 0 (gFree B) := by
  refine g_met RX8 (cc := cX8_turned) (maxL := 3) (ret := (some .int)) (by decide) rfl rfl (Nat.le_of_ble_eq_true rfl) ?_
  intro p e s m args below meth c C hr hlk hnm G ls hl
  have hl : lv_has ls 3 [(0, .ref (ad 192)), (1, .int (iz li)), (2, .int (iz lj))] := hl
  obtain ⟨hn6, hv0, hv25, hlay, hsee⟩ := id hok
  refine g_aload_n C dX8_turned_0 rfl hl 0 rfl ?_
  refine g_iconst (a := 0) C dX8_turned_1 rfl ?_
  refine g_put C G (pos := 192) (fs' := [.ref (ad 193), .int (iz ly), .int (iz 0), .ref (ad 194), .int (iz mk), .ref (ad 195), .int (iz tx), .ref (ad 196), .int (iz rl), .int (iz a0), .int (iz wr), .int (iz s0), .int (iz s1), .ref (ad 197), .int (iz rm), .ref (ad 198), .ref (ad 199)]) fwX8_turned_31 (by omega) hM (Nat.le_of_ble_eq_true rfl) rfl rfl rfl dX8_turned_2 (fun H locs G => ?_)
  obtain ⟨g_1, hg_2⟩ : ∃ g9, g9 = va_up g 192 (.inr (8, [.ref (ad 193), .int (iz ly), .int (iz 0), .ref (ad 194), .int (iz mk), .ref (ad 195), .int (iz tx), .ref (ad 196), .int (iz rl), .int (iz a0), .int (iz wr), .int (iz s0), .int (iz s1), .ref (ad 197), .int (iz rm), .ref (ad 198), .ref (ad 199)])) := ⟨_, rfl⟩
  rw [← hg_2] at G
  have hc_3 : g_1 192 = .inr (8, [.ref (ad 193), .int (iz ly), .int (iz 0), .ref (ad 194), .int (iz mk), .ref (ad 195), .int (iz tx), .ref (ad 196), .int (iz rl), .int (iz a0), .int (iz wr), .int (iz s0), .int (iz s1), .ref (ad 197), .int (iz rm), .ref (ad 198), .ref (ad 199)]) := by rw [hg_2]; exact gu_self _ _ _
  have hc_4 : g_1 193 = aI κ 42 f := by rw [hg_2, gu_ne (by decide)]; exact hN
  have hc_5 : g_1 194 = aI κ 28896 M9 := by rw [hg_2, gu_ne (by decide)]; exact hK
  have hc_6 : g_1 195 = aI κ 100 X9 := by rw [hg_2, gu_ne (by decide)]; exact hT
  have hc_7 : g_1 196 = aI κ 42 q9 := by rw [hg_2, gu_ne (by decide)]; exact hRd
  have hc_8 : g_1 197 = aI κ 602 pa := by rw [hg_2, gu_ne (by decide)]; exact hPa
  have hc_9 : g_1 198 = aI κ 43 be := by rw [hg_2, gu_ne (by decide)]; exact hBe
  have hc_10 : g_1 199 = aI κ 86 sv := by rw [hg_2, gu_ne (by decide)]; exact hSv
  refine g_aload_n C dX8_turned_5 rfl hl 0 rfl ?_
  refine g_iload_n C dX8_turned_6 rfl hl 1 rfl ?_
  refine g_ci C G (g_runV (As := [.int (iz li)]) (rest := []) (pos := 192) C G (c_X8_isLayer l κ B n ad g_1 ly 0 mk tx rl a0 wr s0 s1 rm li hn8 hc_3 (by omega) (by omega)) (cwV 1 C.1.2.2.2.2 gX8_turned_X8_isLayer rfl rfl rfl (by decide +kernel) ⟨Nat.le_of_ble_eq_true rfl, Nat.le_of_ble_eq_true rfl⟩) (by omega) hc_3 (T := TX8) (N := 17) rfl rfl hl rfl (Nat.le_of_ble_eq_true rfl) dX8_turned_7 ⟨Nat.le_of_ble_eq_true rfl, Nat.le_of_ble_eq_true rfl⟩) (fun z_12 g9 H locs hw G => ?_)
  obtain ⟨hg9, hw⟩ := hw
  replace hg9 := hg9.symm
  subst hg9
  rcases hw with ⟨b_11, rfl⟩ | ⟨b_11, rfl⟩
  · refine g_if_eq (tgt := 21) C (by decide) dX8_turned_10 (by decide) (fun c9 => absurd c9 (by decide)) (fun _ => ?_)
    refine g_aload_n C dX8_turned_13 rfl hl 0 rfl ?_
    refine g_iload_n C dX8_turned_14 rfl hl 2 rfl ?_
    refine g_ci C G (g_runV (As := [.int (iz lj)]) (rest := []) (pos := 192) C G (c_X8_isLayer l κ B n ad g_1 ly 0 mk tx rl a0 wr s0 s1 rm lj hn8 hc_3 (by omega) (by omega)) (cwV 1 C.1.2.2.2.2 gX8_turned_X8_isLayer rfl rfl rfl (by decide +kernel) ⟨Nat.le_of_ble_eq_true rfl, Nat.le_of_ble_eq_true rfl⟩) (by omega) hc_3 (T := TX8) (N := 17) rfl rfl hl rfl (Nat.le_of_ble_eq_true rfl) dX8_turned_15 ⟨Nat.le_of_ble_eq_true rfl, Nat.le_of_ble_eq_true rfl⟩) (fun z_14 g9 H locs hw G => ?_)
    obtain ⟨hg9, hw⟩ := hw
    replace hg9 := hg9.symm
    subst hg9
    rcases hw with ⟨b_13, rfl⟩ | ⟨b_13, rfl⟩
    · refine g_if_ne (tgt := 27) C (by decide) dX8_turned_18 (by decide) (fun _ => ?_) (fun c9 => absurd c9 (by decide))
      refine g_aload_n C dX8_turned_27 rfl hl 0 rfl ?_
      refine g_iload_n C dX8_turned_28 rfl hl 1 rfl ?_
      refine g_iload_n C dX8_turned_29 rfl hl 2 rfl ?_
      refine g_ci C G (g_runV (As := [.int (iz li), .int (iz lj)]) (rest := []) (pos := 192) C G (c_X8_turnedBy l κ B n ad g_1 ly 0 mk tx rl a0 wr s0 s1 rm f M9 li lj hn8 hc_3 hc_4 hc_5 hok (by omega) (by omega) (by omega) hMr) (cwV 2 C.1.2.2.2.2 gX8_turned_X8_turnedBy rfl rfl rfl (by decide +kernel) ⟨Nat.le_of_ble_eq_true rfl, Nat.le_of_ble_eq_true rfl⟩) (by omega) hc_3 (T := TX8) (N := 17) rfl rfl hl rfl (Nat.le_of_ble_eq_true rfl) dX8_turned_30 ⟨Nat.le_of_ble_eq_true rfl, Nat.le_of_ble_eq_true rfl⟩) (fun z_18 g_17 H locs hw9 G => ?_)
      obtain ⟨V_15, m_16, hc_19, hc_20, hc_21, hf_22, hVr_23, hmb_24, hz_25, hzr_26⟩ := hw9
      have hc_27 : g_17 195 = aI κ 100 X9 := (hf_22 195 (by decide) (by decide) (by decide)).trans hc_6
      have hc_28 : g_17 196 = aI κ 42 q9 := (hf_22 196 (by decide) (by decide) (by decide)).trans hc_7
      have hc_29 : g_17 197 = aI κ 602 pa := (hf_22 197 (by decide) (by decide) (by decide)).trans hc_8
      have hc_30 : g_17 198 = aI κ 43 be := (hf_22 198 (by decide) (by decide) (by decide)).trans hc_9
      have hc_31 : g_17 199 = aI κ 86 sv := (hf_22 199 (by decide) (by decide) (by decide)).trans hc_10
      refine g_iret C G hr hlk (Nat.le_of_ble_eq_true rfl) (Nat.le_of_ble_eq_true rfl) dX8_turned_33 ?_
      exact ⟨0, Or.inr (⟨rfl, by omega, hz_25⟩), ⟨_, _, _, _, _, _, _, hc_19, hc_20, hc_21, hc_27, hc_28, hc_29, hc_30, hc_31, by omega, hVr_23, hinq⟩, fun q hq => ((hf_22 q (by omega) (by omega) (by omega)).trans ((congrFun hg_2 q).trans (gu_ne (by omega))))⟩
    · refine g_if_ne (tgt := 27) C (by decide) dX8_turned_18 (by decide) (fun c9 => absurd c9 (by decide)) (fun _ => ?_)
      refine g_aload_n C dX8_turned_21 rfl hl 0 rfl ?_
      refine g_iconst (a := 1) C dX8_turned_22 rfl ?_
      refine g_ci C G (g_runV (As := [.int (iz 1)]) (rest := []) (pos := 192) C G (c_X8_refused l κ B n ad g_1 ly 0 mk tx rl a0 wr s0 s1 rm 1 hn8 hc_3) (cwV 1 C.1.2.2.2.2 gX8_turned_X8_refused rfl rfl rfl (by decide +kernel) ⟨Nat.le_of_ble_eq_true rfl, Nat.le_of_ble_eq_true rfl⟩) (by omega) hc_3 (T := TX8) (N := 17) rfl rfl hl rfl (Nat.le_of_ble_eq_true rfl) dX8_turned_23 ⟨Nat.le_of_ble_eq_true rfl, Nat.le_of_ble_eq_true rfl⟩) (fun z_32 g9 H locs hw G => ?_)
      obtain ⟨hw, h_33⟩ := hw
      subst hw
      obtain ⟨g_34, hg_35⟩ : ∃ g9, g9 = va_up g_1 192 (.inr (8, [.ref (ad 193), .int (iz ly), .int (iz 1), .ref (ad 194), .int (iz mk), .ref (ad 195), .int (iz tx), .ref (ad 196), .int (iz rl), .int (iz a0), .int (iz wr), .int (iz s0), .int (iz s1), .ref (ad 197), .int (iz rm), .ref (ad 198), .ref (ad 199)])) := ⟨_, rfl⟩
      rw [← hg_35] at G
      have hc_36 : g_34 192 = .inr (8, [.ref (ad 193), .int (iz ly), .int (iz 1), .ref (ad 194), .int (iz mk), .ref (ad 195), .int (iz tx), .ref (ad 196), .int (iz rl), .int (iz a0), .int (iz wr), .int (iz s0), .int (iz s1), .ref (ad 197), .int (iz rm), .ref (ad 198), .ref (ad 199)]) := by rw [hg_35]; exact gu_self _ _ _
      have hc_37 : g_34 193 = aI κ 42 f := by rw [hg_35, gu_ne (by decide)]; exact hc_4
      have hc_38 : g_34 194 = aI κ 28896 M9 := by rw [hg_35, gu_ne (by decide)]; exact hc_5
      have hc_39 : g_34 195 = aI κ 100 X9 := by rw [hg_35, gu_ne (by decide)]; exact hc_6
      have hc_40 : g_34 196 = aI κ 42 q9 := by rw [hg_35, gu_ne (by decide)]; exact hc_7
      have hc_41 : g_34 197 = aI κ 602 pa := by rw [hg_35, gu_ne (by decide)]; exact hc_8
      have hc_42 : g_34 198 = aI κ 43 be := by rw [hg_35, gu_ne (by decide)]; exact hc_9
      have hc_43 : g_34 199 = aI κ 86 sv := by rw [hg_35, gu_ne (by decide)]; exact hc_10
      refine g_iret C G hr hlk (Nat.le_of_ble_eq_true rfl) (Nat.le_of_ble_eq_true rfl) dX8_turned_26 ?_
      exact ⟨1, Or.inl ⟨rfl, by omega⟩, ⟨_, _, _, _, _, _, _, hc_36, hc_37, hc_38, hc_39, hc_40, hc_41, hc_42, hc_43, by omega, hMr, hinq⟩, fun q hq => (((congrFun hg_35 q).trans (gu_ne (by omega))).trans ((congrFun hg_2 q).trans (gu_ne (by omega))))⟩
  · refine g_if_eq (tgt := 21) C (by decide) dX8_turned_10 (by decide) (fun _ => ?_) (fun c9 => absurd c9 (by decide))
    refine g_aload_n C dX8_turned_21 rfl hl 0 rfl ?_
    refine g_iconst (a := 1) C dX8_turned_22 rfl ?_
    refine g_ci C G (g_runV (As := [.int (iz 1)]) (rest := []) (pos := 192) C G (c_X8_refused l κ B n ad g_1 ly 0 mk tx rl a0 wr s0 s1 rm 1 hn8 hc_3) (cwV 1 C.1.2.2.2.2 gX8_turned_X8_refused rfl rfl rfl (by decide +kernel) ⟨Nat.le_of_ble_eq_true rfl, Nat.le_of_ble_eq_true rfl⟩) (by omega) hc_3 (T := TX8) (N := 17) rfl rfl hl rfl (Nat.le_of_ble_eq_true rfl) dX8_turned_23 ⟨Nat.le_of_ble_eq_true rfl, Nat.le_of_ble_eq_true rfl⟩) (fun z_44 g9 H locs hw G => ?_)
    obtain ⟨hw, h_45⟩ := hw
    subst hw
    obtain ⟨g_46, hg_47⟩ : ∃ g9, g9 = va_up g_1 192 (.inr (8, [.ref (ad 193), .int (iz ly), .int (iz 1), .ref (ad 194), .int (iz mk), .ref (ad 195), .int (iz tx), .ref (ad 196), .int (iz rl), .int (iz a0), .int (iz wr), .int (iz s0), .int (iz s1), .ref (ad 197), .int (iz rm), .ref (ad 198), .ref (ad 199)])) := ⟨_, rfl⟩
    rw [← hg_47] at G
    have hc_48 : g_46 192 = .inr (8, [.ref (ad 193), .int (iz ly), .int (iz 1), .ref (ad 194), .int (iz mk), .ref (ad 195), .int (iz tx), .ref (ad 196), .int (iz rl), .int (iz a0), .int (iz wr), .int (iz s0), .int (iz s1), .ref (ad 197), .int (iz rm), .ref (ad 198), .ref (ad 199)]) := by rw [hg_47]; exact gu_self _ _ _
    have hc_49 : g_46 193 = aI κ 42 f := by rw [hg_47, gu_ne (by decide)]; exact hc_4
    have hc_50 : g_46 194 = aI κ 28896 M9 := by rw [hg_47, gu_ne (by decide)]; exact hc_5
    have hc_51 : g_46 195 = aI κ 100 X9 := by rw [hg_47, gu_ne (by decide)]; exact hc_6
    have hc_52 : g_46 196 = aI κ 42 q9 := by rw [hg_47, gu_ne (by decide)]; exact hc_7
    have hc_53 : g_46 197 = aI κ 602 pa := by rw [hg_47, gu_ne (by decide)]; exact hc_8
    have hc_54 : g_46 198 = aI κ 43 be := by rw [hg_47, gu_ne (by decide)]; exact hc_9
    have hc_55 : g_46 199 = aI κ 86 sv := by rw [hg_47, gu_ne (by decide)]; exact hc_10
    refine g_iret C G hr hlk (Nat.le_of_ble_eq_true rfl) (Nat.le_of_ble_eq_true rfl) dX8_turned_26 ?_
    exact ⟨1, Or.inl ⟨rfl, by omega⟩, ⟨_, _, _, _, _, _, _, hc_48, hc_49, hc_50, hc_51, hc_52, hc_53, hc_54, hc_55, by omega, hMr, hinq⟩, fun q hq => (((congrFun hg_47 q).trans (gu_ne (by omega))).trans ((congrFun hg_2 q).trans (gu_ne (by omega))))⟩
theorem fwX8_bestStart_31 : gFldW wsX8_bestStart RX8 31 8 2 .int false := ⟨RX8, TX8, 17, tyX8, rfl, by decide, by decide +kernel, by decide +kernel, tyX8_ok, nmX8, rfl, by decide +kernel, by decide +kernel⟩
theorem fX8_bestStart_7 : gFld wsX8_bestStart RX8 7 8 0 := ⟨RX8, TX8, 17, rfl, by decide, by decide +kernel, by decide +kernel⟩
set_option maxHeartbeats 4000000 in
set_option maxRecDepth 100000 in
theorem c_X8_bestStart (l : Launch) (κ : gKap) (B n : Nat) (ad : Nat → Nat) (g : Nat → va_E) (ly : Int) (th : Int) (mk : Int) (tx : Int) (rl : Int) (a0 : Int) (wr : Int) (s0 : Int) (s1 : Int) (rm : Int) (f : Int → Int) (M9 : Int → Int) (X9 : Int → Int) (q9 : Int → Int) (pa : Int → Int) (be : Int → Int) (sv : Int → Int) (li : Int) (lj : Int) (hn8 : 200 ≤ n) (hM : g 192 = oM ad ly th mk tx rl a0 wr s0 s1 rm) (hN : g 193 = aI κ 42 f) (hK : g 194 = aI κ 28896 M9) (hT : g 195 = aI κ 100 X9) (hRd : g 196 = aI κ 42 q9) (hPa : g 197 = aI κ 602 pa) (hBe : g 198 = aI κ 43 be) (hSv : g 199 = aI κ 86 sv) (hok : okPl ly f) (hmk : 0 ≤ mk ∧ mk ≤ 800000000) (hMr : ∀ i, 0 ≤ i → i < 28896 → 0 ≤ M9 i ∧ M9 i ≤ mk) (hinq : inV q9) (hli : inI li) (hlj : inI lj) : Met l yX8_bestStart wsX8_bestStart ({ frames := 6, cells := 0, slots := 0, locals := 143 }) (gPre κ B n ad g [.ref (ad 192), .int (iz li), .int (iz lj)]) (gQi κ B n ad (fun z g' => ∃ t9, ((t9 = 1 ∧ ¬ ((0 ≤ li ∧ li < ly) ∧ 0 ≤ lj ∧ lj < ly)) ∨ (t9 = 2 ∧ ((0 ≤ li ∧ li < ly) ∧ 0 ≤ lj ∧ lj < ly) ∧ li = lj) ∨ (t9 = 0 ∧ ((0 ≤ li ∧ li < ly) ∧ 0 ≤ lj ∧ lj < ly) ∧ li ≠ lj ∧ z = (bsf (cmF (f 0) (f (4 * li + 1)) (f (4 * li + 2)) (f (4 * li + 3)) (f (4 * lj + 1)) (f (4 * lj + 2)) (f (4 * lj + 3)) (f (4 * lj + 4))) (f 0).toNat).1)) ∧ jkM κ ad g' ly t9 tx s0 s1 rm (mk + 1000) f X9 pa sv ∧ frM g g')) 0 0 (gFree B) := by
  refine g_met RX8 (cc := cX8_bestStart) (maxL := 9) (ret := (some .int)) (by decide) rfl rfl (Nat.le_of_ble_eq_true rfl) ?_
  intro p e s m args below meth c C hr hlk hnm G ls hl
  have hl : lv_has ls 9 [(0, .ref (ad 192)), (1, .int (iz li)), (2, .int (iz lj))] := hl
  obtain ⟨hn6, hv0, hv25, hlay, hsee⟩ := id hok
  refine g_aload_n C dX8_bestStart_0 rfl hl 0 rfl ?_
  refine g_iconst (a := 0) C dX8_bestStart_1 rfl ?_
  refine g_put C G (pos := 192) (fs' := [.ref (ad 193), .int (iz ly), .int (iz 0), .ref (ad 194), .int (iz mk), .ref (ad 195), .int (iz tx), .ref (ad 196), .int (iz rl), .int (iz a0), .int (iz wr), .int (iz s0), .int (iz s1), .ref (ad 197), .int (iz rm), .ref (ad 198), .ref (ad 199)]) fwX8_bestStart_31 (by omega) hM (Nat.le_of_ble_eq_true rfl) rfl rfl rfl dX8_bestStart_2 (fun H locs G => ?_)
  obtain ⟨g_1, hg_2⟩ : ∃ g9, g9 = va_up g 192 (.inr (8, [.ref (ad 193), .int (iz ly), .int (iz 0), .ref (ad 194), .int (iz mk), .ref (ad 195), .int (iz tx), .ref (ad 196), .int (iz rl), .int (iz a0), .int (iz wr), .int (iz s0), .int (iz s1), .ref (ad 197), .int (iz rm), .ref (ad 198), .ref (ad 199)])) := ⟨_, rfl⟩
  rw [← hg_2] at G
  have hc_3 : g_1 192 = .inr (8, [.ref (ad 193), .int (iz ly), .int (iz 0), .ref (ad 194), .int (iz mk), .ref (ad 195), .int (iz tx), .ref (ad 196), .int (iz rl), .int (iz a0), .int (iz wr), .int (iz s0), .int (iz s1), .ref (ad 197), .int (iz rm), .ref (ad 198), .ref (ad 199)]) := by rw [hg_2]; exact gu_self _ _ _
  have hc_4 : g_1 193 = aI κ 42 f := by rw [hg_2, gu_ne (by decide)]; exact hN
  have hc_5 : g_1 194 = aI κ 28896 M9 := by rw [hg_2, gu_ne (by decide)]; exact hK
  have hc_6 : g_1 195 = aI κ 100 X9 := by rw [hg_2, gu_ne (by decide)]; exact hT
  have hc_7 : g_1 196 = aI κ 42 q9 := by rw [hg_2, gu_ne (by decide)]; exact hRd
  have hc_8 : g_1 197 = aI κ 602 pa := by rw [hg_2, gu_ne (by decide)]; exact hPa
  have hc_9 : g_1 198 = aI κ 43 be := by rw [hg_2, gu_ne (by decide)]; exact hBe
  have hc_10 : g_1 199 = aI κ 86 sv := by rw [hg_2, gu_ne (by decide)]; exact hSv
  refine g_aload_n C dX8_bestStart_5 rfl hl 0 rfl ?_
  refine g_iload_n C dX8_bestStart_6 rfl hl 1 rfl ?_
  refine g_ci C G (g_runV (As := [.int (iz li)]) (rest := []) (pos := 192) C G (c_X8_isLayer l κ B n ad g_1 ly 0 mk tx rl a0 wr s0 s1 rm li hn8 hc_3 (by omega) (by omega)) (cwV 1 C.1.2.2.2.2 gX8_bestStart_X8_isLayer rfl rfl rfl (by decide +kernel) ⟨Nat.le_of_ble_eq_true rfl, Nat.le_of_ble_eq_true rfl⟩) (by omega) hc_3 (T := TX8) (N := 17) rfl rfl hl rfl (Nat.le_of_ble_eq_true rfl) dX8_bestStart_7 ⟨Nat.le_of_ble_eq_true rfl, Nat.le_of_ble_eq_true rfl⟩) (fun z_12 g9 H locs hw G => ?_)
  obtain ⟨hg9, hw⟩ := hw
  replace hg9 := hg9.symm
  subst hg9
  rcases hw with ⟨b_11, rfl⟩ | ⟨b_11, rfl⟩
  · refine g_if_eq (tgt := 21) C (by decide) dX8_bestStart_10 (by decide) (fun c9 => absurd c9 (by decide)) (fun _ => ?_)
    refine g_aload_n C dX8_bestStart_13 rfl hl 0 rfl ?_
    refine g_iload_n C dX8_bestStart_14 rfl hl 2 rfl ?_
    refine g_ci C G (g_runV (As := [.int (iz lj)]) (rest := []) (pos := 192) C G (c_X8_isLayer l κ B n ad g_1 ly 0 mk tx rl a0 wr s0 s1 rm lj hn8 hc_3 (by omega) (by omega)) (cwV 1 C.1.2.2.2.2 gX8_bestStart_X8_isLayer rfl rfl rfl (by decide +kernel) ⟨Nat.le_of_ble_eq_true rfl, Nat.le_of_ble_eq_true rfl⟩) (by omega) hc_3 (T := TX8) (N := 17) rfl rfl hl rfl (Nat.le_of_ble_eq_true rfl) dX8_bestStart_15 ⟨Nat.le_of_ble_eq_true rfl, Nat.le_of_ble_eq_true rfl⟩) (fun z_14 g9 H locs hw G => ?_)
    obtain ⟨hg9, hw⟩ := hw
    replace hg9 := hg9.symm
    subst hg9
    rcases hw with ⟨b_13, rfl⟩ | ⟨b_13, rfl⟩
    · refine g_if_ne (tgt := 27) C (by decide) dX8_bestStart_18 (by decide) (fun _ => ?_) (fun c9 => absurd c9 (by decide))
      refine g_iload_n C dX8_bestStart_27 rfl hl 1 rfl ?_
      refine g_iload_n C dX8_bestStart_28 rfl hl 2 rfl ?_
      refine g_icmp_ne (tgt := 38) C (by omega) (by omega) dX8_bestStart_29 (by decide) (fun c_15 => ?_) (fun c_15 => ?_)
      · refine g_iconst (a := 4) C dX8_bestStart_38 rfl ?_
        refine g_iload_n C dX8_bestStart_39 rfl hl 1 rfl ?_
        refine g_imul C dX8_bestStart_40 ?_
        refine g_iconst (a := 4) C dX8_bestStart_41 rfl ?_
        refine g_iadd C dX8_bestStart_42 ?_
        refine lv_istore_n (lv' := [(3, .int (iz ((4 * li) + 4))), (0, .ref (ad 192)), (1, .int (iz li)), (2, .int (iz lj))]) C.1.1 C.1.2.1 dX8_bestStart_43 rfl hl (by decide) rfl (fun ls hl => ?_)
        refine g_aload_n C dX8_bestStart_44 rfl hl 1 rfl ?_
        refine g_get C G (pos := 192) fX8_bestStart_7 (by omega) hc_3 rfl dX8_bestStart_45 ?_
        refine g_iload_n C dX8_bestStart_48 rfl hl 0 rfl ?_
        refine g_iaload C G (pos := 193) (by omega) hc_4 (by omega) (by omega) (by omega) dX8_bestStart_49 ?_
        refine lv_istore (lv' := [(4, .int (iz (f ((4 * li) + 4)))), (3, .int (iz ((4 * li) + 4))), (0, .ref (ad 192)), (1, .int (iz li)), (2, .int (iz lj))]) C.1.1 C.1.2.1 dX8_bestStart_50 hl (by decide) rfl (fun ls hl => ?_)
        refine g_iconst (a := 0) C dX8_bestStart_52 rfl ?_
        refine lv_istore (lv' := [(5, .int (iz 0)), (4, .int (iz (f ((4 * li) + 4)))), (3, .int (iz ((4 * li) + 4))), (0, .ref (ad 192)), (1, .int (iz li)), (2, .int (iz lj))]) C.1.1 C.1.2.1 dX8_bestStart_53 hl (by decide) rfl (fun ls hl => ?_)
        refine g_bipush (a := (-9)) C dX8_bestStart_55 (by decide) ?_
        refine lv_istore (lv' := [(6, .int (iz (-9))), (5, .int (iz 0)), (4, .int (iz (f ((4 * li) + 4)))), (3, .int (iz ((4 * li) + 4))), (0, .ref (ad 192)), (1, .int (iz li)), (2, .int (iz lj))]) C.1.1 C.1.2.1 dX8_bestStart_57 hl (by decide) rfl (fun ls hl => ?_)
        refine g_iconst (a := 0) C dX8_bestStart_59 rfl ?_
        refine lv_istore (lv' := [(7, .int (iz 0)), (6, .int (iz (-9))), (5, .int (iz 0)), (4, .int (iz (f ((4 * li) + 4)))), (3, .int (iz ((4 * li) + 4))), (0, .ref (ad 192)), (1, .int (iz li)), (2, .int (iz lj))]) C.1.1 C.1.2.1 dX8_bestStart_60 hl (by decide) rfl (fun ls hl => ?_)
        have h0c195 : g 195 = aI κ 100 X9 := hT
        have h0c196 : g 196 = aI κ 42 q9 := hRd
        have h0c197 : g 197 = aI κ 602 pa := hPa
        have h0c198 : g 198 = aI κ 43 be := hBe
        have h0c199 : g 199 = aI κ 86 sv := hSv
        have lp_62_n_17 : ∀ (k_16 : Nat) (k : Int) (bx : Int) (mo : Int) (m9 : Int) (V : Int → Int) (F9 : Int → Int) (gv : Nat → va_E), (f 0 - k).toNat < k_16 → (0 ≤ k ∧ k ≤ f 0) → ((-9 ≤ mo ∧ mo ≤ 38528) ∧ 0 ≤ bx ∧ bx ≤ 96) → (bsf (cmF (f 0) (f (4 * li + 1)) (f (4 * li + 2)) (f (4 * li + 3)) (f (4 * lj + 1)) (f (4 * lj + 2)) (f (4 * lj + 3)) (f (4 * lj + 4))) k.toNat = (bx, mo)) → (mk ≤ m9 ∧ m9 ≤ mk + 2 * k) → (gv 192 = oM ad ly 0 m9 tx rl a0 wr s0 s1 rm) → (gv 193 = aI κ 42 F9) → (gv 194 = aI κ 28896 V) → (∀ q, q ≠ 192 → q ≠ 193 → q ≠ 194 → gv q = g q) → (∀ i, 0 ≤ i → i < 28896 → 0 ≤ V i ∧ V i ≤ m9) → (∀ i, i ≠ 4 * li + 4 → F9 i = f i) → ∀ (H : Heap) (locs : List Loc), gG κ B n ad s gv H locs → ∀ (ls : Array Slot), lv_has ls 9 [(0, .ref (ad 192)), (1, .int (iz li)), (2, .int (iz lj)), (3, .int (iz ((4 * li) + 4))), (4, .int (iz (f ((4 * li) + 4)))), (5, .int (iz bx)), (6, .int (iz mo)), (7, .int (iz k))] → W p l e ({ frames := 6, cells := 0, slots := 0, locals := 143 }) s m args below meth c H locs 0 0 (MQ below (gQi κ B n ad (fun z g' => ∃ t9, ((t9 = 1 ∧ ¬ ((0 ≤ li ∧ li < ly) ∧ 0 ≤ lj ∧ lj < ly)) ∨ (t9 = 2 ∧ ((0 ≤ li ∧ li < ly) ∧ 0 ≤ lj ∧ lj < ly) ∧ li = lj) ∨ (t9 = 0 ∧ ((0 ≤ li ∧ li < ly) ∧ 0 ≤ lj ∧ lj < ly) ∧ li ≠ lj ∧ z = (bsf (cmF (f 0) (f (4 * li + 1)) (f (4 * li + 2)) (f (4 * li + 3)) (f (4 * lj + 1)) (f (4 * lj + 2)) (f (4 * lj + 3)) (f (4 * lj + 4))) (f 0).toNat).1)) ∧ jkM κ ad g' ly t9 tx s0 s1 rm (mk + 1000) f X9 pa sv ∧ frM g g')) args s 0 0 (gFree B)) (F0 m 62 ls []) := by
          intro k_16
          induction k_16 with
          | zero => intro k bx mo m9 V F9 gv hm; exact absurd hm (Nat.not_lt_zero _)
          | succ k_16 ih_lp_62_n_17 =>
            intro k bx mo m9 V F9 gv hm hk hbr hbs hmb hm9 hn9 hk9 hfr hVr hF H locs G ls hl
            refine g_iload C dX8_bestStart_62 hl 7 rfl ?_
            refine g_aload_n C dX8_bestStart_64 rfl hl 0 rfl ?_
            refine g_get C G (pos := 192) fX8_bestStart_7 (by omega) hm9 rfl dX8_bestStart_65 ?_
            refine g_iconst (a := 0) C dX8_bestStart_68 rfl ?_
            refine g_iaload C G (pos := 193) (by omega) hn9 (by omega) (by omega) (by omega) dX8_bestStart_69 ?_
            rw [show (F9 0 : Int) = f 0 from (hF 0 (by omega))]
            refine g_icmp_ge (tgt := 127) C (by omega) (by omega) dX8_bestStart_70 (by decide) (fun c_18 => ?_) (fun c_18 => ?_)
            · refine g_aload_n C dX8_bestStart_127 rfl hl 0 rfl ?_
              refine g_get C G (pos := 192) fX8_bestStart_7 (by omega) hm9 rfl dX8_bestStart_128 ?_
              refine g_iload_n C dX8_bestStart_131 rfl hl 3 rfl ?_
              refine g_iload C dX8_bestStart_132 hl 4 rfl ?_
              refine g_iastore C G (pos := 193) (by omega) hn9 (by omega) (by omega) (by omega) dX8_bestStart_134 (fun H locs G => ?_)
              obtain ⟨g_19, hg_20⟩ : ∃ g9, g9 = va_up gv 193 (aI κ 42 (vu F9 ((4 * li) + 4) (f ((4 * li) + 4)))) := ⟨_, rfl⟩
              rw [← hg_20] at G
              have hc_21 : g_19 192 = .inr (8, [.ref (ad 193), .int (iz ly), .int (iz 0), .ref (ad 194), .int (iz m9), .ref (ad 195), .int (iz tx), .ref (ad 196), .int (iz rl), .int (iz a0), .int (iz wr), .int (iz s0), .int (iz s1), .ref (ad 197), .int (iz rm), .ref (ad 198), .ref (ad 199)]) := by rw [hg_20, gu_ne (by decide)]; exact hm9
              have hc_22 : g_19 193 = aI κ 42 (vu F9 ((4 * li) + 4) (f ((4 * li) + 4))) := by rw [hg_20]; exact gu_self _ _ _
              have hc_23 : g_19 194 = aI κ 28896 V := by rw [hg_20, gu_ne (by decide)]; exact hk9
              have hc_24 : g_19 195 = aI κ 100 X9 := by rw [hg_20, gu_ne (by decide)]; exact ((hfr 195 (by decide) (by decide) (by decide)).trans h0c195)
              have hc_25 : g_19 196 = aI κ 42 q9 := by rw [hg_20, gu_ne (by decide)]; exact ((hfr 196 (by decide) (by decide) (by decide)).trans h0c196)
              have hc_26 : g_19 197 = aI κ 602 pa := by rw [hg_20, gu_ne (by decide)]; exact ((hfr 197 (by decide) (by decide) (by decide)).trans h0c197)
              have hc_27 : g_19 198 = aI κ 43 be := by rw [hg_20, gu_ne (by decide)]; exact ((hfr 198 (by decide) (by decide) (by decide)).trans h0c198)
              have hc_28 : g_19 199 = aI κ 86 sv := by rw [hg_20, gu_ne (by decide)]; exact ((hfr 199 (by decide) (by decide) (by decide)).trans h0c199)
              refine g_iload C dX8_bestStart_135 hl 5 rfl ?_
              refine g_iret C G hr hlk (Nat.le_of_ble_eq_true rfl) (Nat.le_of_ble_eq_true rfl) dX8_bestStart_137 ?_
              have hc_29 : g_19 193 = aI κ 42 f := hc_22.trans (congrArg (fun q => aI κ 42 q) (tb_was hF))
              rw [show k = f 0 by omega] at hbs
              exact ⟨0, Or.inr (Or.inr ⟨rfl, by omega, by omega, (congrArg Prod.fst hbs).symm⟩), ⟨_, _, _, _, _, _, _, hc_21, hc_29, hc_23, hc_24, hc_25, hc_26, hc_27, hc_28, by omega, hVr, hinq⟩, fun q hq => (((congrFun hg_20 q).trans (gu_ne (by omega))).trans (hfr q (by omega) (by omega) (by omega)))⟩
            · refine g_aload_n C dX8_bestStart_73 rfl hl 0 rfl ?_
              refine g_get C G (pos := 192) fX8_bestStart_7 (by omega) hm9 rfl dX8_bestStart_74 ?_
              refine g_iload_n C dX8_bestStart_77 rfl hl 3 rfl ?_
              refine g_iload C dX8_bestStart_78 hl 7 rfl ?_
              refine g_iastore C G (pos := 193) (by omega) hn9 (by omega) (by omega) (by omega) dX8_bestStart_80 (fun H locs G => ?_)
              obtain ⟨g_30, hg_31⟩ : ∃ g9, g9 = va_up gv 193 (aI κ 42 (vu F9 ((4 * li) + 4) k)) := ⟨_, rfl⟩
              rw [← hg_31] at G
              have hc_32 : g_30 192 = .inr (8, [.ref (ad 193), .int (iz ly), .int (iz 0), .ref (ad 194), .int (iz m9), .ref (ad 195), .int (iz tx), .ref (ad 196), .int (iz rl), .int (iz a0), .int (iz wr), .int (iz s0), .int (iz s1), .ref (ad 197), .int (iz rm), .ref (ad 198), .ref (ad 199)]) := by rw [hg_31, gu_ne (by decide)]; exact hm9
              have hc_33 : g_30 193 = aI κ 42 (vu F9 ((4 * li) + 4) k) := by rw [hg_31]; exact gu_self _ _ _
              have hc_34 : g_30 194 = aI κ 28896 V := by rw [hg_31, gu_ne (by decide)]; exact hk9
              have hc_35 : g_30 195 = aI κ 100 X9 := by rw [hg_31, gu_ne (by decide)]; exact ((hfr 195 (by decide) (by decide) (by decide)).trans h0c195)
              have hc_36 : g_30 196 = aI κ 42 q9 := by rw [hg_31, gu_ne (by decide)]; exact ((hfr 196 (by decide) (by decide) (by decide)).trans h0c196)
              have hc_37 : g_30 197 = aI κ 602 pa := by rw [hg_31, gu_ne (by decide)]; exact ((hfr 197 (by decide) (by decide) (by decide)).trans h0c197)
              have hc_38 : g_30 198 = aI κ 43 be := by rw [hg_31, gu_ne (by decide)]; exact ((hfr 198 (by decide) (by decide) (by decide)).trans h0c198)
              have hc_39 : g_30 199 = aI κ 86 sv := by rw [hg_31, gu_ne (by decide)]; exact ((hfr 199 (by decide) (by decide) (by decide)).trans h0c199)
              have hc_40 : g_30 193 = aI κ 42 (vu f (4 * li + 4) k) := hc_33.trans (congrArg (fun q => aI κ 42 q) (tb_vu hF))
              have hok2 := okPl.st (x := k) hok (l := li) (by omega) (by omega)
              refine g_aload_n C dX8_bestStart_81 rfl hl 0 rfl ?_
              refine g_iload_n C dX8_bestStart_82 rfl hl 1 rfl ?_
              refine g_iload_n C dX8_bestStart_83 rfl hl 2 rfl ?_
              refine g_ci C G (g_runV (As := [.int (iz li), .int (iz lj)]) (rest := []) (pos := 192) C G (c_X8_inBoth l κ B n ad g_30 ly 0 m9 tx rl a0 wr s0 s1 rm (vu f (4 * li + 4) k) V li lj hn8 hc_32 hc_40 hc_34 hok2 (by omega) (by omega) (by omega) hVr) (cwV 2 C.1.2.2.2.2 gX8_bestStart_X8_inBoth rfl rfl rfl (by decide +kernel) ⟨Nat.le_of_ble_eq_true rfl, Nat.le_of_ble_eq_true rfl⟩) (by omega) hc_32 (T := TX8) (N := 17) rfl rfl hl rfl (Nat.le_of_ble_eq_true rfl) dX8_bestStart_84 ⟨Nat.le_of_ble_eq_true rfl, Nat.le_of_ble_eq_true rfl⟩) (fun z_43 g_46 H locs hw9 G => ?_)
              obtain ⟨V_41, hgs_45, hS_42, h_44⟩ := hw9
              have hc_47 : g_46 192 = .inr (8, [.ref (ad 193), .int (iz ly), .int (iz 0), .ref (ad 194), .int (iz (m9 + 1 + 1)), .ref (ad 195), .int (iz tx), .ref (ad 196), .int (iz rl), .int (iz a0), .int (iz wr), .int (iz s0), .int (iz s1), .ref (ad 197), .int (iz rm), .ref (ad 198), .ref (ad 199)]) := by rw [hgs_45, gu_ne (by decide)]; exact gu_self _ _ _
              have hc_48 : g_46 193 = aI κ 42 (vu f (4 * li + 4) k) := by rw [hgs_45, gu_ne (by decide), gu_ne (by decide)]; exact hc_40
              have hc_49 : g_46 194 = aI κ 28896 V_41 := by rw [hgs_45]; exact gu_self _ _ _
              have hc_50 : g_46 195 = aI κ 100 X9 := by rw [hgs_45, gu_ne (by decide), gu_ne (by decide)]; exact hc_35
              have hc_51 : g_46 196 = aI κ 42 q9 := by rw [hgs_45, gu_ne (by decide), gu_ne (by decide)]; exact hc_36
              have hc_52 : g_46 197 = aI κ 602 pa := by rw [hgs_45, gu_ne (by decide), gu_ne (by decide)]; exact hc_37
              have hc_53 : g_46 198 = aI κ 43 be := by rw [hgs_45, gu_ne (by decide), gu_ne (by decide)]; exact hc_38
              have hc_54 : g_46 199 = aI κ 86 sv := by rw [hgs_45, gu_ne (by decide), gu_ne (by decide)]; exact hc_39
              have hz9 : z_43 = cmF (f 0) (f (4 * li + 1)) (f (4 * li + 2)) (f (4 * li + 3)) (f (4 * lj + 1)) (f (4 * lj + 2)) (f (4 * lj + 3)) (f (4 * lj + 4)) k := by rw [h_44.1]; exact congrArg (fun q : Nat => (q : Int)) (bs_cm (by omega) (by omega) (by omega))
              refine lv_istore (lv' := [(8, .int (iz z_43)), (0, .ref (ad 192)), (1, .int (iz li)), (2, .int (iz lj)), (3, .int (iz ((4 * li) + 4))), (4, .int (iz (f ((4 * li) + 4)))), (5, .int (iz bx)), (6, .int (iz mo)), (7, .int (iz k))]) C.1.1 C.1.2.1 dX8_bestStart_87 hl (by decide) rfl (fun ls hl => ?_)
              refine g_iload C dX8_bestStart_89 hl 0 rfl ?_
              refine g_iload C dX8_bestStart_91 hl 7 rfl ?_
              refine g_icmp_le (tgt := 101) C (by omega) (by omega) dX8_bestStart_93 (by decide) (fun c_55 => ?_) (fun c_55 => ?_)
              · refine g_iload C dX8_bestStart_101 hl 6 rfl ?_
                refine lv_istore (lv' := [(5, .int (iz bx)), (8, .int (iz z_43)), (0, .ref (ad 192)), (1, .int (iz li)), (2, .int (iz lj)), (3, .int (iz ((4 * li) + 4))), (4, .int (iz (f ((4 * li) + 4)))), (6, .int (iz mo)), (7, .int (iz k))]) C.1.1 C.1.2.1 dX8_bestStart_103 hl (by decide) rfl (fun ls hl => ?_)
                refine g_iload C dX8_bestStart_105 hl 1 rfl ?_
                refine g_iload C dX8_bestStart_107 hl 7 rfl ?_
                refine g_icmp_le (tgt := 117) C (by omega) (by omega) dX8_bestStart_109 (by decide) (fun c_56 => ?_) (fun c_56 => ?_)
                · refine g_iload C dX8_bestStart_117 hl 7 rfl ?_
                  refine lv_istore (lv' := [(6, .int (iz mo)), (5, .int (iz bx)), (8, .int (iz z_43)), (0, .ref (ad 192)), (1, .int (iz li)), (2, .int (iz lj)), (3, .int (iz ((4 * li) + 4))), (4, .int (iz (f ((4 * li) + 4)))), (7, .int (iz k))]) C.1.1 C.1.2.1 dX8_bestStart_119 hl (by decide) rfl (fun ls hl => ?_)
                  refine lv_iinc (v := iz (k + 1)) (lv' := [(7, .int (iz (k + 1))), (6, .int (iz mo)), (5, .int (iz bx)), (8, .int (iz z_43)), (0, .ref (ad 192)), (1, .int (iz li)), (2, .int (iz lj)), (3, .int (iz ((4 * li) + 4))), (4, .int (iz (f ((4 * li) + 4))))]) C.1.1 C.1.2.1 dX8_bestStart_121 hl (k := 8) rfl (g_inc (by omega)) (by decide) rfl (fun ls hl => ?_)
                  refine g_goto (tgt := 62) C dX8_bestStart_124 (by decide) ?_
                  exact ih_lp_62_n_17 (k + 1) bx mo (m9 + 1 + 1) V_41 (vu f (4 * li + 4) k) g_46 (by omega) (by omega) (by omega) (by rw [bsf_step _ hk.1, hbs, ← hz9]; first | exact if_pos (show mo < z_43 by omega) | exact if_neg (show ¬ mo < z_43 by omega) | (exfalso; omega)) (by omega) hc_47 hc_48 hc_49 (fun q q1 q2 q3 => (((congrFun hgs_45 q).trans ((gu_ne (by omega)).trans (gu_ne (by omega)))).trans (((congrFun hg_31 q).trans (gu_ne (by omega))).trans (hfr q (by omega) (by omega) (by omega))))) hS_42.1 (fun i hi => vu_ne hi) _ _ G _ (lv_sub hl [4, 5, 6, 7, 8, 2, 1, 0] rfl)
                · refine g_iload C dX8_bestStart_112 hl 1 rfl ?_
                  refine g_goto (tgt := 119) C dX8_bestStart_114 (by decide) ?_
                  refine lv_istore (lv' := [(6, .int (iz z_43)), (5, .int (iz bx)), (8, .int (iz z_43)), (0, .ref (ad 192)), (1, .int (iz li)), (2, .int (iz lj)), (3, .int (iz ((4 * li) + 4))), (4, .int (iz (f ((4 * li) + 4)))), (7, .int (iz k))]) C.1.1 C.1.2.1 dX8_bestStart_119 hl (by decide) rfl (fun ls hl => ?_)
                  refine lv_iinc (v := iz (k + 1)) (lv' := [(7, .int (iz (k + 1))), (6, .int (iz z_43)), (5, .int (iz bx)), (8, .int (iz z_43)), (0, .ref (ad 192)), (1, .int (iz li)), (2, .int (iz lj)), (3, .int (iz ((4 * li) + 4))), (4, .int (iz (f ((4 * li) + 4))))]) C.1.1 C.1.2.1 dX8_bestStart_121 hl (k := 8) rfl (g_inc (by omega)) (by decide) rfl (fun ls hl => ?_)
                  refine g_goto (tgt := 62) C dX8_bestStart_124 (by decide) ?_
                  exact ih_lp_62_n_17 (k + 1) bx z_43 (m9 + 1 + 1) V_41 (vu f (4 * li + 4) k) g_46 (by omega) (by omega) (by omega) (by rw [bsf_step _ hk.1, hbs, ← hz9]; first | exact if_pos (show mo < z_43 by omega) | exact if_neg (show ¬ mo < z_43 by omega) | (exfalso; omega)) (by omega) hc_47 hc_48 hc_49 (fun q q1 q2 q3 => (((congrFun hgs_45 q).trans ((gu_ne (by omega)).trans (gu_ne (by omega)))).trans (((congrFun hg_31 q).trans (gu_ne (by omega))).trans (hfr q (by omega) (by omega) (by omega))))) hS_42.1 (fun i hi => vu_ne hi) _ _ G _ (lv_sub hl [4, 5, 6, 7, 8, 2, 1, 0] rfl)
              · refine g_iload C dX8_bestStart_96 hl 8 rfl ?_
                refine g_goto (tgt := 103) C dX8_bestStart_98 (by decide) ?_
                refine lv_istore (lv' := [(5, .int (iz k)), (8, .int (iz z_43)), (0, .ref (ad 192)), (1, .int (iz li)), (2, .int (iz lj)), (3, .int (iz ((4 * li) + 4))), (4, .int (iz (f ((4 * li) + 4)))), (6, .int (iz mo)), (7, .int (iz k))]) C.1.1 C.1.2.1 dX8_bestStart_103 hl (by decide) rfl (fun ls hl => ?_)
                refine g_iload C dX8_bestStart_105 hl 1 rfl ?_
                refine g_iload C dX8_bestStart_107 hl 7 rfl ?_
                refine g_icmp_le (tgt := 117) C (by omega) (by omega) dX8_bestStart_109 (by decide) (fun c_57 => ?_) (fun c_57 => ?_)
                · refine g_iload C dX8_bestStart_117 hl 7 rfl ?_
                  refine lv_istore (lv' := [(6, .int (iz mo)), (5, .int (iz k)), (8, .int (iz z_43)), (0, .ref (ad 192)), (1, .int (iz li)), (2, .int (iz lj)), (3, .int (iz ((4 * li) + 4))), (4, .int (iz (f ((4 * li) + 4)))), (7, .int (iz k))]) C.1.1 C.1.2.1 dX8_bestStart_119 hl (by decide) rfl (fun ls hl => ?_)
                  refine lv_iinc (v := iz (k + 1)) (lv' := [(7, .int (iz (k + 1))), (6, .int (iz mo)), (5, .int (iz k)), (8, .int (iz z_43)), (0, .ref (ad 192)), (1, .int (iz li)), (2, .int (iz lj)), (3, .int (iz ((4 * li) + 4))), (4, .int (iz (f ((4 * li) + 4))))]) C.1.1 C.1.2.1 dX8_bestStart_121 hl (k := 8) rfl (g_inc (by omega)) (by decide) rfl (fun ls hl => ?_)
                  refine g_goto (tgt := 62) C dX8_bestStart_124 (by decide) ?_
                  exact ih_lp_62_n_17 (k + 1) k mo (m9 + 1 + 1) V_41 (vu f (4 * li + 4) k) g_46 (by omega) (by omega) (by omega) (by rw [bsf_step _ hk.1, hbs, ← hz9]; first | exact if_pos (show mo < z_43 by omega) | exact if_neg (show ¬ mo < z_43 by omega) | (exfalso; omega)) (by omega) hc_47 hc_48 hc_49 (fun q q1 q2 q3 => (((congrFun hgs_45 q).trans ((gu_ne (by omega)).trans (gu_ne (by omega)))).trans (((congrFun hg_31 q).trans (gu_ne (by omega))).trans (hfr q (by omega) (by omega) (by omega))))) hS_42.1 (fun i hi => vu_ne hi) _ _ G _ (lv_sub hl [4, 5, 6, 7, 8, 2, 1, 0] rfl)
                · refine g_iload C dX8_bestStart_112 hl 1 rfl ?_
                  refine g_goto (tgt := 119) C dX8_bestStart_114 (by decide) ?_
                  refine lv_istore (lv' := [(6, .int (iz z_43)), (5, .int (iz k)), (8, .int (iz z_43)), (0, .ref (ad 192)), (1, .int (iz li)), (2, .int (iz lj)), (3, .int (iz ((4 * li) + 4))), (4, .int (iz (f ((4 * li) + 4)))), (7, .int (iz k))]) C.1.1 C.1.2.1 dX8_bestStart_119 hl (by decide) rfl (fun ls hl => ?_)
                  refine lv_iinc (v := iz (k + 1)) (lv' := [(7, .int (iz (k + 1))), (6, .int (iz z_43)), (5, .int (iz k)), (8, .int (iz z_43)), (0, .ref (ad 192)), (1, .int (iz li)), (2, .int (iz lj)), (3, .int (iz ((4 * li) + 4))), (4, .int (iz (f ((4 * li) + 4))))]) C.1.1 C.1.2.1 dX8_bestStart_121 hl (k := 8) rfl (g_inc (by omega)) (by decide) rfl (fun ls hl => ?_)
                  refine g_goto (tgt := 62) C dX8_bestStart_124 (by decide) ?_
                  exact ih_lp_62_n_17 (k + 1) k z_43 (m9 + 1 + 1) V_41 (vu f (4 * li + 4) k) g_46 (by omega) (by omega) (by omega) (by rw [bsf_step _ hk.1, hbs, ← hz9]; first | exact if_pos (show mo < z_43 by omega) | exact if_neg (show ¬ mo < z_43 by omega) | (exfalso; omega)) (by omega) hc_47 hc_48 hc_49 (fun q q1 q2 q3 => (((congrFun hgs_45 q).trans ((gu_ne (by omega)).trans (gu_ne (by omega)))).trans (((congrFun hg_31 q).trans (gu_ne (by omega))).trans (hfr q (by omega) (by omega) (by omega))))) hS_42.1 (fun i hi => vu_ne hi) _ _ G _ (lv_sub hl [4, 5, 6, 7, 8, 2, 1, 0] rfl)
        exact lp_62_n_17 _ 0 0 (-9) mk M9 f g_1 (Nat.lt_succ_self _) (by omega) (by omega) rfl (by omega) hc_3 hc_4 hc_5 (fun q q1 q2 q3 => ((congrFun hg_2 q).trans (gu_ne (by omega)))) hMr (fun i _ => rfl) _ _ G _ (lv_sub hl [5, 6, 7, 4, 3, 2, 1, 0] rfl)
      · refine g_aload_n C dX8_bestStart_32 rfl hl 0 rfl ?_
        refine g_iconst (a := 2) C dX8_bestStart_33 rfl ?_
        refine g_ci C G (g_runV (As := [.int (iz 2)]) (rest := []) (pos := 192) C G (c_X8_refused l κ B n ad g_1 ly 0 mk tx rl a0 wr s0 s1 rm 2 hn8 hc_3) (cwV 1 C.1.2.2.2.2 gX8_bestStart_X8_refused rfl rfl rfl (by decide +kernel) ⟨Nat.le_of_ble_eq_true rfl, Nat.le_of_ble_eq_true rfl⟩) (by omega) hc_3 (T := TX8) (N := 17) rfl rfl hl rfl (Nat.le_of_ble_eq_true rfl) dX8_bestStart_34 ⟨Nat.le_of_ble_eq_true rfl, Nat.le_of_ble_eq_true rfl⟩) (fun z_58 g9 H locs hw G => ?_)
        obtain ⟨hw, h_59⟩ := hw
        subst hw
        obtain ⟨g_60, hg_61⟩ : ∃ g9, g9 = va_up g_1 192 (.inr (8, [.ref (ad 193), .int (iz ly), .int (iz 2), .ref (ad 194), .int (iz mk), .ref (ad 195), .int (iz tx), .ref (ad 196), .int (iz rl), .int (iz a0), .int (iz wr), .int (iz s0), .int (iz s1), .ref (ad 197), .int (iz rm), .ref (ad 198), .ref (ad 199)])) := ⟨_, rfl⟩
        rw [← hg_61] at G
        have hc_62 : g_60 192 = .inr (8, [.ref (ad 193), .int (iz ly), .int (iz 2), .ref (ad 194), .int (iz mk), .ref (ad 195), .int (iz tx), .ref (ad 196), .int (iz rl), .int (iz a0), .int (iz wr), .int (iz s0), .int (iz s1), .ref (ad 197), .int (iz rm), .ref (ad 198), .ref (ad 199)]) := by rw [hg_61]; exact gu_self _ _ _
        have hc_63 : g_60 193 = aI κ 42 f := by rw [hg_61, gu_ne (by decide)]; exact hc_4
        have hc_64 : g_60 194 = aI κ 28896 M9 := by rw [hg_61, gu_ne (by decide)]; exact hc_5
        have hc_65 : g_60 195 = aI κ 100 X9 := by rw [hg_61, gu_ne (by decide)]; exact hc_6
        have hc_66 : g_60 196 = aI κ 42 q9 := by rw [hg_61, gu_ne (by decide)]; exact hc_7
        have hc_67 : g_60 197 = aI κ 602 pa := by rw [hg_61, gu_ne (by decide)]; exact hc_8
        have hc_68 : g_60 198 = aI κ 43 be := by rw [hg_61, gu_ne (by decide)]; exact hc_9
        have hc_69 : g_60 199 = aI κ 86 sv := by rw [hg_61, gu_ne (by decide)]; exact hc_10
        refine g_iret C G hr hlk (Nat.le_of_ble_eq_true rfl) (Nat.le_of_ble_eq_true rfl) dX8_bestStart_37 ?_
        exact ⟨2, Or.inr (Or.inl ⟨rfl, by omega, by omega⟩), ⟨_, _, _, _, _, _, _, hc_62, hc_63, hc_64, hc_65, hc_66, hc_67, hc_68, hc_69, by omega, hMr, hinq⟩, fun q hq => (((congrFun hg_61 q).trans (gu_ne (by omega))).trans ((congrFun hg_2 q).trans (gu_ne (by omega))))⟩
    · refine g_if_ne (tgt := 27) C (by decide) dX8_bestStart_18 (by decide) (fun c9 => absurd c9 (by decide)) (fun _ => ?_)
      refine g_aload_n C dX8_bestStart_21 rfl hl 0 rfl ?_
      refine g_iconst (a := 1) C dX8_bestStart_22 rfl ?_
      refine g_ci C G (g_runV (As := [.int (iz 1)]) (rest := []) (pos := 192) C G (c_X8_refused l κ B n ad g_1 ly 0 mk tx rl a0 wr s0 s1 rm 1 hn8 hc_3) (cwV 1 C.1.2.2.2.2 gX8_bestStart_X8_refused rfl rfl rfl (by decide +kernel) ⟨Nat.le_of_ble_eq_true rfl, Nat.le_of_ble_eq_true rfl⟩) (by omega) hc_3 (T := TX8) (N := 17) rfl rfl hl rfl (Nat.le_of_ble_eq_true rfl) dX8_bestStart_23 ⟨Nat.le_of_ble_eq_true rfl, Nat.le_of_ble_eq_true rfl⟩) (fun z_70 g9 H locs hw G => ?_)
      obtain ⟨hw, h_71⟩ := hw
      subst hw
      obtain ⟨g_72, hg_73⟩ : ∃ g9, g9 = va_up g_1 192 (.inr (8, [.ref (ad 193), .int (iz ly), .int (iz 1), .ref (ad 194), .int (iz mk), .ref (ad 195), .int (iz tx), .ref (ad 196), .int (iz rl), .int (iz a0), .int (iz wr), .int (iz s0), .int (iz s1), .ref (ad 197), .int (iz rm), .ref (ad 198), .ref (ad 199)])) := ⟨_, rfl⟩
      rw [← hg_73] at G
      have hc_74 : g_72 192 = .inr (8, [.ref (ad 193), .int (iz ly), .int (iz 1), .ref (ad 194), .int (iz mk), .ref (ad 195), .int (iz tx), .ref (ad 196), .int (iz rl), .int (iz a0), .int (iz wr), .int (iz s0), .int (iz s1), .ref (ad 197), .int (iz rm), .ref (ad 198), .ref (ad 199)]) := by rw [hg_73]; exact gu_self _ _ _
      have hc_75 : g_72 193 = aI κ 42 f := by rw [hg_73, gu_ne (by decide)]; exact hc_4
      have hc_76 : g_72 194 = aI κ 28896 M9 := by rw [hg_73, gu_ne (by decide)]; exact hc_5
      have hc_77 : g_72 195 = aI κ 100 X9 := by rw [hg_73, gu_ne (by decide)]; exact hc_6
      have hc_78 : g_72 196 = aI κ 42 q9 := by rw [hg_73, gu_ne (by decide)]; exact hc_7
      have hc_79 : g_72 197 = aI κ 602 pa := by rw [hg_73, gu_ne (by decide)]; exact hc_8
      have hc_80 : g_72 198 = aI κ 43 be := by rw [hg_73, gu_ne (by decide)]; exact hc_9
      have hc_81 : g_72 199 = aI κ 86 sv := by rw [hg_73, gu_ne (by decide)]; exact hc_10
      refine g_iret C G hr hlk (Nat.le_of_ble_eq_true rfl) (Nat.le_of_ble_eq_true rfl) dX8_bestStart_26 ?_
      exact ⟨1, Or.inl ⟨rfl, by omega⟩, ⟨_, _, _, _, _, _, _, hc_74, hc_75, hc_76, hc_77, hc_78, hc_79, hc_80, hc_81, by omega, hMr, hinq⟩, fun q hq => (((congrFun hg_73 q).trans (gu_ne (by omega))).trans ((congrFun hg_2 q).trans (gu_ne (by omega))))⟩
  · refine g_if_eq (tgt := 21) C (by decide) dX8_bestStart_10 (by decide) (fun _ => ?_) (fun c9 => absurd c9 (by decide))
    refine g_aload_n C dX8_bestStart_21 rfl hl 0 rfl ?_
    refine g_iconst (a := 1) C dX8_bestStart_22 rfl ?_
    refine g_ci C G (g_runV (As := [.int (iz 1)]) (rest := []) (pos := 192) C G (c_X8_refused l κ B n ad g_1 ly 0 mk tx rl a0 wr s0 s1 rm 1 hn8 hc_3) (cwV 1 C.1.2.2.2.2 gX8_bestStart_X8_refused rfl rfl rfl (by decide +kernel) ⟨Nat.le_of_ble_eq_true rfl, Nat.le_of_ble_eq_true rfl⟩) (by omega) hc_3 (T := TX8) (N := 17) rfl rfl hl rfl (Nat.le_of_ble_eq_true rfl) dX8_bestStart_23 ⟨Nat.le_of_ble_eq_true rfl, Nat.le_of_ble_eq_true rfl⟩) (fun z_82 g9 H locs hw G => ?_)
    obtain ⟨hw, h_83⟩ := hw
    subst hw
    obtain ⟨g_84, hg_85⟩ : ∃ g9, g9 = va_up g_1 192 (.inr (8, [.ref (ad 193), .int (iz ly), .int (iz 1), .ref (ad 194), .int (iz mk), .ref (ad 195), .int (iz tx), .ref (ad 196), .int (iz rl), .int (iz a0), .int (iz wr), .int (iz s0), .int (iz s1), .ref (ad 197), .int (iz rm), .ref (ad 198), .ref (ad 199)])) := ⟨_, rfl⟩
    rw [← hg_85] at G
    have hc_86 : g_84 192 = .inr (8, [.ref (ad 193), .int (iz ly), .int (iz 1), .ref (ad 194), .int (iz mk), .ref (ad 195), .int (iz tx), .ref (ad 196), .int (iz rl), .int (iz a0), .int (iz wr), .int (iz s0), .int (iz s1), .ref (ad 197), .int (iz rm), .ref (ad 198), .ref (ad 199)]) := by rw [hg_85]; exact gu_self _ _ _
    have hc_87 : g_84 193 = aI κ 42 f := by rw [hg_85, gu_ne (by decide)]; exact hc_4
    have hc_88 : g_84 194 = aI κ 28896 M9 := by rw [hg_85, gu_ne (by decide)]; exact hc_5
    have hc_89 : g_84 195 = aI κ 100 X9 := by rw [hg_85, gu_ne (by decide)]; exact hc_6
    have hc_90 : g_84 196 = aI κ 42 q9 := by rw [hg_85, gu_ne (by decide)]; exact hc_7
    have hc_91 : g_84 197 = aI κ 602 pa := by rw [hg_85, gu_ne (by decide)]; exact hc_8
    have hc_92 : g_84 198 = aI κ 43 be := by rw [hg_85, gu_ne (by decide)]; exact hc_9
    have hc_93 : g_84 199 = aI κ 86 sv := by rw [hg_85, gu_ne (by decide)]; exact hc_10
    refine g_iret C G hr hlk (Nat.le_of_ble_eq_true rfl) (Nat.le_of_ble_eq_true rfl) dX8_bestStart_26 ?_
    exact ⟨1, Or.inl ⟨rfl, by omega⟩, ⟨_, _, _, _, _, _, _, hc_86, hc_87, hc_88, hc_89, hc_90, hc_91, hc_92, hc_93, by omega, hMr, hinq⟩, fun q hq => (((congrFun hg_85 q).trans (gu_ne (by omega))).trans ((congrFun hg_2 q).trans (gu_ne (by omega))))⟩
