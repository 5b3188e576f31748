/-! ROSETTEPLATEMODEL (X8): marks -/
section MK
variable {f M9 V : Int → Int} {li t mk a9 r9 z : Int}
theorem mk_new {x y : Int} (ht : 0 ≤ t) (ea : a9 = (f (4 * li + 4) + t) % f 0) (er : r9 = rad (f (4 * li + 1)) (f (4 * li + 2)) (f (4 * li + 3)) (t % f (4 * li + 1))) (ez : z = a9 * 301 + r9) (hr : 0 ≤ r9 ∧ r9 ≤ 300) (x0 : 0 ≤ x) (y0 : 0 ≤ y) (y1 : y ≤ 300)
    (h : V (x * 301 + y) = mk ↔ M9 (x * 301 + y) = mk ∨ ∃ t9, 0 ≤ t9 ∧ t9 < t ∧ (f (4 * li + 4) + t9) % f 0 = x ∧ rad (f (4 * li + 1)) (f (4 * li + 2)) (f (4 * li + 3)) (t9 % f (4 * li + 1)) = y) :
    vu V z mk (x * 301 + y) = mk ↔ M9 (x * 301 + y) = mk ∨ ∃ t9, 0 ≤ t9 ∧ t9 < t + 1 ∧ (f (4 * li + 4) + t9) % f 0 = x ∧ rad (f (4 * li + 1)) (f (4 * li + 2)) (f (4 * li + 3)) (t9 % f (4 * li + 1)) = y := by
  by_cases hz : x * 301 + y = z
  · have h1 : x = a9 := by omega
    have h2 : y = r9 := by omega
    rw [hz, vu_self]
    exact ⟨fun _ => Or.inr ⟨t, ht, by omega, by rw [h1, ea], by rw [h2, er]⟩, fun _ => rfl⟩
  · rw [vu_ne hz, h]
    constructor
    · rintro (q | ⟨t9, q0, q1, q2, q3⟩)
      · exact Or.inl q
      · exact Or.inr ⟨t9, q0, by omega, q2, q3⟩
    · rintro (q | ⟨t9, q0, q1, q2, q3⟩)
      · exact Or.inl q
      · by_cases h9 : t9 = t
        · subst h9
          exfalso
          apply hz
          rw [ez, ea, er, q2, q3]
        · exact Or.inr ⟨t9, q0, by omega, q2, q3⟩
theorem mk_vo (h : ∀ i, V i = mk ∨ V i = M9 i) : ∀ i, vu V z mk i = mk ∨ vu V z mk i = M9 i := fun i => by
  by_cases hi : i = z
  · subst hi
    exact Or.inl (vu_self _ _ _)
  · rw [vu_ne hi]
    exact h i
theorem mk_old {x y : Int} (ht : 0 ≤ t) (ea : a9 = (f (4 * li + 4) + t) % f 0) (er : r9 = rad (f (4 * li + 1)) (f (4 * li + 2)) (f (4 * li + 3)) (t % f (4 * li + 1)))
    (h : M9 (a9 * 301 + r9) = mk ∨ ∃ t9, 0 ≤ t9 ∧ t9 < t ∧ (f (4 * li + 4) + t9) % f 0 = a9 ∧ rad (f (4 * li + 1)) (f (4 * li + 2)) (f (4 * li + 3)) (t9 % f (4 * li + 1)) = r9) :
    (M9 (x * 301 + y) = mk ∨ ∃ t9, 0 ≤ t9 ∧ t9 < t ∧ (f (4 * li + 4) + t9) % f 0 = x ∧ rad (f (4 * li + 1)) (f (4 * li + 2)) (f (4 * li + 3)) (t9 % f (4 * li + 1)) = y) ↔ M9 (x * 301 + y) = mk ∨ ∃ t9, 0 ≤ t9 ∧ t9 < t + 1 ∧ (f (4 * li + 4) + t9) % f 0 = x ∧ rad (f (4 * li + 1)) (f (4 * li + 2)) (f (4 * li + 3)) (t9 % f (4 * li + 1)) = y := by
  constructor
  · rintro (q | ⟨t9, q0, q1, q2, q3⟩)
    · exact Or.inl q
    · exact Or.inr ⟨t9, q0, by omega, q2, q3⟩
  · rintro (q | ⟨t9, q0, q1, q2, q3⟩)
    · exact Or.inl q
    · by_cases h9 : t9 = t
      · subst h9
        rw [← q2, ← q3, ← ea, ← er]
        exact h
      · exact Or.inr ⟨t9, q0, by omega, q2, q3⟩
theorem mk_cnt (ht : 0 ≤ t) (ea : a9 = (f (4 * li + 4) + t) % f 0) (er : r9 = rad (f (4 * li + 1)) (f (4 * li + 2)) (f (4 * li + 3)) (t % f (4 * li + 1))) (ha : 0 ≤ a9 ∧ a9 < 96) (hr : 0 ≤ r9 ∧ r9 ≤ 300)
    (hn : ¬ (M9 (a9 * 301 + r9) = mk ∨ ∃ t9, 0 ≤ t9 ∧ t9 < t ∧ (f (4 * li + 4) + t9) % f 0 = a9 ∧ rad (f (4 * li + 1)) (f (4 * li + 2)) (f (4 * li + 3)) (t9 % f (4 * li + 1)) = r9)) :
    cntS (fun x y => (∃ t9, 0 ≤ t9 ∧ t9 < t + 1 ∧ (f (4 * li + 4) + t9) % f 0 = x ∧ rad (f (4 * li + 1)) (f (4 * li + 2)) (f (4 * li + 3)) (t9 % f (4 * li + 1)) = y) ∧ ¬ M9 (x * 301 + y) = mk) = cntS (fun x y => (∃ t9, 0 ≤ t9 ∧ t9 < t ∧ (f (4 * li + 4) + t9) % f 0 = x ∧ rad (f (4 * li + 1)) (f (4 * li + 2)) (f (4 * li + 3)) (t9 % f (4 * li + 1)) = y) ∧ ¬ M9 (x * 301 + y) = mk) + 1 := by
  rw [← cntS_add (a0 := a9) (r0 := r9) (by omega) hr (fun q => hn (Or.inr q.1))]
  refine cntS_congr (fun x y _ _ _ _ => ?_)
  constructor
  · rintro ⟨⟨t9, q0, q1, q2, q3⟩, q4⟩
    by_cases h9 : t9 = t
    · subst h9
      exact Or.inr ⟨by rw [← q2, ea], by rw [← q3, er]⟩
    · exact Or.inl ⟨⟨t9, q0, by omega, q2, q3⟩, q4⟩
  · rintro (⟨⟨t9, q0, q1, q2, q3⟩, q4⟩ | ⟨h1, h2⟩)
    · exact ⟨⟨t9, q0, by omega, q2, q3⟩, q4⟩
    · exact ⟨⟨t, ht, by omega, by rw [h1, ea], by rw [h2, er]⟩, by rw [h1, h2]; exact fun q => hn (Or.inl q)⟩
theorem mk_cnt0 (ht : 0 ≤ t) (ea : a9 = (f (4 * li + 4) + t) % f 0) (er : r9 = rad (f (4 * li + 1)) (f (4 * li + 2)) (f (4 * li + 3)) (t % f (4 * li + 1)))
    (hn : M9 (a9 * 301 + r9) = mk ∨ ∃ t9, 0 ≤ t9 ∧ t9 < t ∧ (f (4 * li + 4) + t9) % f 0 = a9 ∧ rad (f (4 * li + 1)) (f (4 * li + 2)) (f (4 * li + 3)) (t9 % f (4 * li + 1)) = r9) :
    cntS (fun x y => (∃ t9, 0 ≤ t9 ∧ t9 < t ∧ (f (4 * li + 4) + t9) % f 0 = x ∧ rad (f (4 * li + 1)) (f (4 * li + 2)) (f (4 * li + 3)) (t9 % f (4 * li + 1)) = y) ∧ ¬ M9 (x * 301 + y) = mk) = cntS (fun x y => (∃ t9, 0 ≤ t9 ∧ t9 < t + 1 ∧ (f (4 * li + 4) + t9) % f 0 = x ∧ rad (f (4 * li + 1)) (f (4 * li + 2)) (f (4 * li + 3)) (t9 % f (4 * li + 1)) = y) ∧ ¬ M9 (x * 301 + y) = mk) := by
  refine cntS_congr (fun x y _ _ _ _ => ?_)
  constructor
  · rintro ⟨⟨t9, q0, q1, q2, q3⟩, q4⟩
    exact ⟨⟨t9, q0, by omega, q2, q3⟩, q4⟩
  · rintro ⟨⟨t9, q0, q1, q2, q3⟩, q4⟩
    by_cases h9 : t9 = t
    · subst h9
      rw [← ea] at q2
      rw [← er] at q3
      rw [← q2, ← q3] at q4 ⊢
      exact ⟨hn.elim (fun q => absurd q q4) id, q4⟩
    · exact ⟨⟨t9, q0, by omega, q2, q3⟩, q4⟩
end MK
theorem fX8_mark_13 : gFld wsX8_mark RX8 13 8 3 := ⟨RX8, TX8, 17, rfl, by decide, by decide +kernel, by decide +kernel⟩
theorem fX8_mark_67 : gFld wsX8_mark RX8 67 8 4 := ⟨RX8, TX8, 17, rfl, by decide, by decide +kernel, by decide +kernel⟩
set_option maxHeartbeats 4000000 in
set_option maxRecDepth 100000 in
theorem c_X8_mark (l : Launch) (κ : gKap) (B n : Nat) (ad : Nat → Nat) (g : Nat → va_E) (ly : Int) (th : Int) (mk : Int) (tx : Int) (rl : Int) (a0 : Int) (wr : Int) (s0 : Int) (s1 : Int) (rm : Int) (f : Int → Int) (M9 : Int → Int) (li : Int) (hn8 : 200 ≤ n) (hM : g 192 = oM ad ly th mk tx rl a0 wr s0 s1 rm) (hN : g 193 = aI κ 42 f) (hK : g 194 = aI κ 28896 M9) (hok : okPl ly f) (hli : 0 ≤ li ∧ li < ly) (hmk : 0 ≤ mk ∧ mk ≤ 1000000000) (hMr : ∀ i, 0 ≤ i → i < 28896 → 0 ≤ M9 i ∧ M9 i ≤ 1000000000) : Met l yX8_mark wsX8_mark ({ frames := 3, cells := 0, slots := 0, locals := 72 }) (gPre κ B n ad g [.ref (ad 192), .int (iz li)]) (gQi κ B n ad (fun z g' => ∃ V, g' = va_up g 194 (aI κ 28896 V) ∧ (∀ x y, 0 ≤ x → x < 96 → 0 ≤ y → y ≤ 300 → (V (x * 301 + y) = mk ↔ M9 (x * 301 + y) = mk ∨ PTl f li x y)) ∧ (∀ i, V i = mk ∨ V i = M9 i) ∧ z = (cntS (fun x y => PTl f li x y ∧ ¬ M9 (x * 301 + y) = mk) : Int) ∧ 0 ≤ z ∧ z ≤ 5760)) 0 0 (gFree B) := by
  refine g_met RX8 (cc := cX8_mark) (maxL := 6) (ret := (some .int)) (by decide) rfl rfl (Nat.le_of_ble_eq_true rfl) ?_
  intro p e s m args below meth c C hr hlk hnm G ls hl
  have hl : lv_has ls 6 [(0, .ref (ad 192)), (1, .int (iz li))] := hl
  obtain ⟨hn6, hv0, hv25, hlay, hsee⟩ := id hok
  have hla := hlay li hli.1 hli.2
  have hpd := pd_range (ring := f 0) (w := f (4 * li + 1)) hv0 (by omega) (by omega)
  refine g_iconst (a := 0) C dX8_mark_0 rfl ?_
  refine lv_istore_n (lv' := [(2, .int (iz 0)), (0, .ref (ad 192)), (1, .int (iz li))]) C.1.1 C.1.2.1 dX8_mark_1 rfl hl (by decide) rfl (fun ls hl => ?_)
  refine g_aload_n C dX8_mark_2 rfl hl 1 rfl ?_
  refine g_iload_n C dX8_mark_3 rfl hl 2 rfl ?_
  refine g_ci C G (g_runV (As := [.int (iz li)]) (rest := []) (pos := 192) C G (c_X8_period l κ B n ad g ly th mk tx rl a0 wr s0 s1 rm f li hn8 hM hN hok (by omega)) (cwV 1 C.1.2.2.2.2 gX8_mark_X8_period rfl rfl rfl (by decide +kernel) ⟨Nat.le_of_ble_eq_true rfl, Nat.le_of_ble_eq_true rfl⟩) (by omega) hM (T := TX8) (N := 17) rfl rfl hl rfl (Nat.le_of_ble_eq_true rfl) dX8_mark_4 ⟨Nat.le_of_ble_eq_true rfl, Nat.le_of_ble_eq_true rfl⟩) (fun z_1 g9 H locs hw G => ?_)
  obtain ⟨hg9, h_2⟩ := hw
  replace hg9 := hg9.symm
  subst hg9
  refine lv_istore_n (lv' := [(3, .int (iz z_1)), (2, .int (iz 0)), (0, .ref (ad 192)), (1, .int (iz li))]) C.1.1 C.1.2.1 dX8_mark_7 rfl hl (by decide) rfl (fun ls hl => ?_)
  refine g_iconst (a := 0) C dX8_mark_8 rfl ?_
  refine lv_istore (lv' := [(4, .int (iz 0)), (3, .int (iz z_1)), (2, .int (iz 0)), (0, .ref (ad 192)), (1, .int (iz li))]) C.1.1 C.1.2.1 dX8_mark_9 hl (by decide) rfl (fun ls hl => ?_)
  have lp_11_n_4 : ∀ (k_3 : Nat) (num : Int) (t : Int) (V : Int → Int) (gv : Nat → va_E), (pd (f 0) (f (4 * li + 1)) - t).toNat < k_3 → (0 ≤ t ∧ t ≤ pd (f 0) (f (4 * li + 1))) → (0 ≤ num ∧ num ≤ t) → (gv = va_up g 194 (aI κ 28896 V)) → (∀ x y, 0 ≤ x → x < 96 → 0 ≤ y → y ≤ 300 → (V (x * 301 + y) = mk ↔ M9 (x * 301 + y) = mk ∨ ∃ t9, 0 ≤ t9 ∧ t9 < t ∧ (f (4 * li + 4) + t9) % f 0 = x ∧ rad (f (4 * li + 1)) (f (4 * li + 2)) (f (4 * li + 3)) (t9 % f (4 * li + 1)) = y)) → (∀ i, V i = mk ∨ V i = M9 i) → (num = (cntS (fun x y => (∃ t9, 0 ≤ t9 ∧ t9 < t ∧ (f (4 * li + 4) + t9) % f 0 = x ∧ rad (f (4 * li + 1)) (f (4 * li + 2)) (f (4 * li + 3)) (t9 % f (4 * li + 1)) = y) ∧ ¬ M9 (x * 301 + y) = mk) : Int)) → ∀ (H : Heap) (locs : List Loc), gG κ B n ad s gv H locs → ∀ (ls : Array Slot), lv_has ls 6 [(0, .ref (ad 192)), (1, .int (iz li)), (2, .int (iz num)), (3, .int (iz z_1)), (4, .int (iz t))] → W p l e ({ frames := 3, cells := 0, slots := 0, locals := 72 }) s m args below meth c H locs 0 0 (MQ below (gQi κ B n ad (fun z g' => ∃ V, g' = va_up g 194 (aI κ 28896 V) ∧ (∀ x y, 0 ≤ x → x < 96 → 0 ≤ y → y ≤ 300 → (V (x * 301 + y) = mk ↔ M9 (x * 301 + y) = mk ∨ PTl f li x y)) ∧ (∀ i, V i = mk ∨ V i = M9 i) ∧ z = (cntS (fun x y => PTl f li x y ∧ ¬ M9 (x * 301 + y) = mk) : Int) ∧ 0 ≤ z ∧ z ≤ 5760)) args s 0 0 (gFree B)) (F0 m 11 ls []) := by
    intro k_3
    induction k_3 with
    | zero => intro num t V gv hm; exact absurd hm (Nat.not_lt_zero _)
    | succ k_3 ih_lp_11_n_4 =>
      intro num t V gv hm ht hnu hgv hV hVo hnum H locs G ls hl
      have hk9 : gv 194 = aI κ 28896 V := by rw [hgv]; exact gu_self _ _ _
      have hm9 : gv 192 = g 192 := by rw [hgv]; exact gu_ne (by decide)
      have hn9 : gv 193 = g 193 := by rw [hgv]; exact gu_ne (by decide)
      refine g_iload C dX8_mark_11 hl 4 rfl ?_
      refine g_iload_n C dX8_mark_13 rfl hl 3 rfl ?_
      refine g_icmp_ge (tgt := 60) C (by omega) (by omega) dX8_mark_14 (by decide) (fun c_5 => ?_) (fun c_5 => ?_)
      · refine g_iload_n C dX8_mark_60 rfl hl 2 rfl ?_
        refine g_iret C G hr hlk (Nat.le_of_ble_eq_true rfl) (Nat.le_of_ble_eq_true rfl) dX8_mark_61 ?_
        have ht9 : t = pd (f 0) (f (4 * li + 1)) := by omega
        subst ht9
        exact ⟨V, hgv, hV, hVo, hnum, by omega, by omega⟩
      · refine g_aload_n C dX8_mark_17 rfl hl 0 rfl ?_
        refine g_iload_n C dX8_mark_18 rfl hl 1 rfl ?_
        refine g_iload C dX8_mark_19 hl 4 rfl ?_
        refine g_ci C G (g_runV (As := [.int (iz li), .int (iz t)]) (rest := []) (pos := 192) C G (c_X8_spot l κ B n ad gv ly th mk tx rl a0 wr s0 s1 rm f li t hn8 (hm9.trans hM) (hn9.trans hN) hok hli (by omega)) (cwV 2 C.1.2.2.2.2 gX8_mark_X8_spot rfl rfl rfl (by decide +kernel) ⟨Nat.le_of_ble_eq_true rfl, Nat.le_of_ble_eq_true rfl⟩) (by omega) (hm9.trans hM) (T := TX8) (N := 17) rfl rfl hl rfl (Nat.le_of_ble_eq_true rfl) dX8_mark_21 ⟨Nat.le_of_ble_eq_true rfl, Nat.le_of_ble_eq_true rfl⟩) (fun z_6 g9 H locs hw G => ?_)
        obtain ⟨hg9, h_7⟩ := hw
        replace hg9 := hg9.symm
        subst hg9
        obtain ⟨a9, r9, hez, hea, her, hra8, hrr8⟩ := h_7
        have hra : 0 ≤ a9 ∧ a9 < 96 := by omega
        have hrr : 0 ≤ r9 ∧ r9 ≤ 300 := by omega
        refine lv_istore (lv' := [(5, .int (iz z_6)), (0, .ref (ad 192)), (1, .int (iz li)), (2, .int (iz num)), (3, .int (iz z_1)), (4, .int (iz t))]) C.1.1 C.1.2.1 dX8_mark_24 hl (by decide) rfl (fun ls hl => ?_)
        refine g_aload_n C dX8_mark_26 rfl hl 1 rfl ?_
        refine g_get C G (pos := 192) fX8_mark_13 (by omega) (hm9.trans hM) rfl dX8_mark_27 ?_
        refine g_iload C dX8_mark_30 hl 0 rfl ?_
        refine g_iaload C G (pos := 194) (by omega) hk9 (by omega) (by omega) (by omega) dX8_mark_32 ?_
        have hvr : inI (V z_6) := by rcases hVo z_6 with q | q <;> rw [q] <;> first | omega | (have := hMr z_6 (by omega) (by omega); omega)
        refine g_aload_n C dX8_mark_33 rfl hl 1 rfl ?_
        refine g_get C G (pos := 192) fX8_mark_67 (by omega) (hm9.trans hM) rfl dX8_mark_34 ?_
        refine g_icmp_eq (tgt := 54) C (by omega) (by omega) dX8_mark_37 (by decide) (fun c_8 => ?_) (fun c_8 => ?_)
        · have hne : V z_6 = mk := by omega
          refine lv_iinc (v := iz (t + 1)) (lv' := [(4, .int (iz (t + 1))), (5, .int (iz z_6)), (0, .ref (ad 192)), (1, .int (iz li)), (2, .int (iz num)), (3, .int (iz z_1))]) C.1.1 C.1.2.1 dX8_mark_54 hl (k := 5) rfl (g_inc (by omega)) (by decide) rfl (fun ls hl => ?_)
          refine g_goto (tgt := 11) C dX8_mark_57 (by decide) ?_
          exact ih_lp_11_n_4 num (t + 1) V gv (by omega) (by omega) (by omega) hgv (fun x y x0 x1 y0 y1 => (hV x y x0 x1 y0 y1).trans (mk_old ht.1 hea her ((hV a9 r9 hra.1 hra.2 (by omega) (by omega)).mp (by rw [← hez]; exact hne)))) hVo (by rw [hnum]; exact congrArg (fun q : Nat => (q : Int)) (mk_cnt0 ht.1 hea her ((hV a9 r9 hra.1 hra.2 (by omega) (by omega)).mp (by rw [← hez]; exact hne)))) _ _ G _ (lv_sub hl [2, 3, 4, 5, 0] rfl)
        · have hne : ¬ V z_6 = mk := by omega
          refine g_aload_n C dX8_mark_40 rfl hl 1 rfl ?_
          refine g_get C G (pos := 192) fX8_mark_13 (by omega) (hm9.trans hM) rfl dX8_mark_41 ?_
          refine g_iload C dX8_mark_44 hl 0 rfl ?_
          refine g_aload_n C dX8_mark_46 rfl hl 1 rfl ?_
          refine g_get C G (pos := 192) fX8_mark_67 (by omega) (hm9.trans hM) rfl dX8_mark_47 ?_
          refine g_iastore C G (pos := 194) (by omega) hk9 (by omega) (by omega) (by omega) dX8_mark_50 (fun H locs G => ?_)
          obtain ⟨g_9, hg_10⟩ : ∃ g9, g9 = va_up gv 194 (aI κ 28896 (vu V z_6 mk)) := ⟨_, rfl⟩
          rw [← hg_10] at G
          have hc_11 : g_9 192 = .inr (8, [.ref (ad 193), .int (iz ly), .int (iz th), .ref (ad 194), .int (iz mk), .ref (ad 195), .int (iz tx), .ref (ad 196), .int (iz rl), .int (iz a0), .int (iz wr), .int (iz s0), .int (iz s1), .ref (ad 197), .int (iz rm), .ref (ad 198), .ref (ad 199)]) := by rw [hg_10, gu_ne (by decide)]; exact (hm9.trans hM)
          have hc_12 : g_9 193 = aI κ 42 f := by rw [hg_10, gu_ne (by decide)]; exact (hn9.trans hN)
          have hc_13 : g_9 194 = aI κ 28896 (vu V z_6 mk) := by rw [hg_10]; exact gu_self _ _ _
          refine lv_iinc (v := iz (num + 1)) (lv' := [(2, .int (iz (num + 1))), (5, .int (iz z_6)), (0, .ref (ad 192)), (1, .int (iz li)), (3, .int (iz z_1)), (4, .int (iz t))]) C.1.1 C.1.2.1 dX8_mark_51 hl (k := 3) rfl (g_inc (by omega)) (by decide) rfl (fun ls hl => ?_)
          refine lv_iinc (v := iz (t + 1)) (lv' := [(4, .int (iz (t + 1))), (2, .int (iz (num + 1))), (5, .int (iz z_6)), (0, .ref (ad 192)), (1, .int (iz li)), (3, .int (iz z_1))]) C.1.1 C.1.2.1 dX8_mark_54 hl (k := 5) rfl (g_inc (by omega)) (by decide) rfl (fun ls hl => ?_)
          refine g_goto (tgt := 11) C dX8_mark_57 (by decide) ?_
          exact ih_lp_11_n_4 (num + 1) (t + 1) (vu V z_6 mk) g_9 (by omega) (by omega) (by omega) (by rw [hg_10, hgv, gu_up]) (fun x y x0 x1 y0 y1 => mk_new ht.1 hea her hez hrr x0 y0 y1 (hV x y x0 x1 y0 y1)) (mk_vo hVo) (by rw [hnum, mk_cnt ht.1 hea her hra hrr (fun q => hne ((hV a9 r9 hra.1 hra.2 (by omega) (by omega)).mpr q |> fun q2 => by rw [hez]; exact q2))]; rfl) _ _ G _ (lv_sub hl [3, 4, 1, 5, 0] rfl)
  exact lp_11_n_4 _ 0 0 M9 g (Nat.lt_succ_self _) (by omega) (by omega) (by funext q; by_cases hq : q = 194 <;> simp [va_up, hq, hK]) (fun x y _ _ _ _ => ⟨Or.inl, fun q => q.elim id (fun ⟨t9, q0, q1, _⟩ => absurd q1 (by omega))⟩) (fun i => Or.inr rfl) (by rw [cntS_none (fun x y _ _ _ _ q => by obtain ⟨⟨t9, q0, q1, _⟩, _⟩ := q; omega)]; rfl) _ _ G _ (lv_sub hl [3, 4, 2, 1, 0] rfl)
