/-! ROSETTEPLATE (X7): scripts -/
def gu (k : Int) : Int := if k = 0 then 1 else if k = 1 then 100000 else if k = 2 then 10000000000 else 1000000000000000
theorem gu_step {i : Int} (h : 0 ≤ i ∧ i < 3) : gu i * 100000 = gu (i + 1) := by
  have h9 : i = 0 ∨ i = 1 ∨ i = 2 := by omega
  rcases h9 with rfl | rfl | rfl <;> rfl
theorem gu_pos (i : Int) : 1 ≤ gu i := by
  unfold gu
  repeat' split
  all_goals omega
theorem gu_J (i : Int) : inJ (gu i) := by
  unfold gu
  repeat' split
  all_goals omega
def scG (m9 sc : Int) : Int → Int := fun i => sc / gu (m9 - 1 - i) % 100000
theorem scG_rg {m9 sc i : Int} : 0 ≤ scG m9 sc i ∧ scG m9 sc i < 100000 := ⟨Int.emod_nonneg _ (by decide), Int.emod_lt_of_pos _ (by decide)⟩
def cmG (grp nl : Int) (v : Int → Int) : Prop := cmOK (grp / 10000 % 10) (grp / 1000 % 10) (grp / 100 % 10) (grp / 10 % 10) (grp % 10) nl v
def cmQ (grp nl : Int) (v : Int → Int) : Int × (Int → Int) := cmP (grp / 10000 % 10) (grp / 1000 % 10) (grp / 100 % 10) (grp / 10 % 10) (grp % 10) nl v
noncomputable def rsF (G9 : Int → Int) (m9 : Int) : Nat → Int → Int → (Int → Int) → Int
  | 0, _, _, _ => -9
  | k + 1, i, nl, v => if i < m9 then @ite Int (cmG (G9 i) nl v) (Classical.propDecidable _) (rsF G9 m9 k (i + 1) (cmQ (G9 i) nl v).1 (cmQ (G9 i) nl v).2) i else -9
theorem rsF_yes {G9 : Int → Int} {m9 k nl : Int} {v : Int → Int} (hk : k < 3) (hm : k < m9) (h : cmG (G9 k) nl v) : rsF G9 m9 (3 - k).toNat k nl v = rsF G9 m9 (3 - (k + 1)).toNat (k + 1) (cmQ (G9 k) nl v).1 (cmQ (G9 k) nl v).2 := by
  have h1 : (3 - k).toNat = (3 - (k + 1)).toNat + 1 := by omega
  rw [h1]
  exact (if_pos hm).trans (if_pos h)
theorem rsF_no {G9 : Int → Int} {m9 k nl : Int} {v : Int → Int} (hk : k < 3) (hm : k < m9) (h : ¬ cmG (G9 k) nl v) : rsF G9 m9 (3 - k).toNat k nl v = k := by
  have h1 : (3 - k).toNat = (3 - (k + 1)).toNat + 1 := by omega
  rw [h1]
  exact (if_pos hm).trans (if_neg h)
theorem rsF_end {G9 : Int → Int} {m9 k nl : Int} {v : Int → Int} (h : ¬ k < m9) : rsF G9 m9 (3 - k).toNat k nl v = -9 := by
  cases (3 - k).toNat with
  | zero => rfl
  | succ j => exact if_neg h
theorem okPl.ch {nl l b x : Int} {v : Int → Int} (h : okPl nl v) (hl : 0 ≤ l ∧ l < nl) (hb : (b = 0 ∧ 5 ≤ x ∧ x ≤ 60) ∨ (b = 1 ∧ (x = 0 ∨ x = 1)) ∨ (b = 2 ∧ 0 ≤ x ∧ x ≤ 20) ∨ (b = 3 ∧ 0 ≤ x ∧ x < v 0)) : okPl nl (vu v (4 * l + 1 + b) x) := by
  obtain ⟨h1, h2, h3, h4, h5⟩ := h
  have e0 : vu v (4 * l + 1 + b) x 0 = v 0 := vu_ne (by omega)
  have e25 : vu v (4 * l + 1 + b) x 25 = v 25 := vu_ne (by omega)
  refine ⟨h1, by rw [e0]; exact h2, by rw [e25]; exact h3, fun j j0 j1 => ?_, fun i i0 i1 => ?_⟩
  · have hj := h4 j j0 j1
    rw [e0]
    simp only [vu]
    repeat' split
    all_goals omega
  · rw [e25] at i1
    rw [e0, vu_ne (by omega), vu_ne (by omega)]
    exact h5 i i0 i1
theorem okPl.dr {nl l : Int} {v : Int → Int} (h : okPl nl v) (hl : 0 ≤ l ∧ l < nl) : okPl (nl - 1) (drv nl v l) := by
  obtain ⟨h1, h2, h3, h4, h5⟩ := h
  have e : ∀ i, (i < 4 * l + 1 ∨ 4 * (nl - 1) < i) → drv nl v l i = v i := fun i hi => if_neg (by omega)
  have e2 : ∀ i, 4 * l + 1 ≤ i → i ≤ 4 * (nl - 1) → drv nl v l i = v (i + 4) := fun i i0 i1 => if_pos ⟨i0, i1⟩
  refine ⟨by omega, by rw [e _ (by omega)]; exact h2, by rw [e _ (by omega)]; exact h3, fun j j0 j1 => ?_, fun i i0 i1 => ?_⟩
  · rw [e 0 (by omega)]
    by_cases hj : j < l
    · rw [e _ (by omega), e _ (by omega), e _ (by omega), e _ (by omega)]
      exact h4 j j0 (by omega)
    · have := h4 (j + 1) (by omega) (by omega)
      rw [e2 _ (by omega) (by omega), e2 _ (by omega) (by omega), e2 _ (by omega) (by omega), e2 _ (by omega) (by omega)]
      rw [show 4 * (j + 1) + 1 = 4 * j + 1 + 4 by omega, show 4 * (j + 1) + 2 = 4 * j + 2 + 4 by omega, show 4 * (j + 1) + 3 = 4 * j + 3 + 4 by omega, show 4 * (j + 1) + 4 = 4 * j + 4 + 4 by omega] at this
      exact this
  · rw [e 25 (by omega)] at i1
    rw [e 0 (by omega), e _ (by omega), e _ (by omega)]
    exact h5 i i0 i1
theorem okPl.tk {nl t : Int} {v : Int → Int} (h : okPl nl v) (ht : 12 ≤ t ∧ t ≤ 96) : okPl nl (tkr nl v t) := by
  obtain ⟨h1, h2, h3, h4, h5⟩ := h
  have e0 : tkr nl v t 0 = t := if_pos rfl
  have e25 : tkr nl v t 25 = v 25 := by unfold tkr; rw [if_neg (by omega), if_neg (by omega), if_neg (by omega)]
  refine ⟨h1, by rw [e0]; exact ht, by rw [e25]; exact h3, fun j j0 j1 => ?_, fun i i0 i1 => ?_⟩
  · have hj := h4 j j0 j1
    have q : ∀ d, 1 ≤ d → d ≤ 3 → tkr nl v t (4 * j + d) = v (4 * j + d) := fun d d0 d1 => by unfold tkr; rw [if_neg (by omega), if_neg (by omega), if_neg (by omega)]
    rw [e0, q 1 (by omega) (by omega), q 2 (by omega) (by omega), q 3 (by omega) (by omega)]
    refine ⟨hj.1, ?_⟩
    unfold tkr
    rw [if_neg (by omega)]
    by_cases hs : 0 ≤ v (4 * j + 4) ∧ v (4 * j + 4) < t
    · rw [if_neg (fun c => c.2.2.2 hs), if_neg (by omega)]
      exact hs
    · rw [if_pos ⟨by omega, by omega, by omega, hs⟩]
      omega
  · rw [e25] at i1
    have hi := h5 i i0 i1
    have q : tkr nl v t (27 + 2 * i) = v (27 + 2 * i) := by unfold tkr; rw [if_neg (by omega), if_neg (by omega), if_neg (by omega)]
    rw [e0, q]
    refine ⟨?_, hi.2⟩
    unfold tkr
    rw [if_neg (by omega), if_neg (by omega)]
    by_cases hs : 0 ≤ v (26 + 2 * i) ∧ v (26 + 2 * i) < t
    · rw [if_neg (fun c => c.2.2.2 hs)]
      exact hs
    · rw [if_pos ⟨by omega, by omega, by omega, hs⟩]
      omega
theorem inV.tk {nl t : Int} {v : Int → Int} (h : inV v) (ht : 12 ≤ t ∧ t ≤ 96) : inV (tkr nl v t) := fun i i0 i1 => by
  have := h i i0 i1
  unfold tkr
  repeat' split
  all_goals omega
theorem inV.dr {nl l : Int} {v : Int → Int} (h : inV v) (hn : nl ≤ 6) (hl : 0 ≤ l) : inV (drv nl v l) := fun i i0 i1 => by
  unfold drv
  split
  · exact h _ (by omega) (by omega)
  · exact h i i0 i1
theorem cmQ_ok {grp nl : Int} {v : Int → Int} (h : okPl nl v) (hv : inV v) (hg : 0 ≤ grp ∧ grp < 100000) (hc : cmG grp nl v) : okPl (cmQ grp nl v).1 (cmQ grp nl v).2 ∧ inV (cmQ grp nl v).2 := by
  have hn := h.1
  have hr := h.2.1
  unfold cmG cmOK at hc
  unfold cmQ cmP
  by_cases h1 : grp / 10000 % 10 = 1
  · rw [if_pos h1] at hc ⊢
    exact ⟨h.ch ⟨by omega, hc.1⟩ hc.2, hv.vu (by omega)⟩
  rw [if_neg h1] at hc ⊢
  by_cases h2 : grp / 10000 % 10 = 2
  · rw [if_pos h2] at hc ⊢
    exact ⟨h.dr ⟨by omega, hc.2.2⟩, hv.dr hn.2 (by omega)⟩
  rw [if_neg h2] at hc ⊢
  by_cases h3 : grp / 10000 % 10 = 3
  · rw [if_pos h3] at hc ⊢
    exact ⟨h.tk ⟨hc.2.2.1, hc.2.2.2⟩, hv.tk ⟨hc.2.2.1, hc.2.2.2⟩⟩
  rw [if_neg h3] at hc ⊢
  by_cases h4 : grp / 10000 % 10 = 4
  · rw [if_pos h4] at hc ⊢
    exact ⟨h.put hc.2.2.2 ⟨by omega, by omega, by omega⟩ ⟨by omega, by omega⟩, hv.v4 (by omega) (by omega) (by omega) ⟨by omega, by omega⟩⟩
  rw [if_neg h4]
  exact ⟨h, hv⟩
set_option maxHeartbeats 4000000 in
set_option maxRecDepth 100000 in
theorem c_X7_groupUnit (l : Launch) (κ : gKap) (B n : Nat) (ad : Nat → Nat) (g : Nat → va_E) (gr : Int) (hgr9 : 0 ≤ gr ∧ gr ≤ 3) : Met l yX7_groupUnit wsX7_groupUnit ({ frames := 0, cells := 0, slots := 0, locals := 0 }) (gPre κ B n ad g [.int (iz gr)]) (gQl κ B n ad (fun z g' => g' = g ∧ (z = gu gr))) 0 0 (gFree B) := by
  refine g_met RX7 (cc := cX7_groupUnit) (maxL := 4) (ret := (some .long)) (by decide) rfl rfl (Nat.le_of_ble_eq_true rfl) ?_
  intro p e s m args below meth c C hr hlk hnm G ls hl
  have hl : lv_has ls 4 [(0, .int (iz gr))] := hl
  refine g_lconst (a := 1) C dX7_groupUnit_0 (by decide) ?_
  rw [show (1 : Int) = gu 0 from rfl]
  refine lv_lstore_n (lv' := [(1, .long (jz (gu 0))), (0, .int (iz gr))]) C.1.1 C.1.2.1 dX7_groupUnit_1 rfl hl (by decide) rfl (fun ls hl => ?_)
  refine g_iconst (a := 0) C dX7_groupUnit_2 rfl ?_
  refine lv_istore_n (lv' := [(3, .int (iz 0)), (1, .long (jz (gu 0))), (0, .int (iz gr))]) C.1.1 C.1.2.1 dX7_groupUnit_3 rfl hl (by decide) rfl (fun ls hl => ?_)
  have lp_4_n_2 : ∀ (k_1 : Nat) (i : Int), (gr - i).toNat < k_1 → (0 ≤ i ∧ i ≤ gr) → ∀ (H : Heap) (locs : List Loc), gG κ B n ad s g H locs → ∀ (ls : Array Slot), lv_has ls 4 [(0, .int (iz gr)), (1, .long (jz (gu i))), (3, .int (iz i))] → W p l e ({ frames := 0, cells := 0, slots := 0, locals := 0 }) s m args below meth c H locs 0 0 (MQ below (gQl κ B n ad (fun z g' => g' = g ∧ (z = gu gr))) args s 0 0 (gFree B)) (F0 m 4 ls []) := by
    intro k_1
    induction k_1 with
    | zero => intro i hm; exact absurd hm (Nat.not_lt_zero _)
    | succ k_1 ih_lp_4_n_2 =>
      intro i hm hi H locs G ls hl
      refine g_iload_n C dX7_groupUnit_4 rfl hl 2 rfl ?_
      refine g_iload_n C dX7_groupUnit_5 rfl hl 0 rfl ?_
      refine g_icmp_ge (tgt := 21) C (by omega) (by omega) dX7_groupUnit_6 (by decide) (fun c_3 => ?_) (fun c_3 => ?_)
      · refine g_lload_n C dX7_groupUnit_21 rfl hl 1 rfl ?_
        refine g_lret C G hr hlk (Nat.le_of_ble_eq_true rfl) (Nat.le_of_ble_eq_true rfl) dX7_groupUnit_22 ?_
        have hi9 : i = gr := by omega
        subst hi9
        exact ⟨rfl, rfl⟩
      · refine g_lload_n C dX7_groupUnit_9 rfl hl 1 rfl ?_
        refine g_ldc2 (a := 100000) C (by decide +kernel) dX7_groupUnit_10 ?_
        refine g_lmul C dX7_groupUnit_13 ?_
        rw [show gu i * 100000 = gu (i + 1) from gu_step (by omega)]
        refine lv_lstore_n (lv' := [(1, .long (jz (gu (i + 1)))), (0, .int (iz gr)), (3, .int (iz i))]) C.1.1 C.1.2.1 dX7_groupUnit_14 rfl hl (by decide) rfl (fun ls hl => ?_)
        refine lv_iinc (v := iz (i + 1)) (lv' := [(3, .int (iz (i + 1))), (1, .long (jz (gu (i + 1)))), (0, .int (iz gr))]) C.1.1 C.1.2.1 dX7_groupUnit_15 hl (k := 2) rfl (g_inc (by omega)) (by decide) rfl (fun ls hl => ?_)
        refine g_goto (tgt := 4) C dX7_groupUnit_18 (by decide) ?_
        exact ih_lp_4_n_2 (i + 1) (by omega) (by omega) _ _ G _ (lv_sub hl [2, 1, 0] rfl)
  exact lp_4_n_2 _ 0 (Nat.lt_succ_self _) (by omega) _ _ G _ (lv_sub hl [2, 1, 0] rfl)
theorem fX7_runScript_20 : gFld wsX7_runScript RX7 20 7 3 := ⟨RX7, TX7, 8, rfl, by decide, by decide +kernel, by decide +kernel⟩
theorem fX7_runScript_16 : gFld wsX7_runScript RX7 16 7 2 := ⟨RX7, TX7, 8, rfl, by decide, by decide +kernel, by decide +kernel⟩
theorem nwX7_runScript_1 : ∀ w ∈ u_ws RX1 TX1 5, w ∈ wsX7_runScript := by decide +kernel
theorem fX7_runScript_41 : gFld wsX7_runScript RX7 41 7 7 := ⟨RX7, TX7, 8, rfl, by decide, by decide +kernel, by decide +kernel⟩
set_option maxHeartbeats 4000000 in
set_option maxRecDepth 100000 in
theorem c_X7_runScript (l : Launch) (hlf : l.stackTraces = false) (κ : gKap) (B n : Nat) (ad : Nat → Nat) (g : Nat → va_E) (tl : Int) (nl : Int) (v : Int → Int) (ns : Int) (vs : Int → Int) (m9 : Int) (sc : Int) (hnn : 192 ≤ n) (hX : isX κ ad g tl) (hpl : isPl κ ad g 2 nl v) (hok : okPl nl v) (hin : inV v) (hps : isPl κ ad g 12 ns vs) (hins : inV vs) (hbn : isBn κ ad g 186) (hm9 : inI m9) (hsc : inJ sc) : vx_Met l yX7_runScript wsX7_runScript ({ frames := 6, cells := 3, slots := 15, locals := 148 }) (gPreX κ B n ad g [.ref (ad 0), .int (iz m9), .long (jz sc)]) (gQi κ B n ad (fun z g' => ((1 ≤ m9 ∧ m9 ≤ 3) ∧ 0 ≤ sc ∧ sc < gu m9) ∧ ∃ U9, sim nl U9 v ∧ inV U9 ∧ z = rsF (scG m9 sc) m9 3 0 nl U9 ∧ ∃ n9 V9, isPl κ ad g' 12 n9 V9 ∧ inV V9 ∧ isBn κ ad g' 186 ∧ ∀ q, q < n → (q < 12 ∨ 22 ≤ q) → (q < 186 ∨ 192 ≤ q) → g' q = g q)) (gXX κ B n ad (fun E g9 => (E = "java/lang/IllegalArgumentException" ∧ (¬ ((1 ≤ m9 ∧ m9 ≤ 3) ∧ 0 ≤ sc ∧ sc < gu m9)) ∧ g9 = g))) 3 15 (gFree B) := by
  refine g_metX RX7 (cc := cX7_runScript) (maxL := 7) (ret := (some .int)) (by decide) rfl rfl (Nat.le_of_ble_eq_true rfl) ?_
  intro p e s m args below meth c C hr hlk hnt X G ls hl
  have hl : lv_has ls 7 [(0, .ref (ad 0)), (1, .int (iz m9)), (2, .long (jz sc))] := hl
  obtain ⟨hn6, hv0, hv25, hlay, hsee⟩ := id hok
  refine g_iload_n C dX7_runScript_0 rfl hl 1 rfl ?_
  refine g_iconst (a := 1) C dX7_runScript_1 rfl ?_
  refine g_icmp_lt (tgt := 10) C (by omega) (by decide) dX7_runScript_2 (by decide) (fun c_1 => ?_) (fun c_1 => ?_)
  · refine g_throwW C G X hlf hlk hnt hl (cls := "java/lang/IllegalArgumentException") (text := "n is not 1 to 3") (ik := 45) (is := 293) (ic := 49) (by decide +kernel) (by decide +kernel : Cond.classLink RX7 45 _ ∈ wsX7_runScript) (by decide +kernel : Cond.initialized _ ∈ wsX7_runScript) (by decide +kernel) (by decide +kernel) (by decide +kernel) at_iae (by decide +kernel) dX7_runScript_10 dX7_runScript_13 dX7_runScript_14 dX7_runScript_17 dX7_runScript_20 (Nat.le_of_ble_eq_true rfl) (Nat.le_of_ble_eq_true rfl) (Nat.le_of_ble_eq_true rfl) (Nat.le_of_ble_eq_true rfl) (Nat.le_of_ble_eq_true rfl) (Nat.le_of_ble_eq_true rfl) ?_
    exact ⟨rfl, by omega, rfl⟩
  · refine g_iload_n C dX7_runScript_5 rfl hl 1 rfl ?_
    refine g_iconst (a := 3) C dX7_runScript_6 rfl ?_
    refine g_icmp_le (tgt := 21) C (by omega) (by decide) dX7_runScript_7 (by decide) (fun c_2 => ?_) (fun c_2 => ?_)
    · refine g_lload_n C dX7_runScript_21 rfl hl 2 rfl ?_
      refine g_lconst (a := 0) C dX7_runScript_22 (by decide) ?_
      refine g_lcmp C (by omega) (by decide) dX7_runScript_23 (fun z_3 h_4 => ?_)
      refine g_if_lt (tgt := 36) C (by omega) dX7_runScript_24 (by decide) (fun c_5 => ?_) (fun c_5 => ?_)
      · refine g_throwW C G X hlf hlk hnt hl (cls := "java/lang/IllegalArgumentException") (text := "script is negative or too long") (ik := 45) (is := 299) (ic := 49) (by decide +kernel) (by decide +kernel : Cond.classLink RX7 45 _ ∈ wsX7_runScript) (by decide +kernel : Cond.initialized _ ∈ wsX7_runScript) (by decide +kernel) (by decide +kernel) (by decide +kernel) at_iae (by decide +kernel) dX7_runScript_36 dX7_runScript_39 dX7_runScript_40 dX7_runScript_43 dX7_runScript_46 (Nat.le_of_ble_eq_true rfl) (Nat.le_of_ble_eq_true rfl) (Nat.le_of_ble_eq_true rfl) (Nat.le_of_ble_eq_true rfl) (Nat.le_of_ble_eq_true rfl) (Nat.le_of_ble_eq_true rfl) ?_
        exact ⟨rfl, by omega, rfl⟩
      · refine g_lload_n C dX7_runScript_27 rfl hl 2 rfl ?_
        refine g_iload_n C dX7_runScript_28 rfl hl 1 rfl ?_
        refine g_cl C G (g_runS (As := [.int (iz m9)]) (rest := [.long (jz sc)]) C G (c_X7_groupUnit l κ B n ad g m9 (by omega)) (va_cwS 1 C.1.2.2.2.2 gX7_runScript_X7_groupUnit rfl rfl rfl (by decide +kernel) ⟨Nat.le_of_ble_eq_true rfl, Nat.le_of_ble_eq_true rfl⟩) rfl hl rfl (Nat.le_of_ble_eq_true rfl) dX7_runScript_29 ⟨Nat.le_of_ble_eq_true rfl, Nat.le_of_ble_eq_true rfl⟩) (fun z_6 g9 H locs hw G => ?_)
        obtain ⟨hg9, h_7⟩ := hw
        replace hg9 := hg9.symm
        subst hg9
        have hgJ := gu_J m9
        refine g_lcmp C (by omega) (by omega) dX7_runScript_32 (fun z_8 h_9 => ?_)
        refine g_if_lt (tgt := 47) C (by omega) dX7_runScript_33 (by decide) (fun c_10 => ?_) (fun c_10 => ?_)
        · refine g_aload_n C dX7_runScript_47 rfl hl 0 rfl ?_
          refine g_get C G (pos := 0) fX7_runScript_20 (by omega) hX.1 rfl dX7_runScript_48 ?_
          refine g_aload_n C dX7_runScript_51 rfl hl 0 rfl ?_
          refine g_get C G (pos := 0) fX7_runScript_16 (by omega) hX.1 rfl dX7_runScript_52 ?_
          refine g_cv C G (g_runV (As := [.ref (ad 2)]) (rest := []) (pos := 12) C G (c_X4_become l κ B n ad g 12 ns vs 2 nl v (by omega) hps (by omega) hpl (by omega) hn6 hv25 hins hin) (cwV 1 C.1.2.2.2.2 gX7_runScript_X4_become rfl rfl rfl (by decide +kernel) ⟨Nat.le_of_ble_eq_true rfl, Nat.le_of_ble_eq_true rfl⟩) (by omega) hps.1 (T := TX4) (N := 6) rfl rfl hl rfl (Nat.le_of_ble_eq_true rfl) dX7_runScript_55 ⟨Nat.le_of_ble_eq_true rfl, Nat.le_of_ble_eq_true rfl⟩) (fun g_11 H locs hw9 G => ?_)
          obtain ⟨v_15, hpl_12, hfr_13, hx_14⟩ := hw9
          have hc_16 : g_11 0 = .inr (7, [.ref (ad 1), .int (iz tl), .ref (ad 2), .ref (ad 12), .ref (ad 22), .ref (ad 164), .ref (ad 165), .ref (ad 186)]) := (hfr_13 _ (by omega)).trans hX.1
          have hc_17 : g_11 164 = aPl κ 2 (fun j => if j < 2 then some (ad (166 + 10 * j)) else none) := (hfr_13 _ (by omega)).trans hX.2
          have hpl_18 : isPl κ ad g_11 2 nl v := hpl.far (fun _ _ _ => hfr_13 _ (by omega))
          have hbn_19 : isBn κ ad g_11 186 := hbn.far (fun q q0 q1 => hfr_13 _ (by omega))
          refine g_iconst (a := 0) C dX7_runScript_58 rfl ?_
          refine lv_istore (lv' := [(4, .int (iz 0)), (0, .ref (ad 0)), (1, .int (iz m9)), (2, .long (jz sc))]) C.1.1 C.1.2.1 dX7_runScript_59 hl (by decide) rfl (fun ls hl => ?_)
          have lp_61_n_21 : ∀ (k_20 : Nat) (k : Int) (ns9 : Int) (V9 : Int → Int) (gv : Nat → va_E), (m9 - k).toNat < k_20 → (0 ≤ k ∧ k ≤ m9) → (isPl κ ad gv 12 ns9 V9) → (isBn κ ad gv 186) → (∀ q, q < n → (q < 12 ∨ 22 ≤ q) → (q < 186 ∨ 192 ≤ q) → gv q = g q) → (okPl ns9 V9) → (inV V9) → (rsF (scG m9 sc) m9 (3 - k).toNat k ns9 V9 = rsF (scG m9 sc) m9 3 0 nl v_15) → ∀ (H : Heap) (locs : List Loc), gG κ B n ad s gv H locs → ∀ (ls : Array Slot), lv_has ls 7 [(0, .ref (ad 0)), (1, .int (iz m9)), (2, .long (jz sc)), (4, .int (iz k))] → W p l e ({ frames := 6, cells := 3, slots := 15, locals := 148 }) s m args below meth c H locs k.toNat (k.toNat * 5) (vx_MQ below (gQi κ B n ad (fun z g' => ((1 ≤ m9 ∧ m9 ≤ 3) ∧ 0 ≤ sc ∧ sc < gu m9) ∧ ∃ U9, sim nl U9 v ∧ inV U9 ∧ z = rsF (scG m9 sc) m9 3 0 nl U9 ∧ ∃ n9 V9, isPl κ ad g' 12 n9 V9 ∧ inV V9 ∧ isBn κ ad g' 186 ∧ ∀ q, q < n → (q < 12 ∨ 22 ≤ q) → (q < 186 ∨ 192 ≤ q) → g' q = g q)) (gXX κ B n ad (fun E g9 => (E = "java/lang/IllegalArgumentException" ∧ (¬ ((1 ≤ m9 ∧ m9 ≤ 3) ∧ 0 ≤ sc ∧ sc < gu m9)) ∧ g9 = g))) args s 3 15 (gFree B)) (F0 m 61 ls []) := by
            intro k_20
            induction k_20 with
            | zero => intro k ns9 V9 gv hm; exact absurd hm (Nat.not_lt_zero _)
            | succ k_20 ih_lp_61_n_21 =>
              intro k ns9 V9 gv hm hk hp12 hb9 hfr hok9 hin9 hR H locs G ls hl
              have hc0 : gv 0 = .inr (7, [.ref (ad 1), .int (iz tl), .ref (ad 2), .ref (ad 12), .ref (ad 22), .ref (ad 164), .ref (ad 165), .ref (ad 186)]) := (hfr 0 (by omega) (by omega) (by omega)).trans hX.1
              have hpl9 : isPl κ ad gv 2 nl v := hpl.far (fun q q0 q1 => hfr q (by omega) (by omega) (by omega))
              have hok8 := hok9
              refine g_iload C dX7_runScript_61 hl 3 rfl ?_
              refine g_iload_n C dX7_runScript_63 rfl hl 1 rfl ?_
              refine g_icmp_ge (tgt := 119) C (by omega) (by omega) dX7_runScript_64 (by decide) (fun c_22 => ?_) (fun c_22 => ?_)
              · refine g_bipush (a := (-9)) C dX7_runScript_119 (by decide) ?_
                refine vx_ret ?_
                refine g_iret C G hr hlk (by show k.toNat + 0 ≤ 3; omega) (by show k.toNat * 5 + 0 ≤ 15; omega) dX7_runScript_121 ?_
                exact ⟨by omega, v_15, hx_14.1, hx_14.2, (rsF_end (by omega)).symm.trans hR, ns9, V9, hp12, hin9, hb9, hfr⟩
              · refine g_lload_n C dX7_runScript_67 rfl hl 2 rfl ?_
                refine g_iload_n C dX7_runScript_68 rfl hl 1 rfl ?_
                refine g_iconst (a := 1) C dX7_runScript_69 rfl ?_
                refine g_isub C dX7_runScript_70 ?_
                refine g_iload C dX7_runScript_71 hl 3 rfl ?_
                refine g_isub C dX7_runScript_73 ?_
                refine g_cl C G (g_runS (As := [.int (iz ((m9 - 1) - k))]) (rest := [.long (jz sc)]) C G (c_X7_groupUnit l κ B n ad gv ((m9 - 1) - k) (by omega)) (va_cwS 1 C.1.2.2.2.2 gX7_runScript_X7_groupUnit rfl rfl rfl (by decide +kernel) ⟨Nat.le_of_ble_eq_true rfl, Nat.le_of_ble_eq_true rfl⟩) rfl hl rfl (Nat.le_of_ble_eq_true rfl) dX7_runScript_74 ⟨by show k.toNat + 0 ≤ 3; omega, by show k.toNat * 5 + 0 ≤ 15; omega⟩) (fun z_23 g9 H locs hw G => ?_)
                obtain ⟨hg9, h_24⟩ := hw
                replace hg9 := hg9.symm
                subst hg9
                refine g_cl C G (g_runS (As := [.long (jz sc), .long (jz z_23)]) (rest := []) C G (c_X7_quotient l κ B n ad gv sc z_23 (by omega) (by rw [h_24]; exact gu_J _) (by rw [h_24]; have := gu_pos (m9 - 1 - k); omega)) (va_cwS 2 C.1.2.2.2.2 gX7_runScript_X7_quotient rfl rfl rfl (by decide +kernel) ⟨Nat.le_of_ble_eq_true rfl, Nat.le_of_ble_eq_true rfl⟩) rfl hl rfl (Nat.le_of_ble_eq_true rfl) dX7_runScript_77 ⟨by show k.toNat + 0 ≤ 3; omega, by show k.toNat * 5 + 0 ≤ 15; omega⟩) (fun z_25 g9 H locs hw G => ?_)
                obtain ⟨hg9, h_26⟩ := hw
                replace hg9 := hg9.symm
                subst hg9
                rw [h_24] at h_26
                have hgp : 1 ≤ gu (m9 - 1 - k) := gu_pos _
                have hqz : z_25 = sc / gu (m9 - 1 - k) := by rw [h_26]; exact tdiv_pos (by omega)
                have hq0 : 0 ≤ z_25 := by rw [hqz]; exact Int.ediv_nonneg (by omega) (by omega)
                have hq1 : z_25 ≤ sc := by rw [hqz]; exact Int.ediv_le_self _ (by omega)
                refine lv_lstore (lv' := [(5, .long (jz z_25)), (0, .ref (ad 0)), (1, .int (iz m9)), (2, .long (jz sc)), (4, .int (iz k))]) C.1.1 C.1.2.1 dX7_runScript_80 hl (by decide) rfl (fun ls hl => ?_)
                have C0 := C
                refine g_new C G (n := n) (fs := [.int (iz 0), .int (iz 0), .int (iz 0), .int (iz 0), .int (iz 0)]) (ty := tyX1) (rfl : vwCl[1]? = some (RX1, TX1, 5)) nwX7_runScript_1 tyX1_ok (by decide +kernel : Cond.classLink RX7 304 RX1 ∈ wsX7_runScript) (by decide +kernel : Cond.instantiable RX1 5 ∈ wsX7_runScript) (by decide +kernel : Cond.initialized RX1 ∈ wsX7_runScript) (fun j hj => by rcases j with _ | _ | _ | _ | _ | j <;> first | rfl | omega) (by show k.toNat + 1 ≤ 3; omega) (by show k.toNat * 5 + 5 ≤ 15; omega) dX7_runScript_82 (fun (ad_27 : Nat → Nat) H hE_28 C G => ?_)
                obtain ⟨g_29, hg_30⟩ : ∃ g9, g9 = va_up gv n (.inr (1, [.int (iz 0), .int (iz 0), .int (iz 0), .int (iz 0), .int (iz 0)])) := ⟨_, rfl⟩
                rw [← hg_30] at G
                rw [← hE_28 0 (by omega)] at hl
                have hc_31 : g_29 0 = .inr (7, [.ref (ad_27 1), .int (iz tl), .ref (ad_27 2), .ref (ad_27 12), .ref (ad_27 22), .ref (ad_27 164), .ref (ad_27 165), .ref (ad_27 186)]) := by have q9 := hc0; rw [← hE_28 1 (by omega), ← hE_28 2 (by omega), ← hE_28 12 (by omega), ← hE_28 22 (by omega), ← hE_28 164 (by omega), ← hE_28 165 (by omega), ← hE_28 186 (by omega)] at q9; rw [hg_30, gu_ne (by omega)]; exact q9
                have hc_32 : g_29 n = .inr (1, [.int (iz 0), .int (iz 0), .int (iz 0), .int (iz 0), .int (iz 0)]) := by rw [hg_30]; exact gu_self _ _ _
                have hpl_33 : isPl κ ad_27 g_29 2 nl v := hpl9.grow (fun k hk => hE_28 k (by omega)) (fun q q0 q1 => by rw [hg_30]; exact gu_ne (by omega))
                have hpl_34 : isPl κ ad_27 g_29 12 ns9 V9 := hp12.grow (fun k hk => hE_28 k (by omega)) (fun q q0 q1 => by rw [hg_30]; exact gu_ne (by omega))
                have hbn_35 : isBn κ ad_27 g_29 186 := hb9.grow (fun k hk => hE_28 k (by omega)) (fun q q0 q1 => by rw [hg_30]; exact gu_ne (by omega))
                refine lv_dup C.1.1 C.1.2.1 dX7_runScript_85 rfl ?_
                refine g_lload C dX7_runScript_86 hl 0 rfl ?_
                refine g_ldc2 (a := 100000) C (by decide +kernel) dX7_runScript_88 ?_
                refine g_lrem C (by omega) (by decide) (by decide) dX7_runScript_91 ?_
                have hge : Int.tmod z_25 100000 = (scG m9 sc k) := by rw [tmod_pos (by omega), hqz]; rfl
                rw [hge]
                have hgi : 0 ≤ (scG m9 sc k) ∧ (scG m9 sc k) < 100000 := scG_rg
                refine g_l2i C dX7_runScript_92 ?_
                refine g_cv C G (g_runI (As := [.int (iz (scG m9 sc k))]) (rest := [.ref (ad_27 n)]) (pos := n) C G (c_X1_init l κ B (n + 1) ad_27 g_29 n (scG m9 sc k) (by omega) (by omega) hgi) (cwI 1 C.1.2.2.2.2 gX7_runScript_X1_init rfl rfl rfl (C.1.2.2.2.2 _ (by decide +kernel : Cond.initialized RX1 ∈ wsX7_runScript)) (C.1.2.2.2.2 _ (by decide +kernel : Cond.methodLink RX7 308 yX1_init ∈ wsX7_runScript)) (C.1.2.2.2.2 _ (by decide +kernel : Cond.instanceMethod yX1_init ∈ wsX7_runScript)) rfl (by decide +kernel) ⟨Nat.le_of_ble_eq_true rfl, Nat.le_of_ble_eq_true rfl⟩) rfl hl rfl (Nat.le_of_ble_eq_true rfl) dX7_runScript_93 ⟨by show k.toNat + 1 ≤ 3; omega, by show k.toNat * 5 + 5 ≤ 15; omega⟩) (fun g9 H locs hw G => ?_)
                subst hw
                obtain ⟨g_36, hg_37⟩ : ∃ g9, g9 = va_up g_29 n (.inr (1, [.int (iz ((scG m9 sc k) / 10000 % 10)), .int (iz ((scG m9 sc k) / 1000 % 10)), .int (iz ((scG m9 sc k) / 100 % 10)), .int (iz ((scG m9 sc k) / 10 % 10)), .int (iz ((scG m9 sc k) % 10))])) := ⟨_, rfl⟩
                rw [← hg_37] at G
                have hc_38 : g_36 0 = .inr (7, [.ref (ad_27 1), .int (iz tl), .ref (ad_27 2), .ref (ad_27 12), .ref (ad_27 22), .ref (ad_27 164), .ref (ad_27 165), .ref (ad_27 186)]) := by rw [hg_37, gu_ne (by omega)]; exact hc_31
                have hc_39 : g_36 n = .inr (1, [.int (iz ((scG m9 sc k) / 10000 % 10)), .int (iz ((scG m9 sc k) / 1000 % 10)), .int (iz ((scG m9 sc k) / 100 % 10)), .int (iz ((scG m9 sc k) / 10 % 10)), .int (iz ((scG m9 sc k) % 10))]) := by rw [hg_37]; exact gu_self _ _ _
                have hpl_40 : isPl κ ad_27 g_36 2 nl v := by rw [hg_37]; exact hpl_33.out (by omega)
                have hpl_41 : isPl κ ad_27 g_36 12 ns9 V9 := by rw [hg_37]; exact hpl_34.out (by omega)
                have hbn_42 : isBn κ ad_27 g_36 186 := hbn_35.far (fun q q0 q1 => by rw [hg_37]; exact gu_ne (by omega))
                refine g_aload_n C dX7_runScript_96 rfl hl 1 rfl ?_
                refine g_get C G (pos := 0) fX7_runScript_20 (by omega) hc_38 rfl dX7_runScript_97 ?_
                refine g_aload_n C dX7_runScript_100 rfl hl 1 rfl ?_
                refine g_get C G (pos := 0) fX7_runScript_41 (by omega) hc_38 rfl dX7_runScript_101 ?_
                refine g_ci C G (g_runV (As := [.ref (ad_27 12), .ref (ad_27 186)]) (rest := []) (pos := n) C G (c_X1_succeeds l κ B (n + 1) ad_27 g_36 n ((scG m9 sc k) / 10000 % 10) ((scG m9 sc k) / 1000 % 10) ((scG m9 sc k) / 100 % 10) ((scG m9 sc k) / 10 % 10) ((scG m9 sc k) % 10) 12 ns9 V9 186 (by omega) hc_39 (by omega) (by omega) hpl_41 hok9 (by omega) hbn_42 (by omega) (by omega) (by omega) hin9) (cwV 2 C.1.2.2.2.2 gX7_runScript_X1_succeeds rfl rfl rfl (by decide +kernel) ⟨Nat.le_of_ble_eq_true rfl, Nat.le_of_ble_eq_true rfl⟩) (by omega) hc_39 (T := TX1) (N := 5) rfl rfl hl rfl (Nat.le_of_ble_eq_true rfl) dX7_runScript_104 ⟨by show k.toNat + 1 ≤ 3; omega, by show k.toNat * 5 + 5 ≤ 15; omega⟩) (fun z_43 g_44 H locs hw9 G => ?_)
                obtain ⟨h_45c, h_45b, h_45f⟩ := hw9
                replace G := (⟨gP.cut G.1 (by omega) hE_28, G.2⟩ : gG κ B n ad s g_44 H _)
                replace C := C0
                rw [hE_28 0 (by omega)] at hl
                have h_45g : ∀ q, q < n → (q < 12 ∨ 22 ≤ q) → (q < 186 ∨ 192 ≤ q) → g_44 q = gv q := fun q q0 q1 q2 => (h_45f q (by omega) (by omega)).trans (by rw [hg_37, gu_ne (by omega), hg_30, gu_ne (by omega)])
                have h_45k : isBn κ ad g_44 186 := h_45b.grow (fun k hk => (hE_28 k (by omega)).symm) (fun q q0 q1 => rfl)
                rcases h_45c with ⟨b_46, rfl, h_45p⟩ | ⟨b_46, rfl, h_45p⟩
                · replace h_45p := h_45p.grow (a9 := ad) (g' := g_44) (fun k hk => (hE_28 k (by omega)).symm) (fun q q0 q1 => rfl)
                  have hc_47 : g_44 0 = .inr (7, [.ref (ad 1), .int (iz tl), .ref (ad 2), .ref (ad 12), .ref (ad 22), .ref (ad 164), .ref (ad 165), .ref (ad 186)]) := (h_45g 0 (by omega) (by omega) (by omega)).trans hc0
                  refine g_if_ne (tgt := 113) C (by decide) dX7_runScript_107 (by decide) (fun _ => ?_) (fun c9 => absurd c9 (by decide))
                  refine lv_iinc (v := iz (k + 1)) (lv' := [(4, .int (iz (k + 1))), (5, .long (jz z_25)), (0, .ref (ad 0)), (1, .int (iz m9)), (2, .long (jz sc))]) C.1.1 C.1.2.1 dX7_runScript_113 hl (k := 4) rfl (g_inc (by omega)) (by decide) rfl (fun ls hl => ?_)
                  refine g_goto (tgt := 61) C dX7_runScript_116 (by decide) ?_
                  refine W.widen (k := (k + 1).toNat) (n := (k + 1).toNat * 5) (by show k.toNat + 1 ≤ (k + 1).toNat; omega) (by show k.toNat * 5 + 5 ≤ (k + 1).toNat * 5; omega) ?_
                  exact ih_lp_61_n_21 (k + 1) ((cmQ (scG m9 sc k) ns9 V9).1) ((cmQ (scG m9 sc k) ns9 V9).2) g_44 (by omega) (by omega) h_45p h_45k (fun q q0 q1 q2 => (h_45g q q0 q1 q2).trans (hfr q q0 q1 q2)) (cmQ_ok hok9 hin9 hgi b_46).1 (cmQ_ok hok9 hin9 hgi b_46).2 ((rsF_yes (by omega) (by omega) b_46).symm.trans hR) _ _ G _ (lv_sub hl [2, 3, 4, 0] rfl)
                · replace h_45p := h_45p.grow (a9 := ad) (g' := g_44) (fun k hk => (hE_28 k (by omega)).symm) (fun q q0 q1 => rfl)
                  have hc_48 : g_44 0 = .inr (7, [.ref (ad 1), .int (iz tl), .ref (ad 2), .ref (ad 12), .ref (ad 22), .ref (ad 164), .ref (ad 165), .ref (ad 186)]) := (h_45g 0 (by omega) (by omega) (by omega)).trans hc0
                  refine g_if_ne (tgt := 113) C (by decide) dX7_runScript_107 (by decide) (fun c9 => absurd c9 (by decide)) (fun _ => ?_)
                  refine g_iload C dX7_runScript_110 hl 4 rfl ?_
                  refine vx_ret ?_
                  refine g_iret C G hr hlk (by show k.toNat + 1 ≤ 3; omega) (by show k.toNat * 5 + 5 ≤ 15; omega) dX7_runScript_112 ?_
                  exact ⟨by omega, v_15, hx_14.1, hx_14.2, (rsF_no (by omega) (by omega) b_46).symm.trans hR, ns9, V9, h_45p, hin9, h_45k, fun q q0 q1 q2 => (h_45g q q0 q1 q2).trans (hfr q q0 q1 q2)⟩
          exact lp_61_n_21 _ 0 nl v_15 g_11 (Nat.lt_succ_self _) (by omega) hpl_12 hbn_19 (fun q q0 q1 q2 => hfr_13 q (by omega)) (hok.sim hx_14.1.symm) hx_14.2 rfl _ _ G _ (lv_sub hl [1, 2, 3, 0] rfl)
        · refine g_throwW C G X hlf hlk hnt hl (cls := "java/lang/IllegalArgumentException") (text := "script is negative or too long") (ik := 45) (is := 299) (ic := 49) (by decide +kernel) (by decide +kernel : Cond.classLink RX7 45 _ ∈ wsX7_runScript) (by decide +kernel : Cond.initialized _ ∈ wsX7_runScript) (by decide +kernel) (by decide +kernel) (by decide +kernel) at_iae (by decide +kernel) dX7_runScript_36 dX7_runScript_39 dX7_runScript_40 dX7_runScript_43 dX7_runScript_46 (Nat.le_of_ble_eq_true rfl) (Nat.le_of_ble_eq_true rfl) (Nat.le_of_ble_eq_true rfl) (Nat.le_of_ble_eq_true rfl) (Nat.le_of_ble_eq_true rfl) (Nat.le_of_ble_eq_true rfl) ?_
          exact ⟨rfl, by omega, rfl⟩
    · refine g_throwW C G X hlf hlk hnt hl (cls := "java/lang/IllegalArgumentException") (text := "n is not 1 to 3") (ik := 45) (is := 293) (ic := 49) (by decide +kernel) (by decide +kernel : Cond.classLink RX7 45 _ ∈ wsX7_runScript) (by decide +kernel : Cond.initialized _ ∈ wsX7_runScript) (by decide +kernel) (by decide +kernel) (by decide +kernel) at_iae (by decide +kernel) dX7_runScript_10 dX7_runScript_13 dX7_runScript_14 dX7_runScript_17 dX7_runScript_20 (Nat.le_of_ble_eq_true rfl) (Nat.le_of_ble_eq_true rfl) (Nat.le_of_ble_eq_true rfl) (Nat.le_of_ble_eq_true rfl) (Nat.le_of_ble_eq_true rfl) (Nat.le_of_ble_eq_true rfl) ?_
      exact ⟨rfl, by omega, rfl⟩
