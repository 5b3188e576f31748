set_option maxHeartbeats 4000000 in
set_option maxRecDepth 100000 in
theorem c_J13_bitCount_95d88 (l : Launch) (κ : gKap) (B n : Nat) (ad : Nat → Nat) (g : Nat → va_E) (x : Nat) (hx : x < 2 ^ 64) : Met l yJ13_bitCount_95d88 wsJ13_bitCount_95d88 ({ frames := 0, cells := 0, slots := 0, locals := 0 }) (gPre κ B n ad g [.long (lN x)]) (gQi κ B n ad (fun z g' => g' = g ∧ (z = (fb_ct (fun k => x.testBit k) 64 : Int)))) 0 0 (gFree B) := by
  refine g_met RJ13 (cc := cJ13_bitCount_95d88) (maxL := 2) (ret := (some .int)) (by decide) rfl rfl (Nat.le_of_ble_eq_true rfl) ?_
  intro p e s m args below meth c C hr hlk hnm G ls hl
  have hl : lv_has ls 2 [(0, .long (lN x))] := hl
  refine g_lload_n C dJ13_bitCount_95d88_0 rfl hl 0 rfl ?_
  refine g_lload_n C dJ13_bitCount_95d88_1 rfl hl 0 rfl ?_
  refine g_iconst (a := 1) C dJ13_bitCount_95d88_2 rfl ?_
  refine g_lushrN C 1 (by decide) (by decide) (by omega) dJ13_bitCount_95d88_3 ?_
  refine g_ldc2N (a := 6148914691236517205) C (by decide +kernel) dJ13_bitCount_95d88_4 ?_
  refine g_landN C dJ13_bitCount_95d88_7 ?_
  refine g_lsubN C (by exact Nat.le_trans Nat.and_le_left (Nat.div_le_self _ _)) dJ13_bitCount_95d88_8 ?_
  obtain ⟨y1, hy1⟩ : ∃ y9 : Nat, y9 = x - ((x / 2 ^ 1) &&& 6148914691236517205) := ⟨_, rfl⟩
  rw [← hy1]
  have ly1 : y1 ≤ x := by rw [hy1]; exact Nat.sub_le _ _
  refine lv_lstore_n (lv' := [(0, .long (lN y1))]) C.1.1 C.1.2.1 dJ13_bitCount_95d88_9 rfl hl (by decide) rfl (fun ls hl => ?_)
  refine g_lload_n C dJ13_bitCount_95d88_10 rfl hl 0 rfl ?_
  refine g_ldc2N (a := 3689348814741910323) C (by decide +kernel) dJ13_bitCount_95d88_11 ?_
  refine g_landN C dJ13_bitCount_95d88_14 ?_
  refine g_lload_n C dJ13_bitCount_95d88_15 rfl hl 0 rfl ?_
  refine g_iconst (a := 2) C dJ13_bitCount_95d88_16 rfl ?_
  refine g_lushrN C 2 (by decide) (by decide) (by omega) dJ13_bitCount_95d88_17 ?_
  refine g_ldc2N (a := 3689348814741910323) C (by decide +kernel) dJ13_bitCount_95d88_18 ?_
  refine g_landN C dJ13_bitCount_95d88_21 ?_
  refine g_laddN C dJ13_bitCount_95d88_22 ?_
  obtain ⟨y2, hy2⟩ : ∃ y9 : Nat, y9 = (y1 &&& 3689348814741910323) + ((y1 / 2 ^ 2) &&& 3689348814741910323) := ⟨_, rfl⟩
  rw [← hy2]
  have ly2 : y2 ≤ 3689348814741910323 + 3689348814741910323 := by rw [hy2]; exact Nat.add_le_add Nat.and_le_right Nat.and_le_right
  refine lv_lstore_n (lv' := [(0, .long (lN y2))]) C.1.1 C.1.2.1 dJ13_bitCount_95d88_23 rfl hl (by decide) rfl (fun ls hl => ?_)
  refine g_lload_n C dJ13_bitCount_95d88_24 rfl hl 0 rfl ?_
  refine g_lload_n C dJ13_bitCount_95d88_25 rfl hl 0 rfl ?_
  refine g_iconst (a := 4) C dJ13_bitCount_95d88_26 rfl ?_
  refine g_lushrN C 4 (by decide) (by decide) (by omega) dJ13_bitCount_95d88_27 ?_
  refine g_laddN C dJ13_bitCount_95d88_28 ?_
  refine g_ldc2N (a := 1085102592571150095) C (by decide +kernel) dJ13_bitCount_95d88_29 ?_
  refine g_landN C dJ13_bitCount_95d88_32 ?_
  obtain ⟨y3, hy3⟩ : ∃ y9 : Nat, y9 = (y2 + (y2 / 2 ^ 4)) &&& 1085102592571150095 := ⟨_, rfl⟩
  rw [← hy3]
  have ly3 : y3 = t39 x 8 := by rw [hy3, hy2, hy1]; unfold t39 c29; rw [mk9_85, mk9_51, mk9_15]; rfl
  obtain ⟨p0, p1, p2, p3, p4, p5, p6, p7, q0, q1, q2, q3, q4, q5, q6, q7, ht, hf⟩ := bits_64 hx
  rw [← ly3] at ht
  refine lv_lstore_n (lv' := [(0, .long (lN y3))]) C.1.1 C.1.2.1 dJ13_bitCount_95d88_33 rfl hl (by decide) rfl (fun ls hl => ?_)
  refine g_lload_n C dJ13_bitCount_95d88_34 rfl hl 0 rfl ?_
  refine g_lload_n C dJ13_bitCount_95d88_35 rfl hl 0 rfl ?_
  refine g_bipush (a := 8) C dJ13_bitCount_95d88_36 (by decide) ?_
  refine g_lushrN C 8 (by decide) (by decide) (by omega) dJ13_bitCount_95d88_38 ?_
  refine g_laddN C dJ13_bitCount_95d88_39 ?_
  obtain ⟨y4, hy4⟩ : ∃ y9 : Nat, y9 = y3 + (y3 / 2 ^ 8) := ⟨_, rfl⟩
  rw [← hy4]
  refine lv_lstore_n (lv' := [(0, .long (lN y4))]) C.1.1 C.1.2.1 dJ13_bitCount_95d88_40 rfl hl (by decide) rfl (fun ls hl => ?_)
  refine g_lload_n C dJ13_bitCount_95d88_41 rfl hl 0 rfl ?_
  refine g_lload_n C dJ13_bitCount_95d88_42 rfl hl 0 rfl ?_
  refine g_bipush (a := 16) C dJ13_bitCount_95d88_43 (by decide) ?_
  refine g_lushrN C 16 (by decide) (by decide) (by omega) dJ13_bitCount_95d88_45 ?_
  refine g_laddN C dJ13_bitCount_95d88_46 ?_
  obtain ⟨y5, hy5⟩ : ∃ y9 : Nat, y9 = y4 + (y4 / 2 ^ 16) := ⟨_, rfl⟩
  rw [← hy5]
  refine lv_lstore_n (lv' := [(0, .long (lN y5))]) C.1.1 C.1.2.1 dJ13_bitCount_95d88_47 rfl hl (by decide) rfl (fun ls hl => ?_)
  refine g_lload_n C dJ13_bitCount_95d88_48 rfl hl 0 rfl ?_
  refine g_lload_n C dJ13_bitCount_95d88_49 rfl hl 0 rfl ?_
  refine g_bipush (a := 32) C dJ13_bitCount_95d88_50 (by decide) ?_
  refine g_lushrN C 32 (by decide) (by decide) (by omega) dJ13_bitCount_95d88_52 ?_
  refine g_laddN C dJ13_bitCount_95d88_53 ?_
  obtain ⟨y6, hy6⟩ : ∃ y9 : Nat, y9 = y5 + (y5 / 2 ^ 32) := ⟨_, rfl⟩
  rw [← hy6]
  refine lv_lstore_n (lv' := [(0, .long (lN y6))]) C.1.1 C.1.2.1 dJ13_bitCount_95d88_54 rfl hl (by decide) rfl (fun ls hl => ?_)
  refine g_lload_n C dJ13_bitCount_95d88_55 rfl hl 0 rfl ?_
  refine g_l2iN C dJ13_bitCount_95d88_56 ?_
  refine g_bipush (a := 127) C dJ13_bitCount_95d88_57 (by decide) ?_
  refine g_iandN (b := 127) C dJ13_bitCount_95d88_59 ?_
  refine g_iret C G hr hlk (Nat.le_of_ble_eq_true rfl) (Nat.le_of_ble_eq_true rfl) dJ13_bitCount_95d88_60 ?_
  refine ⟨rfl, ?_⟩
  rw [show (y6 &&& 127 : Nat) = y6 % 128 from Nat.and_two_pow_sub_one_eq_mod y6 7, hf, bc_sum q0 q1 q2 q3 q4 q5 q6 q7 ht hy4 hy5 hy6]
theorem fX5_clear_11 : gFld wsX5_clear RX5 11 5 0 := ⟨RX5, TX5, 1, rfl, by decide, by decide +kernel, by decide +kernel⟩
set_option maxHeartbeats 4000000 in
set_option maxRecDepth 100000 in
theorem c_X5_clear (l : Launch) (κ : gKap) (B n : Nat) (ad : Nat → Nat) (g : Nat → va_E) (po : Nat) (W9 : Int → Nat) (hp : po + 1 < n) (he : g po = .inr (5, [.ref (ad (po + 1))])) (hw : g (po + 1) = aW κ 602 W9) : Met l yX5_clear wsX5_clear ({ frames := 0, cells := 0, slots := 0, locals := 0 }) (gPre κ B n ad g [.ref (ad po)]) (gQv κ B n ad (fun g' => ∃ V9, g' = va_up g (po + 1) (aW κ 602 V9) ∧ ∀ i, 0 ≤ i → i < 602 → V9 i = 0)) 0 0 (gFree B) := by
  refine g_met RX5 (cc := cX5_clear) (maxL := 2) (ret := none) (by decide) rfl rfl (Nat.le_of_ble_eq_true rfl) ?_
  intro p e s m args below meth c C hr hlk hnm G ls hl
  have hl : lv_has ls 2 [(0, .ref (ad po))] := hl
  refine g_iconst (a := 0) C dX5_clear_0 rfl ?_
  refine lv_istore_n (lv' := [(1, .int (iz 0)), (0, .ref (ad po))]) C.1.1 C.1.2.1 dX5_clear_1 rfl hl (by decide) rfl (fun ls hl => ?_)
  have lp_2_n_2 : ∀ (k_1 : Nat) (k : Int) (V9 : Int → Nat) (gv : Nat → va_E), (602 - k).toNat < k_1 → (0 ≤ k) → (k ≤ 602) → (gv = va_up g (po + 1) (aW κ 602 V9)) → (∀ i, 0 ≤ i → i < k → V9 i = 0) → ∀ (H : Heap) (locs : List Loc), gG κ B n ad s gv H locs → ∀ (ls : Array Slot), lv_has ls 2 [(0, .ref (ad po)), (1, .int (iz k))] → W p l e ({ frames := 0, cells := 0, slots := 0, locals := 0 }) s m args below meth c H locs 0 0 (MQ below (gQv κ B n ad (fun g' => ∃ V9, g' = va_up g (po + 1) (aW κ 602 V9) ∧ ∀ i, 0 ≤ i → i < 602 → V9 i = 0)) args s 0 0 (gFree B)) (F0 m 2 ls []) := by
    intro k_1
    induction k_1 with
    | zero => intro k V9 gv hm; exact absurd hm (Nat.not_lt_zero _)
    | succ k_1 ih_lp_2_n_2 =>
      intro k V9 gv hm hk0 hk1 hgv hz H locs G ls hl
      have he9 : gv po = .inr (5, [.ref (ad (po + 1))]) := by rw [hgv, gu_ne (by omega)]; exact he
      have hw9 : gv (po + 1) = aW κ 602 V9 := by rw [hgv]; exact gu_self _ _ _
      refine g_iload_n C dX5_clear_2 rfl hl 1 rfl ?_
      refine g_aload_n C dX5_clear_3 rfl hl 0 rfl ?_
      refine g_get C G (pos := po) fX5_clear_11 (by omega) he9 rfl dX5_clear_4 ?_
      refine g_alenJ C G (pos := po + 1) (by omega) hw9 dX5_clear_7 ?_
      show W p l e _ s m args below meth c _ _ _ _ _ (F0 m _ ls (.int (iz 602) :: _))
      refine g_icmp_ge (tgt := 24) C (by omega) (by decide) dX5_clear_8 (by decide) (fun c_3 => ?_) (fun c_3 => ?_)
      · refine g_vret C G hr hlk (Nat.le_of_ble_eq_true rfl) (Nat.le_of_ble_eq_true rfl) dX5_clear_24 ?_
        exact ⟨V9, hgv, fun i i0 i1 => hz i i0 (by omega)⟩
      · refine g_aload_n C dX5_clear_11 rfl hl 0 rfl ?_
        refine g_get C G (pos := po) fX5_clear_11 (by omega) he9 rfl dX5_clear_12 ?_
        refine g_iload_n C dX5_clear_15 rfl hl 1 rfl ?_
        refine g_lconstN (a := 0) C dX5_clear_16 rfl ?_
        refine g_lastoreN C G (pos := po + 1) (by omega) hw9 (by omega) (by omega) (by omega) dX5_clear_17 (fun H locs G => ?_)
        obtain ⟨g_4, hg_5⟩ : ∃ g9, g9 = va_up gv (po + 1) (aW κ 602 (vuN V9 k 0)) := ⟨_, rfl⟩
        rw [← hg_5] at G
        have hc_6 : g_4 po = .inr (5, [.ref (ad (po + 1))]) := by rw [hg_5, gu_ne (by omega)]; exact he9
        have hc_7 : g_4 (po + 1) = aW κ 602 (vuN V9 k 0) := by rw [hg_5]; exact gu_self _ _ _
        refine lv_iinc (v := iz (k + 1)) (lv' := [(1, .int (iz (k + 1))), (0, .ref (ad po))]) C.1.1 C.1.2.1 dX5_clear_18 hl (k := 1) rfl (g_inc (by omega)) (by decide) rfl (fun ls hl => ?_)
        refine g_goto (tgt := 2) C dX5_clear_21 (by decide) ?_
        exact ih_lp_2_n_2 (k + 1) (vuN V9 k 0) g_4 (by omega) (by omega) (by omega) (by rw [hg_5, hgv, gu_up]) (fun i i0 i1 => by
            by_cases hi : i = k <;> simp only [vuN, hi, if_true, if_false]
            exact hz i i0 (by omega)) _ _ G _ (lv_sub hl [1, 0] rfl)
  exact lp_2_n_2 _ 0 W9 g (Nat.lt_succ_self _) (by omega) (by omega) (by funext q; by_cases hq : q = po + 1 <;> simp [va_up, hq, hw]) (fun i i0 i1 => absurd i1 (by omega)) _ _ G _ (lv_sub hl [1, 0] rfl)
theorem fX5_cut_11 : gFld wsX5_cut RX5 11 5 0 := ⟨RX5, TX5, 1, rfl, by decide, by decide +kernel, by decide +kernel⟩
set_option maxHeartbeats 4000000 in
set_option maxRecDepth 100000 in
theorem c_X5_cut (l : Launch) (κ : gKap) (B n : Nat) (ad : Nat → Nat) (g : Nat → va_E) (po : Nat) (W9 : Int → Nat) (a : Int) (r : Int) (hp : po + 1 < n) (he : g po = .inr (5, [.ref (ad (po + 1))])) (hw : g (po + 1) = aW κ 602 W9) (ha : 0 ≤ a ∧ a < 96) (hr : 0 ≤ r ∧ r ≤ 300) : Met l yX5_cut wsX5_cut ({ frames := 0, cells := 0, slots := 0, locals := 0 }) (gPre κ B n ad g [.ref (ad po), .int (iz a), .int (iz r)]) (gQv κ B n ad (fun g' => ∃ V9, g' = va_up g (po + 1) (aW κ 602 V9) ∧ V9 = vuN W9 (2 * r + a / 64) (W9 (2 * r + a / 64) ||| 2 ^ (a % 64).toNat))) 0 0 (gFree B) := by
  refine g_met RX5 (cc := cX5_cut) (maxL := 4) (ret := none) (by decide) rfl rfl (Nat.le_of_ble_eq_true rfl) ?_
  intro p e s m args below meth c C hr hlk hnm G ls hl
  have hl : lv_has ls 4 [(0, .ref (ad po)), (1, .int (iz a)), (2, .int (iz r))] := hl
  refine g_iconst (a := 2) C dX5_cut_0 rfl ?_
  refine g_iload_n C dX5_cut_1 rfl hl 2 rfl ?_
  refine g_imul C dX5_cut_2 ?_
  refine g_iload_n C dX5_cut_3 rfl hl 1 rfl ?_
  refine g_bipush (a := 64) C dX5_cut_4 (by decide) ?_
  refine g_idiv C (by omega) (by decide) (by decide) dX5_cut_6 ?_
  rw [show Int.tdiv a 64 = a / 64 from tdiv_pos (by omega)]
  refine g_iadd C dX5_cut_7 ?_
  refine lv_istore_n (lv' := [(3, .int (iz ((2 * r) + (a / 64)))), (0, .ref (ad po)), (1, .int (iz a)), (2, .int (iz r))]) C.1.1 C.1.2.1 dX5_cut_8 rfl hl (by decide) rfl (fun ls hl => ?_)
  refine g_iload_n C dX5_cut_9 rfl hl 2 rfl ?_
  refine g_if_lt (tgt := 47) C (by omega) dX5_cut_10 (by decide) (fun c_1 => ?_) (fun c_1 => ?_)
  · refine g_vret C G hr hlk (Nat.le_of_ble_eq_true rfl) (Nat.le_of_ble_eq_true rfl) dX5_cut_47 ?_
    omega
  · refine g_iload_n C dX5_cut_13 rfl hl 2 rfl ?_
    refine g_bipush (a := 96) C dX5_cut_14 (by decide) ?_
    refine g_icmp_ge (tgt := 47) C (by omega) (by decide) dX5_cut_16 (by decide) (fun c_2 => ?_) (fun c_2 => ?_)
    · refine g_vret C G hr hlk (Nat.le_of_ble_eq_true rfl) (Nat.le_of_ble_eq_true rfl) dX5_cut_47 ?_
      omega
    · refine g_iload_n C dX5_cut_19 rfl hl 0 rfl ?_
      refine g_if_lt (tgt := 47) C (by omega) dX5_cut_20 (by decide) (fun c_3 => ?_) (fun c_3 => ?_)
      · refine g_vret C G hr hlk (Nat.le_of_ble_eq_true rfl) (Nat.le_of_ble_eq_true rfl) dX5_cut_47 ?_
        omega
      · refine g_iload_n C dX5_cut_23 rfl hl 0 rfl ?_
        refine g_aload_n C dX5_cut_24 rfl hl 1 rfl ?_
        refine g_get C G (pos := po) fX5_cut_11 (by omega) he rfl dX5_cut_25 ?_
        refine g_alenJ C G (pos := po + 1) (by omega) hw dX5_cut_28 ?_
        show W p l e _ s m args below meth c _ _ _ _ _ (F0 m _ ls (.int (iz 602) :: _))
        refine g_icmp_ge (tgt := 47) C (by omega) (by decide) dX5_cut_29 (by decide) (fun c_4 => ?_) (fun c_4 => ?_)
        · refine g_vret C G hr hlk (Nat.le_of_ble_eq_true rfl) (Nat.le_of_ble_eq_true rfl) dX5_cut_47 ?_
          omega
        · refine g_aload_n C dX5_cut_32 rfl hl 1 rfl ?_
          refine g_get C G (pos := po) fX5_cut_11 (by omega) he rfl dX5_cut_33 ?_
          refine g_iload_n C dX5_cut_36 rfl hl 0 rfl ?_
          refine lv_dup2_11 C.1.1 C.1.2.1 dX5_cut_37 rfl rfl ?_
          refine g_laload C G (pos := po + 1) (by omega) hw (by omega) (by omega) (by omega) dX5_cut_38 ?_
          refine g_lconstN (a := 1) C dX5_cut_39 rfl ?_
          refine g_iload_n C dX5_cut_40 rfl hl 2 rfl ?_
          refine g_bipush (a := 64) C dX5_cut_41 (by decide) ?_
          refine g_irem C (by omega) (by decide) (by decide) dX5_cut_43 ?_
          rw [show Int.tmod a 64 = a % 64 from tmod_pos (by omega)]
          refine g_lshl1 C (by omega) (by omega) dX5_cut_44 ?_
          refine g_lorN C dX5_cut_45 ?_
          refine g_lastoreN C G (pos := po + 1) (by omega) hw (by omega) (by omega) (by omega) dX5_cut_46 (fun H locs G => ?_)
          obtain ⟨g_5, hg_6⟩ : ∃ g9, g9 = va_up g (po + 1) (aW κ 602 (vuN W9 ((2 * r) + (a / 64)) ((W9 ((2 * r) + (a / 64))) ||| (2 ^ (a % 64).toNat)))) := ⟨_, rfl⟩
          rw [← hg_6] at G
          have hc_7 : g_5 po = .inr (5, [.ref (ad (po + 1))]) := by rw [hg_6, gu_ne (by omega)]; exact he
          have hc_8 : g_5 (po + 1) = aW κ 602 (vuN W9 ((2 * r) + (a / 64)) ((W9 ((2 * r) + (a / 64))) ||| (2 ^ (a % 64).toNat))) := by rw [hg_6]; exact gu_self _ _ _
          refine g_vret C G hr hlk (Nat.le_of_ble_eq_true rfl) (Nat.le_of_ble_eq_true rfl) dX5_cut_47 ?_
          exact ⟨_, hg_6, rfl⟩
theorem fX5_size_11 : gFld wsX5_size RX5 11 5 0 := ⟨RX5, TX5, 1, rfl, by decide, by decide +kernel, by decide +kernel⟩
set_option maxHeartbeats 4000000 in
set_option maxRecDepth 100000 in
theorem c_X5_size (l : Launch) (κ : gKap) (B n : Nat) (ad : Nat → Nat) (g : Nat → va_E) (po : Nat) (W9 : Int → Nat) (hp : po + 1 < n) (he : g po = .inr (5, [.ref (ad (po + 1))])) (hw : g (po + 1) = aW κ 602 W9) (hb : ∀ i, 0 ≤ i → i < 602 → W9 i < 2 ^ 64) : Met l yX5_size wsX5_size ({ frames := 1, cells := 0, slots := 0, locals := 21 }) (gPre κ B n ad g [.ref (ad po)]) (gQi κ B n ad (fun z g' => g' = g ∧ (z = (fb_sm (fun j => fb_ct (fun b => (W9 (j : Int)).testBit b) 64) 602 : Int) ∧ 0 ≤ z ∧ z ≤ 38528))) 0 0 (gFree B) := by
  refine g_met RX5 (cc := cX5_size) (maxL := 3) (ret := (some .int)) (by decide) rfl rfl (Nat.le_of_ble_eq_true rfl) ?_
  intro p e s m args below meth c C hr hlk hnm G ls hl
  have hl : lv_has ls 3 [(0, .ref (ad po))] := hl
  refine g_iconst (a := 0) C dX5_size_0 rfl ?_
  refine lv_istore_n (lv' := [(1, .int (iz 0)), (0, .ref (ad po))]) C.1.1 C.1.2.1 dX5_size_1 rfl hl (by decide) rfl (fun ls hl => ?_)
  refine g_iconst (a := 0) C dX5_size_2 rfl ?_
  refine lv_istore_n (lv' := [(2, .int (iz 0)), (1, .int (iz 0)), (0, .ref (ad po))]) C.1.1 C.1.2.1 dX5_size_3 rfl hl (by decide) rfl (fun ls hl => ?_)
  have lp_4_n_2 : ∀ (k_1 : Nat) (num : Int) (k : Int), (602 - k).toNat < k_1 → (0 ≤ k) → (k ≤ 602) → (0 ≤ num ∧ num ≤ 64 * k) → (num = (fb_sm (fun j => fb_ct (fun b => (W9 (j : Int)).testBit b) 64) k.toNat : Int)) → ∀ (H : Heap) (locs : List Loc), gG κ B n ad s g H locs → ∀ (ls : Array Slot), lv_has ls 3 [(0, .ref (ad po)), (1, .int (iz num)), (2, .int (iz k))] → W p l e ({ frames := 1, cells := 0, slots := 0, locals := 21 }) s m args below meth c H locs 0 0 (MQ below (gQi κ B n ad (fun z g' => g' = g ∧ (z = (fb_sm (fun j => fb_ct (fun b => (W9 (j : Int)).testBit b) 64) 602 : Int) ∧ 0 ≤ z ∧ z ≤ 38528))) args s 0 0 (gFree B)) (F0 m 4 ls []) := by
    intro k_1
    induction k_1 with
    | zero => intro num k hm; exact absurd hm (Nat.not_lt_zero _)
    | succ k_1 ih_lp_4_n_2 =>
      intro num k hm hk0 hk1 hn0 hn H locs G ls hl
      refine g_iload_n C dX5_size_4 rfl hl 2 rfl ?_
      refine g_aload_n C dX5_size_5 rfl hl 0 rfl ?_
      refine g_get C G (pos := po) fX5_size_11 (by omega) he rfl dX5_size_6 ?_
      refine g_alenJ C G (pos := po + 1) (by omega) hw dX5_size_9 ?_
      show W p l e _ s m args below meth c _ _ _ _ _ (F0 m _ ls (.int (iz 602) :: _))
      refine g_icmp_ge (tgt := 31) C (by omega) (by decide) dX5_size_10 (by decide) (fun c_3 => ?_) (fun c_3 => ?_)
      · refine g_iload_n C dX5_size_31 rfl hl 1 rfl ?_
        refine g_iret C G hr hlk (Nat.le_of_ble_eq_true rfl) (Nat.le_of_ble_eq_true rfl) dX5_size_32 ?_
        have hk9 : k = 602 := by omega
        subst hk9
        exact ⟨rfl, hn, by omega⟩
      · refine g_iload_n C dX5_size_13 rfl hl 1 rfl ?_
        refine g_aload_n C dX5_size_14 rfl hl 0 rfl ?_
        refine g_get C G (pos := po) fX5_size_11 (by omega) he rfl dX5_size_15 ?_
        refine g_iload_n C dX5_size_18 rfl hl 2 rfl ?_
        refine g_laload C G (pos := po + 1) (by omega) hw (by omega) (by omega) (by omega) dX5_size_19 ?_
        refine g_ci C G (g_runS (As := [.long (lN (W9 k))]) (rest := [.int (iz num)]) C G (c_J13_bitCount_95d88 l κ B n ad g (W9 k) (hb k hk0 (by omega))) (va_cwS 1 C.1.2.2.2.2 gX5_size_J13_bitCount_95d88 rfl rfl rfl (by decide +kernel) ⟨Nat.le_of_ble_eq_true rfl, Nat.le_of_ble_eq_true rfl⟩) rfl hl rfl (Nat.le_of_ble_eq_true rfl) dX5_size_20 ⟨Nat.le_of_ble_eq_true rfl, Nat.le_of_ble_eq_true rfl⟩) (fun z_4 g9 H locs hw G => ?_)
        obtain ⟨hg9, h_5⟩ := hw
        replace hg9 := hg9.symm
        subst hg9
        refine g_iadd C dX5_size_23 ?_
        refine lv_istore_n (lv' := [(1, .int (iz (num + z_4))), (0, .ref (ad po)), (2, .int (iz k))]) C.1.1 C.1.2.1 dX5_size_24 rfl hl (by decide) rfl (fun ls hl => ?_)
        refine lv_iinc (v := iz (k + 1)) (lv' := [(2, .int (iz (k + 1))), (1, .int (iz (num + z_4))), (0, .ref (ad po))]) C.1.1 C.1.2.1 dX5_size_25 hl (k := 2) rfl (g_inc (by omega)) (by decide) rfl (fun ls hl => ?_)
        refine g_goto (tgt := 4) C dX5_size_28 (by decide) ?_
        exact ih_lp_4_n_2 (num + z_4) (k + 1) (by omega) (by omega) (by omega) (by have := h_5; have := fb_ct_le (fun b => (W9 k).testBit b) 64; omega) (sm_step hk0 hn h_5) _ _ G _ (lv_sub hl [2, 1, 0] rfl)
  exact lp_4_n_2 _ 0 0 (Nat.lt_succ_self _) (by omega) (by omega) (by omega) rfl _ _ G _ (lv_sub hl [2, 1, 0] rfl)
theorem fX5_sizeAt_11 : gFld wsX5_sizeAt RX5 11 5 0 := ⟨RX5, TX5, 1, rfl, by decide, by decide +kernel, by decide +kernel⟩
set_option maxHeartbeats 4000000 in
set_option maxRecDepth 100000 in
theorem c_X5_sizeAt (l : Launch) (κ : gKap) (B n : Nat) (ad : Nat → Nat) (g : Nat → va_E) (po : Nat) (W9 : Int → Nat) (r : Int) (hp : po + 1 < n) (he : g po = .inr (5, [.ref (ad (po + 1))])) (hw : g (po + 1) = aW κ 602 W9) (hb : ∀ i, 0 ≤ i → i < 602 → W9 i < 2 ^ 64) (hr : 0 ≤ r ∧ r ≤ 300) : Met l yX5_sizeAt wsX5_sizeAt ({ frames := 1, cells := 0, slots := 0, locals := 21 }) (gPre κ B n ad g [.ref (ad po), .int (iz r)]) (gQi κ B n ad (fun z g' => g' = g ∧ (z = ((fb_ct (fun b => (W9 (2 * r)).testBit b) 64 + fb_ct (fun b => (W9 (2 * r + 1)).testBit b) 64 : Nat) : Int)))) 0 0 (gFree B) := by
  refine g_met RX5 (cc := cX5_sizeAt) (maxL := 3) (ret := (some .int)) (by decide) rfl rfl (Nat.le_of_ble_eq_true rfl) ?_
  intro p e s m args below meth c C hr hlk hnm G ls hl
  have hl : lv_has ls 3 [(0, .ref (ad po)), (1, .int (iz r))] := hl
  refine g_iconst (a := 2) C dX5_sizeAt_0 rfl ?_
  refine g_iload_n C dX5_sizeAt_1 rfl hl 1 rfl ?_
  refine g_imul C dX5_sizeAt_2 ?_
  refine lv_istore_n (lv' := [(2, .int (iz (2 * r))), (0, .ref (ad po)), (1, .int (iz r))]) C.1.1 C.1.2.1 dX5_sizeAt_3 rfl hl (by decide) rfl (fun ls hl => ?_)
  refine g_iload_n C dX5_sizeAt_4 rfl hl 0 rfl ?_
  refine g_if_lt (tgt := 19) C (by omega) dX5_sizeAt_5 (by decide) (fun c_1 => ?_) (fun c_1 => ?_)
  · refine g_iconst (a := 0) C dX5_sizeAt_19 rfl ?_
    refine g_iret C G hr hlk (Nat.le_of_ble_eq_true rfl) (Nat.le_of_ble_eq_true rfl) dX5_sizeAt_20 ?_
    omega
  · refine g_iload_n C dX5_sizeAt_8 rfl hl 0 rfl ?_
    refine g_iconst (a := 1) C dX5_sizeAt_9 rfl ?_
    refine g_iadd C dX5_sizeAt_10 ?_
    refine g_aload_n C dX5_sizeAt_11 rfl hl 1 rfl ?_
    refine g_get C G (pos := po) fX5_sizeAt_11 (by omega) he rfl dX5_sizeAt_12 ?_
    refine g_alenJ C G (pos := po + 1) (by omega) hw dX5_sizeAt_15 ?_
    show W p l e _ s m args below meth c _ _ _ _ _ (F0 m _ ls (.int (iz 602) :: _))
    refine g_icmp_lt (tgt := 21) C (by omega) (by decide) dX5_sizeAt_16 (by decide) (fun c_2 => ?_) (fun c_2 => ?_)
    · refine g_aload_n C dX5_sizeAt_21 rfl hl 1 rfl ?_
      refine g_get C G (pos := po) fX5_sizeAt_11 (by omega) he rfl dX5_sizeAt_22 ?_
      refine g_iload_n C dX5_sizeAt_25 rfl hl 0 rfl ?_
      refine g_laload C G (pos := po + 1) (by omega) hw (by omega) (by omega) (by omega) dX5_sizeAt_26 ?_
      refine g_ci C G (g_runS (As := [.long (lN (W9 (2 * r)))]) (rest := []) C G (c_J13_bitCount_95d88 l κ B n ad g (W9 (2 * r)) (hb _ (by omega) (by omega))) (va_cwS 1 C.1.2.2.2.2 gX5_sizeAt_J13_bitCount_95d88 rfl rfl rfl (by decide +kernel) ⟨Nat.le_of_ble_eq_true rfl, Nat.le_of_ble_eq_true rfl⟩) rfl hl rfl (Nat.le_of_ble_eq_true rfl) dX5_sizeAt_27 ⟨Nat.le_of_ble_eq_true rfl, Nat.le_of_ble_eq_true rfl⟩) (fun z_3 g9 H locs hw G => ?_)
      obtain ⟨hg9, h_4⟩ := hw
      replace hg9 := hg9.symm
      subst hg9
      refine g_aload_n C dX5_sizeAt_30 rfl hl 1 rfl ?_
      refine g_get C G (pos := po) fX5_sizeAt_11 (by omega) he rfl dX5_sizeAt_31 ?_
      refine g_iload_n C dX5_sizeAt_34 rfl hl 0 rfl ?_
      refine g_iconst (a := 1) C dX5_sizeAt_35 rfl ?_
      refine g_iadd C dX5_sizeAt_36 ?_
      refine g_laload C G (pos := po + 1) (by omega) hw (by omega) (by omega) (by omega) dX5_sizeAt_37 ?_
      refine g_ci C G (g_runS (As := [.long (lN (W9 ((2 * r) + 1)))]) (rest := [.int (iz z_3)]) C G (c_J13_bitCount_95d88 l κ B n ad g (W9 (2 * r + 1)) (hb _ (by omega) (by omega))) (va_cwS 1 C.1.2.2.2.2 gX5_sizeAt_J13_bitCount_95d88 rfl rfl rfl (by decide +kernel) ⟨Nat.le_of_ble_eq_true rfl, Nat.le_of_ble_eq_true rfl⟩) rfl hl rfl (Nat.le_of_ble_eq_true rfl) dX5_sizeAt_38 ⟨Nat.le_of_ble_eq_true rfl, Nat.le_of_ble_eq_true rfl⟩) (fun z_5 g9 H locs hw G => ?_)
      obtain ⟨hg9, h_6⟩ := hw
      replace hg9 := hg9.symm
      subst hg9
      refine g_iadd C dX5_sizeAt_41 ?_
      refine g_iret C G hr hlk (Nat.le_of_ble_eq_true rfl) (Nat.le_of_ble_eq_true rfl) dX5_sizeAt_42 ?_
      exact ⟨rfl, by rw [h_4, h_6]; rfl⟩
    · refine g_iconst (a := 0) C dX5_sizeAt_19 rfl ?_
      refine g_iret C G hr hlk (Nat.le_of_ble_eq_true rfl) (Nat.le_of_ble_eq_true rfl) dX5_sizeAt_20 ?_
      omega
set_option maxHeartbeats 4000000 in
set_option maxRecDepth 100000 in
theorem c_X5_widestGap (l : Launch) (κ : gKap) (B n : Nat) (ad : Nat → Nat) (g : Nat → va_E) (po : Nat) (W9 : Int → Nat) (hp : po + 1 < n) (he : g po = .inr (5, [.ref (ad (po + 1))])) (hw : g (po + 1) = aW κ 602 W9) (hb : ∀ i, 0 ≤ i → i < 602 → W9 i < 2 ^ 64) : Met l yX5_widestGap wsX5_widestGap ({ frames := 2, cells := 0, slots := 0, locals := 43 }) (gPre κ B n ad g [.ref (ad po)]) (gQi κ B n ad (fun z g' => g' = g ∧ (0 ≤ z ∧ z ≤ 300 ∧ z = (gpf (fun q9 : Int => 0 < ((fb_ct (fun b => (W9 (2 * q9)).testBit b) 64 + fb_ct (fun b => (W9 (2 * q9 + 1)).testBit b) 64 : Nat) : Int)) 301).1))) 0 0 (gFree B) := by
  refine g_met RX5 (cc := cX5_widestGap) (maxL := 4) (ret := (some .int)) (by decide) rfl rfl (Nat.le_of_ble_eq_true rfl) ?_
  intro p e s m args below meth c C hr hlk hnm G ls hl
  have hl : lv_has ls 4 [(0, .ref (ad po))] := hl
  refine g_iconst (a := 0) C dX5_widestGap_0 rfl ?_
  refine lv_istore_n (lv' := [(1, .int (iz 0)), (0, .ref (ad po))]) C.1.1 C.1.2.1 dX5_widestGap_1 rfl hl (by decide) rfl (fun ls hl => ?_)
  refine g_bipush (a := (-9)) C dX5_widestGap_2 (by decide) ?_
  refine lv_istore_n (lv' := [(2, .int (iz (-9))), (1, .int (iz 0)), (0, .ref (ad po))]) C.1.1 C.1.2.1 dX5_widestGap_4 rfl hl (by decide) rfl (fun ls hl => ?_)
  refine g_iconst (a := 0) C dX5_widestGap_5 rfl ?_
  refine lv_istore_n (lv' := [(3, .int (iz 0)), (2, .int (iz (-9))), (1, .int (iz 0)), (0, .ref (ad po))]) C.1.1 C.1.2.1 dX5_widestGap_6 rfl hl (by decide) rfl (fun ls hl => ?_)
  have lp_7_n_2 : ∀ (k_1 : Nat) (wd : Int) (pv : Int) (k : Int), (301 - k).toNat < k_1 → (0 ≤ k) → (k ≤ 301) → (0 ≤ wd ∧ wd ≤ 300) → (pv = -9 ∨ (0 ≤ pv ∧ pv < k)) → ((wd, pv) = gpf (fun q9 : Int => 0 < ((fb_ct (fun b => (W9 (2 * q9)).testBit b) 64 + fb_ct (fun b => (W9 (2 * q9 + 1)).testBit b) 64 : Nat) : Int)) k.toNat) → ∀ (H : Heap) (locs : List Loc), gG κ B n ad s g H locs → ∀ (ls : Array Slot), lv_has ls 4 [(0, .ref (ad po)), (1, .int (iz wd)), (2, .int (iz pv)), (3, .int (iz k))] → W p l e ({ frames := 2, cells := 0, slots := 0, locals := 43 }) s m args below meth c H locs 0 0 (MQ below (gQi κ B n ad (fun z g' => g' = g ∧ (0 ≤ z ∧ z ≤ 300 ∧ z = (gpf (fun q9 : Int => 0 < ((fb_ct (fun b => (W9 (2 * q9)).testBit b) 64 + fb_ct (fun b => (W9 (2 * q9 + 1)).testBit b) 64 : Nat) : Int)) 301).1))) args s 0 0 (gFree B)) (F0 m 7 ls []) := by
    intro k_1
    induction k_1 with
    | zero => intro wd pv k hm; exact absurd hm (Nat.not_lt_zero _)
    | succ k_1 ih_lp_7_n_2 =>
      intro wd pv k hm hk0 hk1 hw0 hpv hg9 H locs G ls hl
      refine g_iload_n C dX5_widestGap_7 rfl hl 3 rfl ?_
      refine g_sipush (a := 300) C dX5_widestGap_8 (by decide) ?_
      refine g_icmp_gt (tgt := 44) C (by omega) (by decide) dX5_widestGap_11 (by decide) (fun c_3 => ?_) (fun c_3 => ?_)
      · refine g_iload_n C dX5_widestGap_44 rfl hl 1 rfl ?_
        refine g_iret C G hr hlk (Nat.le_of_ble_eq_true rfl) (Nat.le_of_ble_eq_true rfl) dX5_widestGap_45 ?_
        have hk9 : k = 301 := by omega
        subst hk9
        exact ⟨rfl, by omega, by omega, by rw [show gpf _ 301 = (wd, pv) from hg9.symm]⟩
      · refine g_aload_n C dX5_widestGap_14 rfl hl 0 rfl ?_
        refine g_iload_n C dX5_widestGap_15 rfl hl 3 rfl ?_
        refine g_ci C G (g_runV (As := [.int (iz k)]) (rest := []) (pos := po) C G (c_X5_sizeAt l κ B n ad g po W9 k (by omega) he hw (by omega) (by omega)) (cwV 1 C.1.2.2.2.2 gX5_widestGap_X5_sizeAt rfl rfl rfl (by decide +kernel) ⟨Nat.le_of_ble_eq_true rfl, Nat.le_of_ble_eq_true rfl⟩) (by omega) he (T := TX5) (N := 1) rfl rfl hl rfl (Nat.le_of_ble_eq_true rfl) dX5_widestGap_16 ⟨Nat.le_of_ble_eq_true rfl, Nat.le_of_ble_eq_true rfl⟩) (fun z_4 g9 H locs hw G => ?_)
        obtain ⟨hg9, h_5⟩ := hw
        replace hg9 := hg9.symm
        subst hg9
        have h64a := fb_ct_le (fun b => (W9 (2 * k)).testBit b) 64
        have h64b := fb_ct_le (fun b => (W9 (2 * k + 1)).testBit b) 64
        refine g_if_le (tgt := 38) C (by omega) dX5_widestGap_19 (by decide) (fun c_6 => ?_) (fun c_6 => ?_)
        · have hout9 : ¬ (fun q9 : Int => 0 < ((fb_ct (fun b => (W9 (2 * q9)).testBit b) 64 + fb_ct (fun b => (W9 (2 * q9 + 1)).testBit b) 64 : Nat) : Int)) k := by show ¬ 0 < _; rw [← h_5]; omega
          refine lv_iinc (v := iz (k + 1)) (lv' := [(3, .int (iz (k + 1))), (0, .ref (ad po)), (1, .int (iz wd)), (2, .int (iz pv))]) C.1.1 C.1.2.1 dX5_widestGap_38 hl (k := 3) rfl (g_inc (by omega)) (by decide) rfl (fun ls hl => ?_)
          refine g_goto (tgt := 7) C dX5_widestGap_41 (by decide) ?_
          exact ih_lp_7_n_2 wd pv (k + 1) (by omega) (by omega) (by omega) (by omega) (by omega) (by rw [gpf_out hk0 hout9, ← hg9]) _ _ G _ (lv_sub hl [1, 2, 3, 0] rfl)
        · have hin9 : (fun q9 : Int => 0 < ((fb_ct (fun b => (W9 (2 * q9)).testBit b) 64 + fb_ct (fun b => (W9 (2 * q9 + 1)).testBit b) 64 : Nat) : Int)) k := by show 0 < _; rw [← h_5]; omega
          refine g_iload_n C dX5_widestGap_22 rfl hl 2 rfl ?_
          refine g_bipush (a := (-9)) C dX5_widestGap_23 (by decide) ?_
          refine g_icmp_eq (tgt := 36) C (by omega) (by omega) dX5_widestGap_25 (by decide) (fun c_7 => ?_) (fun c_7 => ?_)
          · refine g_iload_n C dX5_widestGap_36 rfl hl 3 rfl ?_
            refine lv_istore_n (lv' := [(2, .int (iz k)), (0, .ref (ad po)), (1, .int (iz wd)), (3, .int (iz k))]) C.1.1 C.1.2.1 dX5_widestGap_37 rfl hl (by decide) rfl (fun ls hl => ?_)
            refine lv_iinc (v := iz (k + 1)) (lv' := [(3, .int (iz (k + 1))), (2, .int (iz k)), (0, .ref (ad po)), (1, .int (iz wd))]) C.1.1 C.1.2.1 dX5_widestGap_38 hl (k := 3) rfl (g_inc (by omega)) (by decide) rfl (fun ls hl => ?_)
            refine g_goto (tgt := 7) C dX5_widestGap_41 (by decide) ?_
            exact ih_lp_7_n_2 wd k (k + 1) (by omega) (by omega) (by omega) (by omega) (by omega) (by rw [gpf_in hk0 hin9, ← hg9]; simp only [show pv = -9 by omega, if_true]; try rfl) _ _ G _ (lv_sub hl [2, 3, 1, 0] rfl)
          · refine g_iload_n C dX5_widestGap_28 rfl hl 1 rfl ?_
            refine g_iload_n C dX5_widestGap_29 rfl hl 3 rfl ?_
            refine g_iload_n C dX5_widestGap_30 rfl hl 2 rfl ?_
            refine g_isub C dX5_widestGap_31 ?_
            refine g_mmax C hl (by decide +kernel : Cond.methodLink RX5 45 Lib.Math.max.name ∈ wsX5_widestGap) (by decide +kernel) (by decide +kernel) (by decide +kernel) (Nat.le_of_ble_eq_true rfl) (Nat.le_of_ble_eq_true rfl) (by first | exact Nat.zero_le _ | omega) (by first | exact Nat.zero_le _ | omega) (by omega) (by omega) dX5_widestGap_32 (fun z_8 h_9 => ?_)
            refine lv_istore_n (lv' := [(1, .int (iz z_8)), (0, .ref (ad po)), (2, .int (iz pv)), (3, .int (iz k))]) C.1.1 C.1.2.1 dX5_widestGap_35 rfl hl (by decide) rfl (fun ls hl => ?_)
            refine g_iload_n C dX5_widestGap_36 rfl hl 3 rfl ?_
            refine lv_istore_n (lv' := [(2, .int (iz k)), (1, .int (iz z_8)), (0, .ref (ad po)), (3, .int (iz k))]) C.1.1 C.1.2.1 dX5_widestGap_37 rfl hl (by decide) rfl (fun ls hl => ?_)
            refine lv_iinc (v := iz (k + 1)) (lv' := [(3, .int (iz (k + 1))), (2, .int (iz k)), (1, .int (iz z_8)), (0, .ref (ad po))]) C.1.1 C.1.2.1 dX5_widestGap_38 hl (k := 3) rfl (g_inc (by omega)) (by decide) rfl (fun ls hl => ?_)
            refine g_goto (tgt := 7) C dX5_widestGap_41 (by decide) ?_
            exact ih_lp_7_n_2 z_8 k (k + 1) (by omega) (by omega) (by omega) (by omega) (by omega) (by rw [gpf_in hk0 hin9, ← hg9]; simp only [show ¬ pv = -9 by omega, if_false]; rw [h_9]) _ _ G _ (lv_sub hl [3, 2, 1, 0] rfl)
  exact lp_7_n_2 _ 0 (-9) 0 (Nat.lt_succ_self _) (by omega) (by omega) (by omega) (by omega) rfl _ _ G _ (lv_sub hl [3, 2, 1, 0] rfl)
theorem fX5_sizeOfBoth_11 : gFld wsX5_sizeOfBoth RX5 11 5 0 := ⟨RX5, TX5, 1, rfl, by decide, by decide +kernel, by decide +kernel⟩
set_option maxHeartbeats 4000000 in
set_option maxRecDepth 100000 in
theorem c_X5_sizeOfBoth (l : Launch) (κ : gKap) (B n : Nat) (ad : Nat → Nat) (g : Nat → va_E) (po : Nat) (W9 : Int → Nat) (qo : Nat) (V9 : Int → Nat) (hp : po + 1 < n) (he : g po = .inr (5, [.ref (ad (po + 1))])) (hw : g (po + 1) = aW κ 602 W9) (hq : qo + 1 < n) (he2 : g qo = .inr (5, [.ref (ad (qo + 1))])) (hw2 : g (qo + 1) = aW κ 602 V9) (hb : ∀ i, 0 ≤ i → i < 602 → W9 i < 2 ^ 64) : Met l yX5_sizeOfBoth wsX5_sizeOfBoth ({ frames := 1, cells := 0, slots := 0, locals := 21 }) (gPre κ B n ad g [.ref (ad po), .ref (ad qo)]) (gQi κ B n ad (fun z g' => g' = g ∧ (z = (fb_sm (fun j => fb_ct (fun b => ((fun i => W9 i &&& V9 i) (j : Int)).testBit b) 64) 602 : Int) ∧ 0 ≤ z ∧ z ≤ 38528))) 0 0 (gFree B) := by
  refine g_met RX5 (cc := cX5_sizeOfBoth) (maxL := 4) (ret := (some .int)) (by decide) rfl rfl (Nat.le_of_ble_eq_true rfl) ?_
  intro p e s m args below meth c C hr hlk hnm G ls hl
  have hl : lv_has ls 4 [(0, .ref (ad po)), (1, .ref (ad qo))] := hl
  refine g_iconst (a := 0) C dX5_sizeOfBoth_0 rfl ?_
  refine lv_istore_n (lv' := [(2, .int (iz 0)), (0, .ref (ad po)), (1, .ref (ad qo))]) C.1.1 C.1.2.1 dX5_sizeOfBoth_1 rfl hl (by decide) rfl (fun ls hl => ?_)
  refine g_iconst (a := 0) C dX5_sizeOfBoth_2 rfl ?_
  refine lv_istore_n (lv' := [(3, .int (iz 0)), (2, .int (iz 0)), (0, .ref (ad po)), (1, .ref (ad qo))]) C.1.1 C.1.2.1 dX5_sizeOfBoth_3 rfl hl (by decide) rfl (fun ls hl => ?_)
  have lp_4_n_2 : ∀ (k_1 : Nat) (num : Int) (k : Int), (602 - k).toNat < k_1 → (0 ≤ k) → (k ≤ 602) → (0 ≤ num ∧ num ≤ 64 * k) → (num = (fb_sm (fun j => fb_ct (fun b => ((fun i => W9 i &&& V9 i) (j : Int)).testBit b) 64) k.toNat : Int)) → ∀ (H : Heap) (locs : List Loc), gG κ B n ad s g H locs → ∀ (ls : Array Slot), lv_has ls 4 [(0, .ref (ad po)), (1, .ref (ad qo)), (2, .int (iz num)), (3, .int (iz k))] → W p l e ({ frames := 1, cells := 0, slots := 0, locals := 21 }) s m args below meth c H locs 0 0 (MQ below (gQi κ B n ad (fun z g' => g' = g ∧ (z = (fb_sm (fun j => fb_ct (fun b => ((fun i => W9 i &&& V9 i) (j : Int)).testBit b) 64) 602 : Int) ∧ 0 ≤ z ∧ z ≤ 38528))) args s 0 0 (gFree B)) (F0 m 4 ls []) := by
    intro k_1
    induction k_1 with
    | zero => intro num k hm; exact absurd hm (Nat.not_lt_zero _)
    | succ k_1 ih_lp_4_n_2 =>
      intro num k hm hk0 hk1 hn0 hn H locs G ls hl
      refine g_iload_n C dX5_sizeOfBoth_4 rfl hl 3 rfl ?_
      refine g_aload_n C dX5_sizeOfBoth_5 rfl hl 0 rfl ?_
      refine g_get C G (pos := po) fX5_sizeOfBoth_11 (by omega) he rfl dX5_sizeOfBoth_6 ?_
      refine g_alenJ C G (pos := po + 1) (by omega) hw dX5_sizeOfBoth_9 ?_
      show W p l e _ s m args below meth c _ _ _ _ _ (F0 m _ ls (.int (iz 602) :: _))
      refine g_icmp_ge (tgt := 47) C (by omega) (by decide) dX5_sizeOfBoth_10 (by decide) (fun c_3 => ?_) (fun c_3 => ?_)
      · refine g_iload_n C dX5_sizeOfBoth_47 rfl hl 2 rfl ?_
        refine g_iret C G hr hlk (Nat.le_of_ble_eq_true rfl) (Nat.le_of_ble_eq_true rfl) dX5_sizeOfBoth_48 ?_
        have hk9 : k = 602 := by omega
        subst hk9
        exact ⟨rfl, hn, by omega⟩
      · refine g_iload_n C dX5_sizeOfBoth_13 rfl hl 3 rfl ?_
        refine g_aload_n C dX5_sizeOfBoth_14 rfl hl 1 rfl ?_
        refine g_get C G (pos := qo) fX5_sizeOfBoth_11 (by omega) he2 rfl dX5_sizeOfBoth_15 ?_
        refine g_alenJ C G (pos := qo + 1) (by omega) hw2 dX5_sizeOfBoth_18 ?_
        show W p l e _ s m args below meth c _ _ _ _ _ (F0 m _ ls (.int (iz 602) :: _))
        refine g_icmp_ge (tgt := 47) C (by omega) (by decide) dX5_sizeOfBoth_19 (by decide) (fun c_4 => ?_) (fun c_4 => ?_)
        · refine g_iload_n C dX5_sizeOfBoth_47 rfl hl 2 rfl ?_
          refine g_iret C G hr hlk (Nat.le_of_ble_eq_true rfl) (Nat.le_of_ble_eq_true rfl) dX5_sizeOfBoth_48 ?_
          have hk9 : k = 602 := by omega
          subst hk9
          exact ⟨rfl, hn, by omega⟩
        · refine g_iload_n C dX5_sizeOfBoth_22 rfl hl 2 rfl ?_
          refine g_aload_n C dX5_sizeOfBoth_23 rfl hl 0 rfl ?_
          refine g_get C G (pos := po) fX5_sizeOfBoth_11 (by omega) he rfl dX5_sizeOfBoth_24 ?_
          refine g_iload_n C dX5_sizeOfBoth_27 rfl hl 3 rfl ?_
          refine g_laload C G (pos := po + 1) (by omega) hw (by omega) (by omega) (by omega) dX5_sizeOfBoth_28 ?_
          refine g_aload_n C dX5_sizeOfBoth_29 rfl hl 1 rfl ?_
          refine g_get C G (pos := qo) fX5_sizeOfBoth_11 (by omega) he2 rfl dX5_sizeOfBoth_30 ?_
          refine g_iload_n C dX5_sizeOfBoth_33 rfl hl 3 rfl ?_
          refine g_laload C G (pos := qo + 1) (by omega) hw2 (by omega) (by omega) (by omega) dX5_sizeOfBoth_34 ?_
          refine g_landN C dX5_sizeOfBoth_35 ?_
          refine g_ci C G (g_runS (As := [.long (lN ((W9 k) &&& (V9 k)))]) (rest := [.int (iz num)]) C G (c_J13_bitCount_95d88 l κ B n ad g ((W9 k) &&& (V9 k)) (Nat.lt_of_le_of_lt Nat.and_le_left (hb k hk0 (by omega)))) (va_cwS 1 C.1.2.2.2.2 gX5_sizeOfBoth_J13_bitCount_95d88 rfl rfl rfl (by decide +kernel) ⟨Nat.le_of_ble_eq_true rfl, Nat.le_of_ble_eq_true rfl⟩) rfl hl rfl (Nat.le_of_ble_eq_true rfl) dX5_sizeOfBoth_36 ⟨Nat.le_of_ble_eq_true rfl, Nat.le_of_ble_eq_true rfl⟩) (fun z_5 g9 H locs hw G => ?_)
          obtain ⟨hg9, h_6⟩ := hw
          replace hg9 := hg9.symm
          subst hg9
          refine g_iadd C dX5_sizeOfBoth_39 ?_
          refine lv_istore_n (lv' := [(2, .int (iz (num + z_5))), (0, .ref (ad po)), (1, .ref (ad qo)), (3, .int (iz k))]) C.1.1 C.1.2.1 dX5_sizeOfBoth_40 rfl hl (by decide) rfl (fun ls hl => ?_)
          refine lv_iinc (v := iz (k + 1)) (lv' := [(3, .int (iz (k + 1))), (2, .int (iz (num + z_5))), (0, .ref (ad po)), (1, .ref (ad qo))]) C.1.1 C.1.2.1 dX5_sizeOfBoth_41 hl (k := 3) rfl (g_inc (by omega)) (by decide) rfl (fun ls hl => ?_)
          refine g_goto (tgt := 4) C dX5_sizeOfBoth_44 (by decide) ?_
          exact ih_lp_4_n_2 (num + z_5) (k + 1) (by omega) (by omega) (by omega) (by have := h_6; have := fb_ct_le (fun b => (W9 k &&& V9 k).testBit b) 64; omega) (sm_step (W9 := fun i => W9 i &&& V9 i) hk0 hn h_6) _ _ G _ (lv_sub hl [2, 3, 1, 0] rfl)
  exact lp_4_n_2 _ 0 0 (Nat.lt_succ_self _) (by omega) (by omega) (by omega) rfl _ _ G _ (lv_sub hl [2, 3, 1, 0] rfl)
theorem fX5_isSameAs_11 : gFld wsX5_isSameAs RX5 11 5 0 := ⟨RX5, TX5, 1, rfl, by decide, by decide +kernel, by decide +kernel⟩
set_option maxHeartbeats 4000000 in
set_option maxRecDepth 100000 in
theorem c_X5_isSameAs (l : Launch) (κ : gKap) (B n : Nat) (ad : Nat → Nat) (g : Nat → va_E) (po : Nat) (W9 : Int → Nat) (qo : Nat) (V9 : Int → Nat) (hp : po + 1 < n) (he : g po = .inr (5, [.ref (ad (po + 1))])) (hw : g (po + 1) = aW κ 602 W9) (hq : qo + 1 < n) (he2 : g qo = .inr (5, [.ref (ad (qo + 1))])) (hw2 : g (qo + 1) = aW κ 602 V9) (hb : ∀ i, 0 ≤ i → i < 602 → W9 i < 2 ^ 64) (hb2 : ∀ i, 0 ≤ i → i < 602 → V9 i < 2 ^ 64) : Met l yX5_isSameAs wsX5_isSameAs ({ frames := 0, cells := 0, slots := 0, locals := 0 }) (gPre κ B n ad g [.ref (ad po), .ref (ad qo)]) (gQi κ B n ad (fun z g' => g' = g ∧ (((∀ i, 0 ≤ i → i < 602 → W9 i = V9 i) ∧ z = 1) ∨ (¬ (∀ i, 0 ≤ i → i < 602 → W9 i = V9 i) ∧ z = 0)))) 0 0 (gFree B) := by
  refine g_met RX5 (cc := cX5_isSameAs) (maxL := 3) (ret := (some .boolean)) (by decide) rfl rfl (Nat.le_of_ble_eq_true rfl) ?_
  intro p e s m args below meth c C hr hlk hnm G ls hl
  have hl : lv_has ls 3 [(0, .ref (ad po)), (1, .ref (ad qo))] := hl
  refine g_iconst (a := 0) C dX5_isSameAs_0 rfl ?_
  refine lv_istore_n (lv' := [(2, .int (iz 0)), (0, .ref (ad po)), (1, .ref (ad qo))]) C.1.1 C.1.2.1 dX5_isSameAs_1 rfl hl (by decide) rfl (fun ls hl => ?_)
  have lp_2_n_2 : ∀ (k_1 : Nat) (k : Int), (602 - k).toNat < k_1 → (0 ≤ k) → (k ≤ 602) → (∀ i, 0 ≤ i → i < k → W9 i = V9 i) → ∀ (H : Heap) (locs : List Loc), gG κ B n ad s g H locs → ∀ (ls : Array Slot), lv_has ls 3 [(0, .ref (ad po)), (1, .ref (ad qo)), (2, .int (iz k))] → W p l e ({ frames := 0, cells := 0, slots := 0, locals := 0 }) s m args below meth c H locs 0 0 (MQ below (gQi κ B n ad (fun z g' => g' = g ∧ (((∀ i, 0 ≤ i → i < 602 → W9 i = V9 i) ∧ z = 1) ∨ (¬ (∀ i, 0 ≤ i → i < 602 → W9 i = V9 i) ∧ z = 0)))) args s 0 0 (gFree B)) (F0 m 2 ls []) := by
    intro k_1
    induction k_1 with
    | zero => intro k hm; exact absurd hm (Nat.not_lt_zero _)
    | succ k_1 ih_lp_2_n_2 =>
      intro k hm hk0 hk1 hs H locs G ls hl
      refine g_iload_n C dX5_isSameAs_2 rfl hl 2 rfl ?_
      refine g_aload_n C dX5_isSameAs_3 rfl hl 0 rfl ?_
      refine g_get C G (pos := po) fX5_isSameAs_11 (by omega) he rfl dX5_isSameAs_4 ?_
      refine g_alenJ C G (pos := po + 1) (by omega) hw dX5_isSameAs_7 ?_
      show W p l e _ s m args below meth c _ _ _ _ _ (F0 m _ ls (.int (iz 602) :: _))
      refine g_icmp_ge (tgt := 44) C (by omega) (by decide) dX5_isSameAs_8 (by decide) (fun c_3 => ?_) (fun c_3 => ?_)
      · refine g_iconst (a := 1) C dX5_isSameAs_44 rfl ?_
        refine g_zret C G hr hlk (by decide) (Nat.le_of_ble_eq_true rfl) (Nat.le_of_ble_eq_true rfl) dX5_isSameAs_45 ?_
        exact ⟨rfl, Or.inl ⟨fun i i0 i1 => hs i i0 (by omega), rfl⟩⟩
      · refine g_iload_n C dX5_isSameAs_11 rfl hl 2 rfl ?_
        refine g_aload_n C dX5_isSameAs_12 rfl hl 1 rfl ?_
        refine g_get C G (pos := qo) fX5_isSameAs_11 (by omega) he2 rfl dX5_isSameAs_13 ?_
        refine g_alenJ C G (pos := qo + 1) (by omega) hw2 dX5_isSameAs_16 ?_
        show W p l e _ s m args below meth c _ _ _ _ _ (F0 m _ ls (.int (iz 602) :: _))
        refine g_icmp_ge (tgt := 44) C (by omega) (by decide) dX5_isSameAs_17 (by decide) (fun c_4 => ?_) (fun c_4 => ?_)
        · refine g_iconst (a := 1) C dX5_isSameAs_44 rfl ?_
          refine g_zret C G hr hlk (by decide) (Nat.le_of_ble_eq_true rfl) (Nat.le_of_ble_eq_true rfl) dX5_isSameAs_45 ?_
          exact ⟨rfl, Or.inl ⟨fun i i0 i1 => hs i i0 (by omega), rfl⟩⟩
        · refine g_aload_n C dX5_isSameAs_20 rfl hl 0 rfl ?_
          refine g_get C G (pos := po) fX5_isSameAs_11 (by omega) he rfl dX5_isSameAs_21 ?_
          refine g_iload_n C dX5_isSameAs_24 rfl hl 2 rfl ?_
          refine g_laload C G (pos := po + 1) (by omega) hw (by omega) (by omega) (by omega) dX5_isSameAs_25 ?_
          refine g_aload_n C dX5_isSameAs_26 rfl hl 1 rfl ?_
          refine g_get C G (pos := qo) fX5_isSameAs_11 (by omega) he2 rfl dX5_isSameAs_27 ?_
          refine g_iload_n C dX5_isSameAs_30 rfl hl 2 rfl ?_
          refine g_laload C G (pos := qo + 1) (by omega) hw2 (by omega) (by omega) (by omega) dX5_isSameAs_31 ?_
          refine g_lcmpN C (by first | exact hb _ hk0 (by omega) | exact hb2 _ hk0 (by omega) | omega) (by first | exact hb _ hk0 (by omega) | exact hb2 _ hk0 (by omega) | omega) dX5_isSameAs_32 (fun z_5 h_6 => ?_)
          refine g_if_eq (tgt := 38) C (by omega) dX5_isSameAs_33 (by decide) (fun c_7 => ?_) (fun c_7 => ?_)
          · refine lv_iinc (v := iz (k + 1)) (lv' := [(2, .int (iz (k + 1))), (0, .ref (ad po)), (1, .ref (ad qo))]) C.1.1 C.1.2.1 dX5_isSameAs_38 hl (k := 2) rfl (g_inc (by omega)) (by decide) rfl (fun ls hl => ?_)
            refine g_goto (tgt := 2) C dX5_isSameAs_41 (by decide) ?_
            exact ih_lp_2_n_2 (k + 1) (by omega) (by omega) (by omega) (fun i i0 i1 => by
                by_cases hi : i = k
                · rw [hi]; omega
                · exact hs i i0 (by omega)) _ _ G _ (lv_sub hl [1, 2, 0] rfl)
          · refine g_iconst (a := 0) C dX5_isSameAs_36 rfl ?_
            refine g_zret C G hr hlk (by decide) (Nat.le_of_ble_eq_true rfl) (Nat.le_of_ble_eq_true rfl) dX5_isSameAs_37 ?_
            exact ⟨rfl, Or.inr ⟨fun q => absurd (q k hk0 (by omega)) (by omega), rfl⟩⟩
  exact lp_2_n_2 _ 0 (Nat.lt_succ_self _) (by omega) (by omega) (fun i i0 i1 => absurd i1 (by omega)) _ _ G _ (lv_sub hl [1, 2, 0] rfl)
theorem fX5_cutRosette_21 : gFld wsX5_cutRosette RX5 21 3 0 := ⟨RX3, TX3, 4, rfl, by decide, by decide +kernel, by decide +kernel⟩
set_option maxHeartbeats 4000000 in
set_option maxRecDepth 100000 in
theorem c_X5_cutRosette (l : Launch) (κ : gKap) (B n : Nat) (ad : Nat → Nat) (g : Nat → va_E) (po : Nat) (W9 : Int → Nat) (lo : Nat) (w : Int) (sd : Int) (ho : Int) (st0 : Int) (S9 : Int → Int → Prop) (ring : Int) (hp : po + 1 < n) (he : g po = .inr (5, [.ref (ad (po + 1))])) (hw : g (po + 1) = aW κ 602 W9) (hlp : lo < n) (hel : g lo = oL w sd ho st0) (hne : lo ≠ po ∧ lo ≠ po + 1) (hok : okL w sd ho) (hrg : 12 ≤ ring ∧ ring ≤ 96) (hst : 0 ≤ st0 ∧ st0 < ring) (hrep : repW W9 S9) : Met l yX5_cutRosette wsX5_cutRosette ({ frames := 2, cells := 0, slots := 0, locals := 51 }) (gPre κ B n ad g [.ref (ad po), .int (iz ring), .ref (ad lo)]) (gQv κ B n ad (fun g' => ∃ V9, g' = va_up g (po + 1) (aW κ 602 V9) ∧ repW V9 (fun a r => S9 a r ∨ PT ring w sd ho st0 a r))) 0 0 (gFree B) := by
  refine g_met RX5 (cc := cX5_cutRosette) (maxL := 7) (ret := none) (by decide) rfl rfl (Nat.le_of_ble_eq_true rfl) ?_
  intro p e s m args below meth c C hr hlk hnm G ls hl
  have hl : lv_has ls 7 [(0, .ref (ad po)), (1, .int (iz ring)), (2, .ref (ad lo))] := hl
  refine g_aload_n C dX5_cutRosette_0 rfl hl 2 rfl ?_
  refine g_iload_n C dX5_cutRosette_1 rfl hl 1 rfl ?_
  refine g_ci C G (g_runV (As := [.int (iz ring)]) (rest := []) (pos := lo) C G (c_X3_lobes l κ B n ad g lo w sd ho st0 ring (by omega) hel (by omega) (by omega)) (cwV 1 C.1.2.2.2.2 gX5_cutRosette_X3_lobes rfl rfl rfl (by decide +kernel) ⟨Nat.le_of_ble_eq_true rfl, Nat.le_of_ble_eq_true rfl⟩) (by omega) hel (T := TX3) (N := 4) rfl rfl hl rfl (Nat.le_of_ble_eq_true rfl) dX5_cutRosette_2 ⟨Nat.le_of_ble_eq_true rfl, Nat.le_of_ble_eq_true rfl⟩) (fun z_1 g9 H locs hw G => ?_)
  obtain ⟨hg9, h_2⟩ := hw
  replace hg9 := hg9.symm
  subst hg9
  refine lv_istore_n (lv' := [(3, .int (iz z_1)), (0, .ref (ad po)), (1, .int (iz ring)), (2, .ref (ad lo))]) C.1.1 C.1.2.1 dX5_cutRosette_5 rfl hl (by decide) rfl (fun ls hl => ?_)
  refine g_iconst (a := 0) C dX5_cutRosette_6 rfl ?_
  refine lv_istore (lv' := [(4, .int (iz 0)), (3, .int (iz z_1)), (0, .ref (ad po)), (1, .int (iz ring)), (2, .ref (ad lo))]) C.1.1 C.1.2.1 dX5_cutRosette_7 hl (by decide) rfl (fun ls hl => ?_)
  have lp_9_n_4 : ∀ (k_3 : Nat) (u : Int) (V9 : Int → Nat) (gv : Nat → va_E), (w - u).toNat < k_3 → (0 ≤ u) → (u ≤ w) → (gv = va_up g (po + 1) (aW κ 602 V9)) → (repW V9 (fun a r => S9 a r ∨ PTp ring w sd ho st0 u 0 a r)) → ∀ (H : Heap) (locs : List Loc), gG κ B n ad s gv H locs → ∀ (ls : Array Slot), lv_has ls 7 [(0, .ref (ad po)), (1, .int (iz ring)), (2, .ref (ad lo)), (3, .int (iz z_1)), (4, .int (iz u))] → W p l e ({ frames := 2, cells := 0, slots := 0, locals := 51 }) s m args below meth c H locs 0 0 (MQ below (gQv κ B n ad (fun g' => ∃ V9, g' = va_up g (po + 1) (aW κ 602 V9) ∧ repW V9 (fun a r => S9 a r ∨ PT ring w sd ho st0 a r))) args s 0 0 (gFree B)) (F0 m 9 ls []) := by
    intro k_3
    induction k_3 with
    | zero => intro u V9 gv hm; exact absurd hm (Nat.not_lt_zero _)
    | succ k_3 ih_lp_9_n_4 =>
      intro u V9 gv hm hu0 hu1 hgv hrv H locs G ls hl
      have he_5 : gv po = .inr (5, [.ref (ad (po + 1))]) := by rw [hgv, gu_ne (by omega)]; exact he
      have hw_6 : gv (po + 1) = aW κ 602 V9 := by rw [hgv]; exact gu_self _ _ _
      have hl_7 : gv lo = oL w sd ho st0 := by rw [hgv, gu_ne (by omega)]; exact hel
      refine g_iload C dX5_cutRosette_9 hl 4 rfl ?_
      refine g_aload_n C dX5_cutRosette_11 rfl hl 2 rfl ?_
      refine g_get C G (pos := lo) fX5_cutRosette_21 (by omega) hl_7 rfl dX5_cutRosette_12 ?_
      refine g_icmp_ge (tgt := 70) C (by omega) (by omega) dX5_cutRosette_15 (by decide) (fun c_8 => ?_) (fun c_8 => ?_)
      · refine g_vret C G hr hlk (Nat.le_of_ble_eq_true rfl) (Nat.le_of_ble_eq_true rfl) dX5_cutRosette_70 ?_
        exact ⟨V9, hgv, hrv.iff (fun a r _ _ _ _ => by rw [show u = w by omega, PTp_all (by omega)])⟩
      · refine g_aload_n C dX5_cutRosette_18 rfl hl 2 rfl ?_
        refine g_iload C dX5_cutRosette_19 hl 4 rfl ?_
        refine g_i2l C (by omega) dX5_cutRosette_21 ?_
        refine g_ci C G (g_runV (As := [.long (jz u)]) (rest := []) (pos := lo) C G (c_X3_radiusAt l κ B n ad gv lo w sd ho st0 u (by omega) hl_7 (by omega) (by omega) (by omega)) (cwV 1 C.1.2.2.2.2 gX5_cutRosette_X3_radiusAt rfl rfl rfl (by decide +kernel) ⟨Nat.le_of_ble_eq_true rfl, Nat.le_of_ble_eq_true rfl⟩) (by omega) hl_7 (T := TX3) (N := 4) rfl rfl hl rfl (Nat.le_of_ble_eq_true rfl) dX5_cutRosette_22 ⟨Nat.le_of_ble_eq_true rfl, Nat.le_of_ble_eq_true rfl⟩) (fun z_9 g9 H locs hw G => ?_)
        obtain ⟨hg9, h_10⟩ := hw
        replace hg9 := hg9.symm
        subst hg9
        refine lv_istore (lv' := [(5, .int (iz z_9)), (0, .ref (ad po)), (1, .int (iz ring)), (2, .ref (ad lo)), (3, .int (iz z_1)), (4, .int (iz u))]) C.1.1 C.1.2.1 dX5_cutRosette_25 hl (by decide) rfl (fun ls hl => ?_)
        refine g_iconst (a := 0) C dX5_cutRosette_27 rfl ?_
        refine lv_istore (lv' := [(6, .int (iz 0)), (5, .int (iz z_9)), (0, .ref (ad po)), (1, .int (iz ring)), (2, .ref (ad lo)), (3, .int (iz z_1)), (4, .int (iz u))]) C.1.1 C.1.2.1 dX5_cutRosette_28 hl (by decide) rfl (fun ls hl => ?_)
        have lp_30_n_12 : ∀ (k_11 : Nat) (j : Int) (U9 : Int → Nat) (gw : Nat → va_E), (lb ring w - j).toNat < k_11 → (0 ≤ j) → (j ≤ lb ring w) → (gw = va_up g (po + 1) (aW κ 602 U9)) → (repW U9 (fun a r => S9 a r ∨ PTp ring w sd ho st0 u j a r)) → ∀ (H : Heap) (locs : List Loc), gG κ B n ad s gw H locs → ∀ (ls : Array Slot), lv_has ls 7 [(0, .ref (ad po)), (1, .int (iz ring)), (2, .ref (ad lo)), (3, .int (iz z_1)), (4, .int (iz u)), (5, .int (iz z_9)), (6, .int (iz j))] → W p l e ({ frames := 2, cells := 0, slots := 0, locals := 51 }) s m args below meth c H locs 0 0 (MQ below (gQv κ B n ad (fun g' => ∃ V9, g' = va_up g (po + 1) (aW κ 602 V9) ∧ repW V9 (fun a r => S9 a r ∨ PT ring w sd ho st0 a r))) args s 0 0 (gFree B)) (F0 m 30 ls []) := by
          intro k_11
          induction k_11 with
          | zero => intro j U9 gw hm; exact absurd hm (Nat.not_lt_zero _)
          | succ k_11 ih_lp_30_n_12 =>
            intro j U9 gw hm hj0 hj1 hgw hrw H locs G ls hl
            have he_13 : gw po = .inr (5, [.ref (ad (po + 1))]) := by rw [hgw, gu_ne (by omega)]; exact he
            have hw_14 : gw (po + 1) = aW κ 602 U9 := by rw [hgw]; exact gu_self _ _ _
            have hl_15 : gw lo = oL w sd ho st0 := by rw [hgw, gu_ne (by omega)]; exact hel
            refine g_iload C dX5_cutRosette_30 hl 6 rfl ?_
            refine g_iload_n C dX5_cutRosette_32 rfl hl 3 rfl ?_
            refine g_icmp_ge (tgt := 64) C (by omega) (by omega) dX5_cutRosette_33 (by decide) (fun c_16 => ?_) (fun c_16 => ?_)
            · refine lv_iinc (v := iz (u + 1)) (lv' := [(4, .int (iz (u + 1))), (0, .ref (ad po)), (1, .int (iz ring)), (2, .ref (ad lo)), (3, .int (iz z_1)), (5, .int (iz z_9)), (6, .int (iz j))]) C.1.1 C.1.2.1 dX5_cutRosette_64 hl (k := 4) rfl (g_inc (by omega)) (by decide) rfl (fun ls hl => ?_)
              refine g_goto (tgt := 9) C dX5_cutRosette_67 (by decide) ?_
              exact ih_lp_9_n_4 (u + 1) U9 gw (by omega) (by omega) (by omega) hgw (hrw.iff (fun a r _ _ _ _ => by rw [show j = lb ring w by omega, PTp_next (by omega) (by omega)])) _ _ G _ (lv_sub hl [1, 2, 3, 4, 0] rfl)
            · refine g_aload_n C dX5_cutRosette_36 rfl hl 0 rfl ?_
              refine g_aload_n C dX5_cutRosette_37 rfl hl 2 rfl ?_
              refine g_iload_n C dX5_cutRosette_38 rfl hl 1 rfl ?_
              refine g_iload C dX5_cutRosette_39 hl 4 rfl ?_
              refine g_iload C dX5_cutRosette_41 hl 6 rfl ?_
              refine g_aload_n C dX5_cutRosette_43 rfl hl 2 rfl ?_
              refine g_get C G (pos := lo) fX5_cutRosette_21 (by omega) hl_15 rfl dX5_cutRosette_44 ?_
              have hjw := mul_r (a := j) (b := w) (x := 96) (y := 60) (by omega) (by omega) (by omega) (by omega)
              refine g_imul C dX5_cutRosette_47 ?_
              refine g_iadd C dX5_cutRosette_48 ?_
              refine g_i2l C (by omega) dX5_cutRosette_49 ?_
              refine g_ci C G (g_runV (As := [.int (iz ring), .long (jz (u + (j * w)))]) (rest := [.ref (ad po)]) (pos := lo) C G (c_X3_angleAt l κ B n ad gw lo w sd ho st0 ring (u + (j * w)) (by omega) hl_15 (by omega) (by omega) (by omega) (by omega)) (cwV 2 C.1.2.2.2.2 gX5_cutRosette_X3_angleAt rfl rfl rfl (by decide +kernel) ⟨Nat.le_of_ble_eq_true rfl, Nat.le_of_ble_eq_true rfl⟩) (by omega) hl_15 (T := TX3) (N := 4) rfl rfl hl rfl (Nat.le_of_ble_eq_true rfl) dX5_cutRosette_50 ⟨Nat.le_of_ble_eq_true rfl, Nat.le_of_ble_eq_true rfl⟩) (fun z_17 g9 H locs hw G => ?_)
              obtain ⟨hg9, h_18⟩ := hw
              replace hg9 := hg9.symm
              subst hg9
              refine g_iload C dX5_cutRosette_53 hl 5 rfl ?_
              refine g_cv C G (g_runV (As := [.int (iz z_17), .int (iz z_9)]) (rest := []) (pos := po) C G (c_X5_cut l κ B n ad gw po U9 z_17 z_9 (by omega) he_13 hw_14 (by omega) (by omega)) (cwV 2 C.1.2.2.2.2 gX5_cutRosette_X5_cut rfl rfl rfl (by decide +kernel) ⟨Nat.le_of_ble_eq_true rfl, Nat.le_of_ble_eq_true rfl⟩) (by omega) he_13 (T := TX5) (N := 1) rfl rfl hl rfl (Nat.le_of_ble_eq_true rfl) dX5_cutRosette_55 ⟨Nat.le_of_ble_eq_true rfl, Nat.le_of_ble_eq_true rfl⟩) (fun g9 H locs hw9 G => ?_)
              obtain ⟨W_19, hw9, hW_20⟩ := hw9
              subst hw9
              obtain ⟨g_21, hg_22⟩ : ∃ g9, g9 = va_up gw (po + 1) (aW κ 602 W_19) := ⟨_, rfl⟩
              rw [← hg_22] at G
              have hc_23 : g_21 po = .inr (5, [.ref (ad (po + 1))]) := by rw [hg_22, gu_ne (by omega)]; exact he_13
              have hc_24 : g_21 (po + 1) = aW κ 602 W_19 := by rw [hg_22]; exact gu_self _ _ _
              have hc_25 : g_21 lo = .inr (3, [.int (iz w), .int (iz sd), .int (iz ho), .int (iz st0)]) := by rw [hg_22, gu_ne (by omega)]; exact hl_15
              refine lv_iinc (v := iz (j + 1)) (lv' := [(6, .int (iz (j + 1))), (0, .ref (ad po)), (1, .int (iz ring)), (2, .ref (ad lo)), (3, .int (iz z_1)), (4, .int (iz u)), (5, .int (iz z_9))]) C.1.1 C.1.2.1 dX5_cutRosette_58 hl (k := 6) rfl (g_inc (by omega)) (by decide) rfl (fun ls hl => ?_)
              refine g_goto (tgt := 30) C dX5_cutRosette_61 (by decide) ?_
              exact ih_lp_30_n_12 (j + 1) W_19 g_21 (by omega) (by omega) (by omega) (by rw [hg_22, hgw, gu_up]) (by rw [hW_20]; exact (hrw.cut (by omega) (by omega)).iff (fun a r _ _ _ _ => by rw [PTp_step (by omega) (by omega) ⟨hu0, by omega⟩ ⟨hj0, by omega⟩, h_18.2.2, h_10.2.2, Int.emod_eq_of_lt hu0 (by omega), or_assoc])) _ _ G _ (lv_sub hl [1, 2, 3, 4, 5, 6, 0] rfl)
        exact lp_30_n_12 _ 0 V9 gv (Nat.lt_succ_self _) (by omega) (by omega) hgv hrv _ _ G _ (lv_sub hl [2, 3, 4, 5, 6, 1, 0] rfl)
  exact lp_9_n_4 _ 0 W9 g (Nat.lt_succ_self _) (by omega) (by omega) (by funext q; by_cases hq : q = po + 1 <;> simp [va_up, hq, hw]) (hrep.iff (fun a r _ _ _ _ => ⟨Or.inl, fun q => q.elim id (fun z => absurd z (PTp_0 (by omega)))⟩)) _ _ G _ (lv_sub hl [2, 3, 4, 1, 0] rfl)
