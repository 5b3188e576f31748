/-! ROSETTEPLATE (X7): simulate -/
def xsq (s : Int) : Nat → Int
  | 0 => s
  | k + 1 => xsq s k * 6364136223846793005 + 1442695040888963407
theorem xsq_step {s k : Int} (hk : 0 ≤ k) : xsq s (k + 1).toNat = xsq s k.toNat * 6364136223846793005 + 1442695040888963407 := by
  have h1 : (k + 1).toNat = k.toNat + 1 := by omega
  rw [h1]
  rfl
theorem jz_lN (x : Int) : jz x = lN (x % 18446744073709551616).toNat := by
  have h0 : 0 ≤ x % 18446744073709551616 := Int.emod_nonneg _ (by decide)
  have h1 : jz x = jz (x % 18446744073709551616) := by
    apply Int64.toBitVec_inj.mp
    show BitVec.ofInt 64 x = BitVec.ofInt 64 (x % 18446744073709551616)
    apply BitVec.eq_of_toInt_eq
    simp only [BitVec.toInt_ofInt]
    show Int.bmod x 18446744073709551616 = Int.bmod (x % 18446744073709551616) 18446744073709551616
    unfold Int.bmod
    rw [show x % 18446744073709551616 % ((18446744073709551616 : Nat) : Int) = x % ((18446744073709551616 : Nat) : Int) from by omega]
  rw [h1]
  show Int64.ofInt _ = Int64.ofNat _
  conv => lhs; rw [← Int.toNat_of_nonneg h0]
  exact Int64.ofInt_eq_ofNat
def rof (x : Int) : Int := (((x % 18446744073709551616).toNat / 2 ^ 33 : Nat) : Int)
def smr (s k : Int) : Int := rof (xsq s (k + 1).toNat)
theorem smr_rg {s k : Int} : 0 ≤ smr s k ∧ smr s k < 2147483648 := by
  unfold smr rof
  omega
def sma (ring s k : Int) : Int := (0 + smr s k / 4096 % 1000) % ring
def smd (s k : Int) : Int := rad (5 + smr s k % 56) (smr s k / 64 % 2) (smr s k / 128 % 21) (smr s k / 4096 % 1000 % (5 + smr s k % 56))
def smx (s : Int) : Nat → Int
  | 0 => 0
  | k + 1 => max (smx s k) (smd s (k : Int))
theorem smx_step {s k : Int} (hk : 0 ≤ k) : smx s (k + 1).toNat = max (smx s k.toNat) (smd s k) := by
  have h1 : (k + 1).toNat = k.toNat + 1 := by omega
  have h2 : ((k.toNat : Nat) : Int) = k := Int.toNat_of_nonneg hk
  rw [h1]
  show max (smx s k.toNat) (smd s ((k.toNat : Nat) : Int)) = _
  rw [h2]
theorem sim_step {ring s k x y a r : Int} (hk : 0 ≤ k) (ha : a = sma ring s k) (hr : r = smd s k) : ((∃ j, 0 ≤ j ∧ j < k ∧ x = sma ring s j ∧ y = smd s j) ∨ (x = a ∧ y = r)) ↔ ∃ j, 0 ≤ j ∧ j < k + 1 ∧ x = sma ring s j ∧ y = smd s j := by
  constructor
  · rintro (⟨j, j0, j1, j2, j3⟩ | ⟨h1, h2⟩)
    · exact ⟨j, j0, by omega, j2, j3⟩
    · exact ⟨k, hk, by omega, h1.trans ha, h2.trans hr⟩
  · rintro ⟨j, j0, j1, j2, j3⟩
    by_cases h : j = k
    · subst h
      exact Or.inr ⟨j2.trans ha.symm, j3.trans hr.symm⟩
    · exact Or.inl ⟨j, j0, by omega, j2, j3⟩
theorem fX7_simulate_41 : gFld wsX7_simulate RX7 41 7 7 := ⟨RX7, TX7, 8, rfl, by decide, by decide +kernel, by decide +kernel⟩
theorem fX7_simulate_280 : gFld wsX7_simulate RX7 280 0 2 := ⟨RX0, TX0, 3, rfl, by decide, by decide +kernel, by decide +kernel⟩
theorem fX7_simulate_316 : gFld wsX7_simulate RX7 316 0 0 := ⟨RX0, TX0, 3, rfl, by decide, by decide +kernel, by decide +kernel⟩
theorem fX7_simulate_16 : gFld wsX7_simulate RX7 16 7 2 := ⟨RX7, TX7, 8, rfl, by decide, by decide +kernel, by decide +kernel⟩
theorem fX7_simulate_86 : gFld wsX7_simulate RX7 86 4 0 := ⟨RX4, TX4, 6, rfl, by decide, by decide +kernel, by decide +kernel⟩
set_option maxHeartbeats 4000000 in
set_option maxRecDepth 100000 in
theorem c_X7_simulate (l : Launch) (hlf : l.stackTraces = false) (κ : gKap) (B n : Nat) (ad : Nat → Nat) (g : Nat → va_E) (tl : Int) (nl : Int) (v : Int → Int) (sd9 : Int) (m9 : Int) (hnn : 192 ≤ n) (hX : isX κ ad g tl) (hpl : isPl κ ad g 2 nl v) (hok : okPl nl v) (hbn : isBn κ ad g 186) (hsd9 : inJ sd9) (hm9 : inI m9) : vx_Met l yX7_simulate wsX7_simulate ({ frames := 6, cells := 1, slots := 6, locals := 82 }) (gPreX κ B n ad g [.ref (ad 0), .long (jz sd9), .int (iz m9)]) (gQi κ B n ad (fun z g' => isBn κ ad g' 186 ∧ frB g g' 186 ∧ (1 ≤ m9 ∧ m9 ≤ 200) ∧ z = 1000 * (cntS (fun x y => ∃ j, 0 ≤ j ∧ j < m9 ∧ x = sma (v 0) sd9 j ∧ y = smd sd9 j) : Int) + smx sd9 m9.toNat)) (gXX κ B n ad (fun E g9 => (E = "java/lang/IllegalArgumentException" ∧ (¬ (1 ≤ m9 ∧ m9 ≤ 200)) ∧ g9 = g))) 1 6 (gFree B) := by
  refine g_metX RX7 (cc := cX7_simulate) (maxL := 12) (ret := (some .int)) (by decide) rfl rfl (Nat.le_of_ble_eq_true rfl) ?_
  intro p e s m args below meth c C hr hlk hnt X G ls hl
  have hl : lv_has ls 12 [(0, .ref (ad 0)), (1, .long (jz sd9)), (3, .int (iz m9))] := hl
  obtain ⟨hn6, hv0, hv25, hlay, hsee⟩ := id hok
  obtain ⟨hb0, hb1, hb3, ⟨W1, hb2⟩, ⟨W2, hb4⟩, tw9, ts9, th9, tt9, hb5⟩ := id hbn
  refine g_iload_n C dX7_simulate_0 rfl hl 2 rfl ?_
  refine g_iconst (a := 1) C dX7_simulate_1 rfl ?_
  refine g_icmp_lt (tgt := 12) C (by omega) (by decide) dX7_simulate_2 (by decide) (fun c_1 => ?_) (fun c_1 => ?_)
  · refine g_throwW C G X hlf hlk hnt hl (cls := "java/lang/IllegalArgumentException") (text := "m is not 1 to 200") (ik := 45) (is := 314) (ic := 49) (by decide +kernel) (by decide +kernel : Cond.classLink RX7 45 _ ∈ wsX7_simulate) (by decide +kernel : Cond.initialized _ ∈ wsX7_simulate) (by decide +kernel) (by decide +kernel) (by decide +kernel) at_iae (by decide +kernel) dX7_simulate_12 dX7_simulate_15 dX7_simulate_16 dX7_simulate_19 dX7_simulate_22 (Nat.le_of_ble_eq_true rfl) (Nat.le_of_ble_eq_true rfl) (Nat.le_of_ble_eq_true rfl) (Nat.le_of_ble_eq_true rfl) (Nat.le_of_ble_eq_true rfl) (Nat.le_of_ble_eq_true rfl) ?_
    exact ⟨rfl, by omega, rfl⟩
  · refine g_iload_n C dX7_simulate_5 rfl hl 2 rfl ?_
    refine g_sipush (a := 200) C dX7_simulate_6 (by decide) ?_
    refine g_icmp_le (tgt := 23) C (by omega) (by decide) dX7_simulate_9 (by decide) (fun c_2 => ?_) (fun c_2 => ?_)
    · refine g_aload_n C dX7_simulate_23 rfl hl 0 rfl ?_
      refine g_get C G (pos := 0) fX7_simulate_41 (by omega) hX.1 rfl dX7_simulate_24 ?_
      refine g_get C G (pos := 186) fX7_simulate_280 (by omega) hb0 rfl dX7_simulate_27 ?_
      refine lv_astore (lv' := [(4, .ref (ad (186 + 5))), (0, .ref (ad 0)), (1, .long (jz sd9)), (3, .int (iz m9))]) C.1.1 C.1.2.1 dX7_simulate_30 hl (by decide) rfl (fun ls hl => ?_)
      refine g_aload_n C dX7_simulate_32 rfl hl 1 rfl ?_
      refine g_get C G (pos := 0) fX7_simulate_41 (by omega) hX.1 rfl dX7_simulate_33 ?_
      refine g_get C G (pos := 186) fX7_simulate_316 (by omega) hb0 rfl dX7_simulate_36 ?_
      refine g_cv C G (g_runV (As := []) (rest := []) (pos := 186 + 1) C G (c_X5_clear l κ B n ad g (186 + 1) W1 (by omega) hb1 hb2) (cwV 0 C.1.2.2.2.2 gX7_simulate_X5_clear rfl rfl rfl (by decide +kernel) ⟨Nat.le_of_ble_eq_true rfl, Nat.le_of_ble_eq_true rfl⟩) (by omega) hb1 (T := TX5) (N := 1) rfl rfl hl rfl (Nat.le_of_ble_eq_true rfl) dX7_simulate_39 ⟨Nat.le_of_ble_eq_true rfl, Nat.le_of_ble_eq_true rfl⟩) (fun g9 H locs hw9 G => ?_)
      obtain ⟨W_3, hw9, hW_4⟩ := hw9
      subst hw9
      obtain ⟨g_5, hg_6⟩ : ∃ g9, g9 = va_up g (186 + 1 + 1) (aW κ 602 W_3) := ⟨_, rfl⟩
      rw [← hg_6] at G
      have hc_7 : g_5 0 = .inr (7, [.ref (ad 1), .int (iz tl), .ref (ad 2), .ref (ad 12), .ref (ad 22), .ref (ad 164), .ref (ad 165), .ref (ad 186)]) := by rw [hg_6, gu_ne (by omega)]; exact hX.1
      have hc_8 : g_5 164 = aPl κ 2 (fun j => if j < 2 then some (ad (166 + 10 * j)) else none) := by rw [hg_6, gu_ne (by omega)]; exact hX.2
      have hc_9 : g_5 186 = .inr (0, [.ref (ad (186 + 1)), .ref (ad (186 + 3)), .ref (ad (186 + 5))]) := by rw [hg_6, gu_ne (by omega)]; exact hb0
      have hc_10 : g_5 (186 + 1) = .inr (5, [.ref (ad (186 + 1 + 1))]) := by rw [hg_6, gu_ne (by omega)]; exact hb1
      have hc_11 : g_5 (186 + 3) = .inr (5, [.ref (ad (186 + 3 + 1))]) := by rw [hg_6, gu_ne (by omega)]; exact hb3
      have hc_12 : g_5 (186 + 1 + 1) = aW κ 602 W_3 := by rw [hg_6]; exact gu_self _ _ _
      have hc_13 : g_5 (186 + 3 + 1) = aW κ 602 W2 := by rw [hg_6, gu_ne (by omega)]; exact hb4
      have hc_14 : g_5 (186 + 5) = .inr (3, [.int (iz tw9), .int (iz ts9), .int (iz th9), .int (iz tt9)]) := by rw [hg_6, gu_ne (by omega)]; exact hb5
      have hpl_15 : isPl κ ad g_5 2 nl v := by rw [hg_6]; exact hpl.out (by omega)
      refine g_iconst (a := 0) C dX7_simulate_42 rfl ?_
      refine lv_istore (lv' := [(5, .int (iz 0)), (4, .ref (ad (186 + 5))), (0, .ref (ad 0)), (1, .long (jz sd9)), (3, .int (iz m9))]) C.1.1 C.1.2.1 dX7_simulate_43 hl (by decide) rfl (fun ls hl => ?_)
      refine g_lload_n C dX7_simulate_45 rfl hl 3 rfl ?_
      refine lv_lstore (lv' := [(6, .long (jz sd9)), (5, .int (iz 0)), (4, .ref (ad (186 + 5))), (0, .ref (ad 0)), (1, .long (jz sd9)), (3, .int (iz m9))]) C.1.1 C.1.2.1 dX7_simulate_46 hl (by decide) rfl (fun ls hl => ?_)
      refine g_iconst (a := 0) C dX7_simulate_48 rfl ?_
      refine lv_istore (lv' := [(8, .int (iz 0)), (6, .long (jz sd9)), (5, .int (iz 0)), (4, .ref (ad (186 + 5))), (0, .ref (ad 0)), (1, .long (jz sd9)), (3, .int (iz m9))]) C.1.1 C.1.2.1 dX7_simulate_49 hl (by decide) rfl (fun ls hl => ?_)
      have lp_51_n_17 : ∀ (k_16 : Nat) (k : Int) (V1 : Int → Nat) (t1 : Int) (t2 : Int) (t3 : Int) (t4 : Int) (gre : Int) (gv : Nat → va_E), (m9 - k).toNat < k_16 → (0 ≤ k ∧ k ≤ m9) → (isPl κ ad gv 2 nl v) → (gv 0 = .inr (7, [.ref (ad 1), .int (iz tl), .ref (ad 2), .ref (ad 12), .ref (ad 22), .ref (ad 164), .ref (ad 165), .ref (ad 186)])) → (gv 186 = .inr (0, [.ref (ad (186 + 1)), .ref (ad (186 + 3)), .ref (ad (186 + 5))])) → (gv (186 + 1) = .inr (5, [.ref (ad (186 + 1 + 1))])) → (gv (186 + 3) = .inr (5, [.ref (ad (186 + 3 + 1))])) → (gv (186 + 3 + 1) = aW κ 602 W2) → (gv (186 + 1 + 1) = aW κ 602 V1) → (gv (186 + 5) = oL t1 t2 t3 t4) → (frB g gv 186) → (repW V1 (fun x y => ∃ j, 0 ≤ j ∧ j < k ∧ x = sma (v 0) sd9 j ∧ y = smd sd9 j)) → (gre = smx sd9 k.toNat ∧ 0 ≤ gre ∧ gre ≤ 280) → ∀ (H : Heap) (locs : List Loc), gG κ B n ad s gv H locs → ∀ (ls : Array Slot), lv_has ls 12 [(0, .ref (ad 0)), (1, .long (jz sd9)), (3, .int (iz m9)), (4, .ref (ad (186 + 5))), (5, .int (iz gre)), (6, .long (jz (xsq sd9 k.toNat))), (8, .int (iz k))] → W p l e ({ frames := 6, cells := 1, slots := 6, locals := 82 }) s m args below meth c H locs 0 0 (vx_MQ below (gQi κ B n ad (fun z g' => isBn κ ad g' 186 ∧ frB g g' 186 ∧ (1 ≤ m9 ∧ m9 ≤ 200) ∧ z = 1000 * (cntS (fun x y => ∃ j, 0 ≤ j ∧ j < m9 ∧ x = sma (v 0) sd9 j ∧ y = smd sd9 j) : Int) + smx sd9 m9.toNat)) (gXX κ B n ad (fun E g9 => (E = "java/lang/IllegalArgumentException" ∧ (¬ (1 ≤ m9 ∧ m9 ≤ 200)) ∧ g9 = g))) args s 1 6 (gFree B)) (F0 m 51 ls []) := by
        intro k_16
        induction k_16 with
        | zero => intro k V1 t1 t2 t3 t4 gre gv hm; exact absurd hm (Nat.not_lt_zero _)
        | succ k_16 ih_lp_51_n_17 =>
          intro k V1 t1 t2 t3 t4 gre gv hm hk hgp hk0 hk1 hk2 hk3 hk5 hk4 hk6 hfb hrv hgre H locs G ls hl
          have hsr : 0 ≤ smr sd9 k ∧ smr sd9 k < 2147483648 := smr_rg
          refine g_iload C dX7_simulate_51 hl 6 rfl ?_
          refine g_iload_n C dX7_simulate_53 rfl hl 2 rfl ?_
          refine g_icmp_ge (tgt := 170) C (by omega) (by omega) dX7_simulate_54 (by decide) (fun c_18 => ?_) (fun c_18 => ?_)
          · refine g_sipush (a := 1000) C dX7_simulate_170 (by decide) ?_
            refine g_aload_n C dX7_simulate_173 rfl hl 0 rfl ?_
            refine g_get C G (pos := 0) fX7_simulate_41 (by omega) hk0 rfl dX7_simulate_174 ?_
            refine g_get C G (pos := 186) fX7_simulate_316 (by omega) hk1 rfl dX7_simulate_177 ?_
            refine g_ci C G (g_runV (As := []) (rest := [.int (iz 1000)]) (pos := 186 + 1) C G (c_X5_size l κ B n ad gv (186 + 1) V1 (by omega) hk2 hk4 hrv.lt) (cwV 0 C.1.2.2.2.2 gX7_simulate_X5_size rfl rfl rfl (by decide +kernel) ⟨Nat.le_of_ble_eq_true rfl, Nat.le_of_ble_eq_true rfl⟩) (by omega) hk2 (T := TX5) (N := 1) rfl rfl hl rfl (Nat.le_of_ble_eq_true rfl) dX7_simulate_180 ⟨Nat.le_of_ble_eq_true rfl, Nat.le_of_ble_eq_true rfl⟩) (fun z_19 g9 H locs hw G => ?_)
            obtain ⟨hg9, h_20⟩ := hw
            replace hg9 := hg9.symm
            subst hg9
            refine g_imul C dX7_simulate_183 ?_
            refine g_iload C dX7_simulate_184 hl 4 rfl ?_
            refine g_iadd C dX7_simulate_186 ?_
            refine vx_ret ?_
            refine g_iret C G hr hlk (Nat.le_of_ble_eq_true rfl) (Nat.le_of_ble_eq_true rfl) dX7_simulate_187 ?_
            have hk9 : k = m9 := by omega
            subst hk9
            exact ⟨⟨hk1, hk2, hk3, ⟨_, hk4⟩, ⟨_, hk5⟩, ⟨_, _, _, _, hk6⟩⟩, hfb, by omega, by rw [hgre.1, h_20.1, hrv.cnt]⟩
          · refine g_lload C dX7_simulate_57 hl 5 rfl ?_
            refine g_ldc2 (a := 6364136223846793005) C (by decide +kernel) dX7_simulate_59 ?_
            refine g_lmul C dX7_simulate_62 ?_
            refine g_ldc2 (a := 1442695040888963407) C (by decide +kernel) dX7_simulate_63 ?_
            refine g_ladd C dX7_simulate_66 ?_
            rw [show xsq sd9 k.toNat * 6364136223846793005 + 1442695040888963407 = xsq sd9 (k + 1).toNat from (xsq_step hk.1).symm]
            refine lv_lstore (lv' := [(6, .long (jz (xsq sd9 (k + 1).toNat))), (0, .ref (ad 0)), (1, .long (jz sd9)), (3, .int (iz m9)), (4, .ref (ad (186 + 5))), (5, .int (iz gre)), (8, .int (iz k))]) C.1.1 C.1.2.1 dX7_simulate_67 hl (by decide) rfl (fun ls hl => ?_)
            refine g_lload C dX7_simulate_69 hl 0 rfl ?_
            rw [jz_lN (xsq sd9 (k + 1).toNat)]
            refine g_bipush (a := 33) C dX7_simulate_71 (by decide) ?_
            refine g_lushrN C 33 (by decide) (by decide) (by omega) dX7_simulate_73 ?_
            refine g_l2iN C dX7_simulate_74 ?_
            rw [show ((((xsq sd9 (k + 1).toNat % 18446744073709551616).toNat) / 2 ^ 33 : Nat) : Int) = smr sd9 k from rfl]
            refine lv_istore (lv' := [(9, .int (iz (smr sd9 k))), (6, .long (jz (xsq sd9 (k + 1).toNat))), (0, .ref (ad 0)), (1, .long (jz sd9)), (3, .int (iz m9)), (4, .ref (ad (186 + 5))), (5, .int (iz gre)), (8, .int (iz k))]) C.1.1 C.1.2.1 dX7_simulate_75 hl (by decide) rfl (fun ls hl => ?_)
            refine g_aload C dX7_simulate_77 hl 5 rfl ?_
            refine g_iconst (a := 5) C dX7_simulate_79 rfl ?_
            refine g_iload C dX7_simulate_80 hl 0 rfl ?_
            refine g_bipush (a := 56) C dX7_simulate_82 (by decide) ?_
            refine g_irem C (by omega) (by decide) (by decide) dX7_simulate_84 ?_
            rw [show (Int.tmod (smr sd9 k) 56 : Int) = (smr sd9 k) % 56 from (tmod_pos (by omega))]
            refine g_iadd C dX7_simulate_85 ?_
            refine g_iload C dX7_simulate_86 hl 0 rfl ?_
            refine g_bipush (a := 64) C dX7_simulate_88 (by decide) ?_
            refine g_idiv C (by omega) (by decide) (by decide) dX7_simulate_90 ?_
            rw [show (Int.tdiv (smr sd9 k) 64 : Int) = (smr sd9 k) / 64 from (tdiv_pos (by omega))]
            refine g_iconst (a := 2) C dX7_simulate_91 rfl ?_
            refine g_irem C (by omega) (by decide) (by decide) dX7_simulate_92 ?_
            rw [show (Int.tmod ((smr sd9 k) / 64) 2 : Int) = ((smr sd9 k) / 64) % 2 from (tmod_pos (by omega))]
            refine g_iload C dX7_simulate_93 hl 0 rfl ?_
            refine g_sipush (a := 128) C dX7_simulate_95 (by decide) ?_
            refine g_idiv C (by omega) (by decide) (by decide) dX7_simulate_98 ?_
            rw [show (Int.tdiv (smr sd9 k) 128 : Int) = (smr sd9 k) / 128 from (tdiv_pos (by omega))]
            refine g_bipush (a := 21) C dX7_simulate_99 (by decide) ?_
            refine g_irem C (by omega) (by decide) (by decide) dX7_simulate_101 ?_
            rw [show (Int.tmod ((smr sd9 k) / 128) 21 : Int) = ((smr sd9 k) / 128) % 21 from (tmod_pos (by omega))]
            refine g_iconst (a := 0) C dX7_simulate_102 rfl ?_
            refine g_cv C G (g_runV (As := [.int (iz (5 + ((smr sd9 k) % 56))), .int (iz (((smr sd9 k) / 64) % 2)), .int (iz (((smr sd9 k) / 128) % 21)), .int (iz 0)]) (rest := []) (pos := 186 + 5) C G (c_X3_set l κ B n ad gv (186 + 5) t1 t2 t3 t4 (5 + ((smr sd9 k) % 56)) (((smr sd9 k) / 64) % 2) (((smr sd9 k) / 128) % 21) 0 (by omega) hk6) (cwV 4 C.1.2.2.2.2 gX7_simulate_X3_set rfl rfl rfl (by decide +kernel) ⟨Nat.le_of_ble_eq_true rfl, Nat.le_of_ble_eq_true rfl⟩) (by omega) hk6 (T := TX3) (N := 4) rfl rfl hl rfl (Nat.le_of_ble_eq_true rfl) dX7_simulate_103 ⟨Nat.le_of_ble_eq_true rfl, Nat.le_of_ble_eq_true rfl⟩) (fun g9 H locs hw G => ?_)
            subst hw
            obtain ⟨g_21, hg_22⟩ : ∃ g9, g9 = va_up gv (186 + 5) (.inr (3, [.int (iz (5 + ((smr sd9 k) % 56))), .int (iz (((smr sd9 k) / 64) % 2)), .int (iz (((smr sd9 k) / 128) % 21)), .int (iz 0)])) := ⟨_, rfl⟩
            rw [← hg_22] at G
            have hc_23 : g_21 0 = .inr (7, [.ref (ad 1), .int (iz tl), .ref (ad 2), .ref (ad 12), .ref (ad 22), .ref (ad 164), .ref (ad 165), .ref (ad 186)]) := by rw [hg_22, gu_ne (by omega)]; exact hk0
            have hc_24 : g_21 186 = .inr (0, [.ref (ad (186 + 1)), .ref (ad (186 + 3)), .ref (ad (186 + 5))]) := by rw [hg_22, gu_ne (by omega)]; exact hk1
            have hc_25 : g_21 (186 + 1) = .inr (5, [.ref (ad (186 + 1 + 1))]) := by rw [hg_22, gu_ne (by omega)]; exact hk2
            have hc_26 : g_21 (186 + 3) = .inr (5, [.ref (ad (186 + 3 + 1))]) := by rw [hg_22, gu_ne (by omega)]; exact hk3
            have hc_27 : g_21 (186 + 3 + 1) = aW κ 602 W2 := by rw [hg_22, gu_ne (by omega)]; exact hk5
            have hc_28 : g_21 (186 + 1 + 1) = aW κ 602 V1 := by rw [hg_22, gu_ne (by omega)]; exact hk4
            have hc_29 : g_21 (186 + 5) = .inr (3, [.int (iz (5 + ((smr sd9 k) % 56))), .int (iz (((smr sd9 k) / 64) % 2)), .int (iz (((smr sd9 k) / 128) % 21)), .int (iz 0)]) := by rw [hg_22]; exact gu_self _ _ _
            have hpl_30 : isPl κ ad g_21 2 nl v := by rw [hg_22]; exact hgp.out (by omega)
            refine g_iload C dX7_simulate_106 hl 0 rfl ?_
            refine g_sipush (a := 4096) C dX7_simulate_108 (by decide) ?_
            refine g_idiv C (by omega) (by decide) (by decide) dX7_simulate_111 ?_
            rw [show (Int.tdiv (smr sd9 k) 4096 : Int) = (smr sd9 k) / 4096 from (tdiv_pos (by omega))]
            refine g_sipush (a := 1000) C dX7_simulate_112 (by decide) ?_
            refine g_irem C (by omega) (by decide) (by decide) dX7_simulate_115 ?_
            rw [show (Int.tmod ((smr sd9 k) / 4096) 1000 : Int) = ((smr sd9 k) / 4096) % 1000 from (tmod_pos (by omega))]
            refine lv_istore (lv' := [(10, .int (iz (((smr sd9 k) / 4096) % 1000))), (9, .int (iz (smr sd9 k))), (6, .long (jz (xsq sd9 (k + 1).toNat))), (0, .ref (ad 0)), (1, .long (jz sd9)), (3, .int (iz m9)), (4, .ref (ad (186 + 5))), (5, .int (iz gre)), (8, .int (iz k))]) C.1.1 C.1.2.1 dX7_simulate_116 hl (by decide) rfl (fun ls hl => ?_)
            refine g_aload C dX7_simulate_118 hl 6 rfl ?_
            refine g_iload C dX7_simulate_120 hl 0 rfl ?_
            refine g_i2l C (by omega) dX7_simulate_122 ?_
            refine g_ci C G (g_runV (As := [.long (jz (((smr sd9 k) / 4096) % 1000))]) (rest := []) (pos := 186 + 5) C G (c_X3_radiusAt l κ B n ad g_21 (186 + 5) (5 + ((smr sd9 k) % 56)) (((smr sd9 k) / 64) % 2) (((smr sd9 k) / 128) % 21) 0 (((smr sd9 k) / 4096) % 1000) (by omega) hc_29 ⟨by omega, by omega, by omega⟩ (by omega) (by omega)) (cwV 1 C.1.2.2.2.2 gX7_simulate_X3_radiusAt rfl rfl rfl (by decide +kernel) ⟨Nat.le_of_ble_eq_true rfl, Nat.le_of_ble_eq_true rfl⟩) (by omega) hc_29 (T := TX3) (N := 4) rfl rfl hl rfl (Nat.le_of_ble_eq_true rfl) dX7_simulate_123 ⟨Nat.le_of_ble_eq_true rfl, Nat.le_of_ble_eq_true rfl⟩) (fun z_31 g9 H locs hw G => ?_)
            obtain ⟨hg9, h_32⟩ := hw
            replace hg9 := hg9.symm
            subst hg9
            have er_33 : z_31 = smd sd9 k := h_32.2.2
            refine lv_istore (lv' := [(11, .int (iz z_31)), (10, .int (iz (((smr sd9 k) / 4096) % 1000))), (9, .int (iz (smr sd9 k))), (6, .long (jz (xsq sd9 (k + 1).toNat))), (0, .ref (ad 0)), (1, .long (jz sd9)), (3, .int (iz m9)), (4, .ref (ad (186 + 5))), (5, .int (iz gre)), (8, .int (iz k))]) C.1.1 C.1.2.1 dX7_simulate_126 hl (by decide) rfl (fun ls hl => ?_)
            refine g_aload_n C dX7_simulate_128 rfl hl 4 rfl ?_
            refine g_get C G (pos := 0) fX7_simulate_41 (by omega) hc_23 rfl dX7_simulate_129 ?_
            refine g_get C G (pos := 186) fX7_simulate_316 (by omega) hc_24 rfl dX7_simulate_132 ?_
            refine g_aload C dX7_simulate_135 hl 7 rfl ?_
            refine g_aload_n C dX7_simulate_137 rfl hl 4 rfl ?_
            refine g_get C G (pos := 0) fX7_simulate_16 (by omega) hc_23 rfl dX7_simulate_138 ?_
            refine g_get C G (pos := 2) fX7_simulate_86 (by omega) hpl_30.1 rfl dX7_simulate_141 ?_
            refine g_iload C dX7_simulate_144 hl 1 rfl ?_
            refine g_i2l C (by omega) dX7_simulate_146 ?_
            refine g_ci C G (g_runV (As := [.int (iz (v 0)), .long (jz (((smr sd9 k) / 4096) % 1000))]) (rest := [.ref (ad (186 + 1))]) (pos := 186 + 5) C G (c_X3_angleAt l κ B n ad g_21 (186 + 5) (5 + ((smr sd9 k) % 56)) (((smr sd9 k) / 64) % 2) (((smr sd9 k) / 128) % 21) 0 (v 0) (((smr sd9 k) / 4096) % 1000) (by omega) hc_29 hv0 (by omega) (by omega) (by omega)) (cwV 2 C.1.2.2.2.2 gX7_simulate_X3_angleAt rfl rfl rfl (by decide +kernel) ⟨Nat.le_of_ble_eq_true rfl, Nat.le_of_ble_eq_true rfl⟩) (by omega) hc_29 (T := TX3) (N := 4) rfl rfl hl rfl (Nat.le_of_ble_eq_true rfl) dX7_simulate_147 ⟨Nat.le_of_ble_eq_true rfl, Nat.le_of_ble_eq_true rfl⟩) (fun z_34 g9 H locs hw G => ?_)
            obtain ⟨hg9, h_35⟩ := hw
            replace hg9 := hg9.symm
            subst hg9
            have ea_36 : z_34 = sma (v 0) sd9 k := h_35.2.2
            refine g_iload C dX7_simulate_150 hl 0 rfl ?_
            refine g_cv C G (g_runV (As := [.int (iz z_34), .int (iz z_31)]) (rest := []) (pos := 186 + 1) C G (c_X5_cut l κ B n ad g_21 (186 + 1) V1 z_34 z_31 (by omega) hc_25 hc_28 (by omega) (by omega)) (cwV 2 C.1.2.2.2.2 gX7_simulate_X5_cut rfl rfl rfl (by decide +kernel) ⟨Nat.le_of_ble_eq_true rfl, Nat.le_of_ble_eq_true rfl⟩) (by omega) hc_25 (T := TX5) (N := 1) rfl rfl hl rfl (Nat.le_of_ble_eq_true rfl) dX7_simulate_152 ⟨Nat.le_of_ble_eq_true rfl, Nat.le_of_ble_eq_true rfl⟩) (fun g9 H locs hw9 G => ?_)
            obtain ⟨W_37, hw9, hW_38⟩ := hw9
            subst hw9
            obtain ⟨g_39, hg_40⟩ : ∃ g9, g9 = va_up g_21 (186 + 1 + 1) (aW κ 602 W_37) := ⟨_, rfl⟩
            rw [← hg_40] at G
            have hc_41 : g_39 0 = .inr (7, [.ref (ad 1), .int (iz tl), .ref (ad 2), .ref (ad 12), .ref (ad 22), .ref (ad 164), .ref (ad 165), .ref (ad 186)]) := by rw [hg_40, gu_ne (by omega)]; exact hc_23
            have hc_42 : g_39 186 = .inr (0, [.ref (ad (186 + 1)), .ref (ad (186 + 3)), .ref (ad (186 + 5))]) := by rw [hg_40, gu_ne (by omega)]; exact hc_24
            have hc_43 : g_39 (186 + 1) = .inr (5, [.ref (ad (186 + 1 + 1))]) := by rw [hg_40, gu_ne (by omega)]; exact hc_25
            have hc_44 : g_39 (186 + 3) = .inr (5, [.ref (ad (186 + 3 + 1))]) := by rw [hg_40, gu_ne (by omega)]; exact hc_26
            have hc_45 : g_39 (186 + 3 + 1) = aW κ 602 W2 := by rw [hg_40, gu_ne (by omega)]; exact hc_27
            have hc_46 : g_39 (186 + 1 + 1) = aW κ 602 W_37 := by rw [hg_40]; exact gu_self _ _ _
            have hc_47 : g_39 (186 + 5) = .inr (3, [.int (iz (5 + ((smr sd9 k) % 56))), .int (iz (((smr sd9 k) / 64) % 2)), .int (iz (((smr sd9 k) / 128) % 21)), .int (iz 0)]) := by rw [hg_40, gu_ne (by omega)]; exact hc_29
            have hpl_48 : isPl κ ad g_39 2 nl v := by rw [hg_40]; exact hpl_30.out (by omega)
            refine g_iload C dX7_simulate_155 hl 8 rfl ?_
            refine g_iload C dX7_simulate_157 hl 0 rfl ?_
            refine g_mmax C hl (by decide +kernel : Cond.methodLink RX7 330 Lib.Math.max.name ∈ wsX7_simulate) (by decide +kernel) (by decide +kernel) (by decide +kernel) (Nat.le_of_ble_eq_true rfl) (Nat.le_of_ble_eq_true rfl) (by first | exact Nat.zero_le _ | omega) (by first | exact Nat.zero_le _ | omega) (by omega) (by omega) dX7_simulate_159 (fun z_49 h_50 => ?_)
            refine lv_istore (lv' := [(5, .int (iz z_49)), (11, .int (iz z_31)), (10, .int (iz (((smr sd9 k) / 4096) % 1000))), (9, .int (iz (smr sd9 k))), (6, .long (jz (xsq sd9 (k + 1).toNat))), (0, .ref (ad 0)), (1, .long (jz sd9)), (3, .int (iz m9)), (4, .ref (ad (186 + 5))), (8, .int (iz k))]) C.1.1 C.1.2.1 dX7_simulate_162 hl (by decide) rfl (fun ls hl => ?_)
            refine lv_iinc (v := iz (k + 1)) (lv' := [(8, .int (iz (k + 1))), (5, .int (iz z_49)), (11, .int (iz z_31)), (10, .int (iz (((smr sd9 k) / 4096) % 1000))), (9, .int (iz (smr sd9 k))), (6, .long (jz (xsq sd9 (k + 1).toNat))), (0, .ref (ad 0)), (1, .long (jz sd9)), (3, .int (iz m9)), (4, .ref (ad (186 + 5)))]) C.1.1 C.1.2.1 dX7_simulate_164 hl (k := 9) rfl (g_inc (by omega)) (by decide) rfl (fun ls hl => ?_)
            refine g_goto (tgt := 51) C dX7_simulate_167 (by decide) ?_
            exact ih_lp_51_n_17 (k + 1) W_37 (5 + ((smr sd9 k) % 56)) (((smr sd9 k) / 64) % 2) (((smr sd9 k) / 128) % 21) 0 z_49 g_39 (by omega) (by omega) hpl_48 hc_41 hc_42 hc_43 hc_44 hc_45 hc_46 hc_47 (by rw [hg_40]; exact (by rw [hg_22]; exact hfb.up (by omega) (by omega) : frB g g_21 186).up (by omega) (by omega) : frB g g_39 186) (by rw [hW_38]; exact (hrv.cut (by omega) (by omega)).iff (fun x y _ _ _ _ => sim_step hk.1 ea_36 er_33)) ⟨(by rw [smx_step hk.1, ← er_33, ← hgre.1]; exact h_50), by have hm9 := h_50; omega⟩ _ _ G _ (lv_sub hl [6, 7, 8, 9, 1, 5, 0] rfl)
      exact lp_51_n_17 _ 0 W_3 tw9 ts9 th9 tt9 0 g_5 (Nat.lt_succ_self _) (by omega) hpl_15 hc_7 hc_9 hc_10 hc_11 hc_13 hc_12 hc_14 (by rw [hg_6]; exact frB.rf.up (by omega) (by omega) : frB g g_5 186) ((repW.zero hW_4).iff (fun x y _ _ _ _ => ⟨False.elim, fun ⟨j, j0, j1, _⟩ => absurd j1 (by omega)⟩)) ⟨rfl, by omega, by omega⟩ _ _ G _ (lv_sub hl [4, 5, 6, 3, 2, 1, 0] rfl)
    · refine g_throwW C G X hlf hlk hnt hl (cls := "java/lang/IllegalArgumentException") (text := "m is not 1 to 200") (ik := 45) (is := 314) (ic := 49) (by decide +kernel) (by decide +kernel : Cond.classLink RX7 45 _ ∈ wsX7_simulate) (by decide +kernel : Cond.initialized _ ∈ wsX7_simulate) (by decide +kernel) (by decide +kernel) (by decide +kernel) at_iae (by decide +kernel) dX7_simulate_12 dX7_simulate_15 dX7_simulate_16 dX7_simulate_19 dX7_simulate_22 (Nat.le_of_ble_eq_true rfl) (Nat.le_of_ble_eq_true rfl) (Nat.le_of_ble_eq_true rfl) (Nat.le_of_ble_eq_true rfl) (Nat.le_of_ble_eq_true rfl) (Nat.le_of_ble_eq_true rfl) ?_
      exact ⟨rfl, by omega, rfl⟩
