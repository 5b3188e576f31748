/-! ROSETTEPLATE (X7): what writes -/
def remX (κ : gKap) (ad : Nat → Nat) (g' : Nat → va_E) (old cnt : Int) (P9 : Nat → Int × (Int → Int)) (nl : Int) (v : Int → Int) : Prop := ∃ U9, isHi κ ad g' 22 (if cnt < 14 then old else (old + 1) % 14) (remC cnt) (fun j => if j = ((old + cnt) % 14).toNat then (nl, U9) else P9 j) ∧ sim nl U9 v ∧ inV U9
theorem ex_get {v : Int → Int} {l b : Int} (hb : 0 ≤ b ∧ b ≤ 3) : (if b = 0 then v (4 * l + 1) else if b = 1 then v (4 * l + 2) else if b = 2 then v (4 * l + 3) else v (4 * l + 4)) = v (4 * l + 1 + b) := by
  repeat' split
  all_goals (congr 1; omega)
theorem fX7_setRing_26 : gFld wsX7_setRing RX7 26 7 4 := ⟨RX7, TX7, 8, rfl, by decide, by decide +kernel, by decide +kernel⟩
theorem fX7_setRing_16 : gFld wsX7_setRing RX7 16 7 2 := ⟨RX7, TX7, 8, rfl, by decide, by decide +kernel, by decide +kernel⟩
theorem fX7_setRing_86 : gFld wsX7_setRing RX7 86 4 0 := ⟨RX4, TX4, 6, rfl, by decide, by decide +kernel, by decide +kernel⟩
set_option maxHeartbeats 4000000 in
set_option maxRecDepth 100000 in
theorem c_X7_setRing (l : Launch) (hlf : l.stackTraces = false) (κ : gKap) (B n : Nat) (ad : Nat → Nat) (g : Nat → va_E) (tl : Int) (nl : Int) (v : Int → Int) (old : Int) (cnt : Int) (P9 : Nat → Int × (Int → Int)) (te : Int) (hnn : 192 ≤ n) (hX : isX κ ad g tl) (hpl : isPl κ ad g 2 nl v) (hok : okPl nl v) (hin : inV v) (hhi : isHi κ ad g 22 old cnt P9) (hol : 0 ≤ old ∧ old < 14) (hct : 0 ≤ cnt ∧ cnt ≤ 14) (hinP : ∀ j : Nat, j < 14 → inV (P9 j).2) (hte : inI te) : vx_Met l yX7_setRing wsX7_setRing ({ frames := 6, cells := 1, slots := 6, locals := 94 }) (gPreX κ B n ad g [.ref (ad 0), .int (iz te)]) (gQi κ B n ad (fun z g' => (12 ≤ te ∧ te ≤ 96) ∧ z = v 0 ∧ remX κ ad g' old cnt P9 nl v ∧ isPl κ ad g' 2 nl (tkr nl v te) ∧ ∀ q, (q < 2 ∨ 12 ≤ q) → (q < 22 ∨ 164 ≤ q) → g' q = g q)) (gXX κ B n ad (fun E g9 => (E = "java/lang/IllegalArgumentException" ∧ (¬ (12 ≤ te ∧ te ≤ 96)) ∧ g9 = g))) 1 6 (gFree B) := by
  refine g_metX RX7 (cc := cX7_setRing) (maxL := 3) (ret := (some .int)) (by decide) rfl rfl (Nat.le_of_ble_eq_true rfl) ?_
  intro p e s m args below meth c C hr hlk hnt X G ls hl
  have hl : lv_has ls 3 [(0, .ref (ad 0)), (1, .int (iz te))] := hl
  obtain ⟨hn6, hv0, hv25, hlay, hsee⟩ := id hok
  refine g_iload_n C dX7_setRing_0 rfl hl 1 rfl ?_
  refine g_ci C G (g_runS (As := [.int (iz te)]) (rest := []) C G (c_X7_isRing l κ B n ad g te (by omega)) (va_cwS 1 C.1.2.2.2.2 gX7_setRing_X7_isRing rfl rfl rfl (by decide +kernel) ⟨Nat.le_of_ble_eq_true rfl, Nat.le_of_ble_eq_true rfl⟩) rfl hl rfl (Nat.le_of_ble_eq_true rfl) dX7_setRing_1 ⟨Nat.le_of_ble_eq_true rfl, Nat.le_of_ble_eq_true rfl⟩) (fun z_2 g9 H locs hw G => ?_)
  obtain ⟨hg9, hw⟩ := hw
  replace hg9 := hg9.symm
  subst hg9
  rcases hw with ⟨b_1, rfl⟩ | ⟨b_1, rfl⟩
  · refine g_if_ne (tgt := 17) C (by decide) dX7_setRing_4 (by decide) (fun _ => ?_) (fun c9 => absurd c9 (by decide))
    refine g_aload_n C dX7_setRing_17 rfl hl 0 rfl ?_
    refine g_get C G (pos := 0) fX7_setRing_26 (by omega) hX.1 rfl dX7_setRing_18 ?_
    refine g_aload_n C dX7_setRing_21 rfl hl 0 rfl ?_
    refine g_get C G (pos := 0) fX7_setRing_16 (by omega) hX.1 rfl dX7_setRing_22 ?_
    refine g_cv C G (g_runV (As := [.ref (ad 2)]) (rest := []) (pos := 22) C G (c_X2_remember l κ B n ad g 22 old cnt P9 2 nl v (by omega) hhi hol hct (by omega) hpl (by omega) hok hin hinP) (cwV 1 C.1.2.2.2.2 gX7_setRing_X2_remember rfl rfl rfl (by decide +kernel) ⟨Nat.le_of_ble_eq_true rfl, Nat.le_of_ble_eq_true rfl⟩) (by omega) hhi.1 (T := TX2) (N := 3) rfl rfl hl rfl (Nat.le_of_ble_eq_true rfl) dX7_setRing_25 ⟨Nat.le_of_ble_eq_true rfl, Nat.le_of_ble_eq_true rfl⟩) (fun g_8 H locs hw9 G => ?_)
    obtain ⟨U_3, hH_4, hS_5, hI_6, hF_7⟩ := hw9
    have hc_9 : g_8 0 = .inr (7, [.ref (ad 1), .int (iz tl), .ref (ad 2), .ref (ad 12), .ref (ad 22), .ref (ad 164), .ref (ad 165), .ref (ad 186)]) := (hF_7 _ (by omega)).trans hX.1
    have hc_10 : g_8 164 = aPl κ 2 (fun j => if j < 2 then some (ad (166 + 10 * j)) else none) := (hF_7 _ (by omega)).trans hX.2
    have hpl_11 : isPl κ ad g_8 2 nl v := hpl.far (fun q q0 q1 => hF_7 _ (by omega))
    refine g_aload_n C dX7_setRing_28 rfl hl 0 rfl ?_
    refine g_get C G (pos := 0) fX7_setRing_16 (by omega) hc_9 rfl dX7_setRing_29 ?_
    refine g_get C G (pos := 2) fX7_setRing_86 (by omega) hpl_11.1 rfl dX7_setRing_32 ?_
    refine lv_istore_n (lv' := [(2, .int (iz (v 0))), (0, .ref (ad 0)), (1, .int (iz te))]) C.1.1 C.1.2.1 dX7_setRing_35 rfl hl (by decide) rfl (fun ls hl => ?_)
    refine g_aload_n C dX7_setRing_36 rfl hl 1 rfl ?_
    refine g_get C G (pos := 0) fX7_setRing_16 (by omega) hc_9 rfl dX7_setRing_37 ?_
    refine g_iload_n C dX7_setRing_40 rfl hl 2 rfl ?_
    refine g_cv C G (g_runV (As := [.int (iz te)]) (rest := []) (pos := 2) C G (c_X4_takeRing l κ B n ad g_8 2 nl v te (by omega) hpl_11 hn6 (by omega) hin) (cwV 1 C.1.2.2.2.2 gX7_setRing_X4_takeRing rfl rfl rfl (by decide +kernel) ⟨Nat.le_of_ble_eq_true rfl, Nat.le_of_ble_eq_true rfl⟩) (by omega) hpl_11.1 (T := TX4) (N := 6) rfl rfl hl rfl (Nat.le_of_ble_eq_true rfl) dX7_setRing_41 ⟨Nat.le_of_ble_eq_true rfl, Nat.le_of_ble_eq_true rfl⟩) (fun g_12 H locs hw9 G => ?_)
    obtain ⟨hpl_13, hfr_14⟩ := hw9
    have hc_16 : g_12 0 = .inr (7, [.ref (ad 1), .int (iz tl), .ref (ad 2), .ref (ad 12), .ref (ad 22), .ref (ad 164), .ref (ad 165), .ref (ad 186)]) := (hfr_14 _ (by omega)).trans hc_9
    have hc_17 : g_12 164 = aPl κ 2 (fun j => if j < 2 then some (ad (166 + 10 * j)) else none) := (hfr_14 _ (by omega)).trans hc_10
    have hhi_18 : isHi κ ad g_12 22 (if cnt < 14 then old else (old + 1) % 14) (remC cnt) (fun j => if j = ((old + cnt) % 14).toNat then (nl, U_3) else P9 j) := hH_4.far (fun q q0 q1 => hfr_14 _ (by omega))
    refine g_iload_n C dX7_setRing_44 rfl hl 0 rfl ?_
    refine vx_ret ?_
    refine g_iret C G hr hlk (Nat.le_of_ble_eq_true rfl) (Nat.le_of_ble_eq_true rfl) dX7_setRing_45 ?_
    exact ⟨by omega, by omega, ⟨U_3, hhi_18, hS_5, hI_6⟩, hpl_13, fun q q1 q2 => by
        refine (hfr_14 _ (by omega)).trans ?_
        refine (hF_7 _ (by omega)).trans ?_
        try rfl⟩
  · refine g_if_ne (tgt := 17) C (by decide) dX7_setRing_4 (by decide) (fun c9 => absurd c9 (by decide)) (fun _ => ?_)
    refine g_throw C G X hlf hlk hnt hl (cls := "java/lang/IllegalArgumentException") (text := "teeth is not 12 to 96") (ik := 45) (is := 221) (ic := 49) (by decide +kernel) (by decide +kernel : Cond.classLink RX7 45 _ ∈ wsX7_setRing) (by decide +kernel : Cond.initialized _ ∈ wsX7_setRing) (by decide +kernel) (by decide +kernel) (by decide +kernel) at_iae (by decide +kernel) dX7_setRing_7 dX7_setRing_10 dX7_setRing_11 dX7_setRing_13 dX7_setRing_16 (Nat.le_of_ble_eq_true rfl) (Nat.le_of_ble_eq_true rfl) (Nat.le_of_ble_eq_true rfl) (Nat.le_of_ble_eq_true rfl) (Nat.le_of_ble_eq_true rfl) (Nat.le_of_ble_eq_true rfl) ?_
    exact ⟨rfl, by omega, rfl⟩
theorem fX7_addLayer_16 : gFld wsX7_addLayer RX7 16 7 2 := ⟨RX7, TX7, 8, rfl, by decide, by decide +kernel, by decide +kernel⟩
theorem fX7_addLayer_26 : gFld wsX7_addLayer RX7 26 7 4 := ⟨RX7, TX7, 8, rfl, by decide, by decide +kernel, by decide +kernel⟩
theorem fX7_addLayer_74 : gFld wsX7_addLayer RX7 74 4 1 := ⟨RX4, TX4, 6, rfl, by decide, by decide +kernel, by decide +kernel⟩
set_option maxHeartbeats 4000000 in
set_option maxRecDepth 100000 in
theorem c_X7_addLayer (l : Launch) (hlf : l.stackTraces = false) (κ : gKap) (B n : Nat) (ad : Nat → Nat) (g : Nat → va_E) (tl : Int) (nl : Int) (v : Int → Int) (old : Int) (cnt : Int) (P9 : Nat → Int × (Int → Int)) (qw : Int) (qs : Int) (qh : Int) (qt : Int) (hnn : 192 ≤ n) (hX : isX κ ad g tl) (hpl : isPl κ ad g 2 nl v) (hok : okPl nl v) (hin : inV v) (hhi : isHi κ ad g 22 old cnt P9) (hol : 0 ≤ old ∧ old < 14) (hct : 0 ≤ cnt ∧ cnt ≤ 14) (hinP : ∀ j : Nat, j < 14 → inV (P9 j).2) (hqw : inI qw) (hqs : inI qs) (hqh : inI qh) (hqt : inI qt) : vx_Met l yX7_addLayer wsX7_addLayer ({ frames := 6, cells := 1, slots := 6, locals := 94 }) (gPreX κ B n ad g [.ref (ad 0), .int (iz qw), .int (iz qs), .int (iz qh), .int (iz qt)]) (gQi κ B n ad (fun z g' => (((5 ≤ qw ∧ qw ≤ 60) ∧ (qs = 0 ∨ qs = 1) ∧ (0 ≤ qh ∧ qh ≤ 20) ∧ 0 ≤ qt ∧ qt < v 0) ∧ nl < 6) ∧ z = nl ∧ remX κ ad g' old cnt P9 nl v ∧ isPl κ ad g' 2 (nl + 1) (v4 v nl qw qs qh qt) ∧ ∀ q, (q < 2 ∨ 12 ≤ q) → (q < 22 ∨ 164 ≤ q) → g' q = g q)) (gXX κ B n ad (fun E g9 => (E = "java/lang/IllegalArgumentException" ∧ (¬ ((5 ≤ qw ∧ qw ≤ 60) ∧ (qs = 0 ∨ qs = 1) ∧ (0 ≤ qh ∧ qh ≤ 20) ∧ 0 ≤ qt ∧ qt < v 0)) ∧ g9 = g) ∨ (E = "java/lang/IllegalStateException" ∧ (((5 ≤ qw ∧ qw ≤ 60) ∧ (qs = 0 ∨ qs = 1) ∧ (0 ≤ qh ∧ qh ≤ 20) ∧ 0 ≤ qt ∧ qt < v 0) ∧ 6 ≤ nl) ∧ g9 = g))) 1 6 (gFree B) := by
  refine g_metX RX7 (cc := cX7_addLayer) (maxL := 5) (ret := (some .int)) (by decide) rfl rfl (Nat.le_of_ble_eq_true rfl) ?_
  intro p e s m args below meth c C hr hlk hnt X G ls hl
  have hl : lv_has ls 5 [(0, .ref (ad 0)), (1, .int (iz qw)), (2, .int (iz qs)), (3, .int (iz qh)), (4, .int (iz qt))] := hl
  obtain ⟨hn6, hv0, hv25, hlay, hsee⟩ := id hok
  refine g_iload_n C dX7_addLayer_0 rfl hl 1 rfl ?_
  refine g_ci C G (g_runS (As := [.int (iz qw)]) (rest := []) C G (c_X7_isWheel l κ B n ad g qw (by omega)) (va_cwS 1 C.1.2.2.2.2 gX7_addLayer_X7_isWheel rfl rfl rfl (by decide +kernel) ⟨Nat.le_of_ble_eq_true rfl, Nat.le_of_ble_eq_true rfl⟩) rfl hl rfl (Nat.le_of_ble_eq_true rfl) dX7_addLayer_1 ⟨Nat.le_of_ble_eq_true rfl, Nat.le_of_ble_eq_true rfl⟩) (fun z_2 g9 H locs hw G => ?_)
  obtain ⟨hg9, hw⟩ := hw
  replace hg9 := hg9.symm
  subst hg9
  rcases hw with ⟨b_1, rfl⟩ | ⟨b_1, rfl⟩
  · refine g_if_eq (tgt := 33) C (by decide) dX7_addLayer_4 (by decide) (fun c9 => absurd c9 (by decide)) (fun _ => ?_)
    refine g_iload_n C dX7_addLayer_7 rfl hl 2 rfl ?_
    refine g_ci C G (g_runS (As := [.int (iz qs)]) (rest := []) C G (c_X7_isSide l κ B n ad g qs (by omega)) (va_cwS 1 C.1.2.2.2.2 gX7_addLayer_X7_isSide rfl rfl rfl (by decide +kernel) ⟨Nat.le_of_ble_eq_true rfl, Nat.le_of_ble_eq_true rfl⟩) rfl hl rfl (Nat.le_of_ble_eq_true rfl) dX7_addLayer_8 ⟨Nat.le_of_ble_eq_true rfl, Nat.le_of_ble_eq_true rfl⟩) (fun z_4 g9 H locs hw G => ?_)
    obtain ⟨hg9, hw⟩ := hw
    replace hg9 := hg9.symm
    subst hg9
    rcases hw with ⟨b_3, rfl⟩ | ⟨b_3, rfl⟩
    · refine g_if_eq (tgt := 33) C (by decide) dX7_addLayer_11 (by decide) (fun c9 => absurd c9 (by decide)) (fun _ => ?_)
      refine g_iload_n C dX7_addLayer_14 rfl hl 3 rfl ?_
      refine g_ci C G (g_runS (As := [.int (iz qh)]) (rest := []) C G (c_X7_isHole l κ B n ad g qh (by omega)) (va_cwS 1 C.1.2.2.2.2 gX7_addLayer_X7_isHole rfl rfl rfl (by decide +kernel) ⟨Nat.le_of_ble_eq_true rfl, Nat.le_of_ble_eq_true rfl⟩) rfl hl rfl (Nat.le_of_ble_eq_true rfl) dX7_addLayer_15 ⟨Nat.le_of_ble_eq_true rfl, Nat.le_of_ble_eq_true rfl⟩) (fun z_6 g9 H locs hw G => ?_)
      obtain ⟨hg9, hw⟩ := hw
      replace hg9 := hg9.symm
      subst hg9
      rcases hw with ⟨b_5, rfl⟩ | ⟨b_5, rfl⟩
      · refine g_if_eq (tgt := 33) C (by decide) dX7_addLayer_18 (by decide) (fun c9 => absurd c9 (by decide)) (fun _ => ?_)
        refine g_aload_n C dX7_addLayer_21 rfl hl 0 rfl ?_
        refine g_get C G (pos := 0) fX7_addLayer_16 (by omega) hX.1 rfl dX7_addLayer_22 ?_
        refine g_iload C dX7_addLayer_25 hl 4 rfl ?_
        refine g_ci C G (g_runV (As := [.int (iz qt)]) (rest := []) (pos := 2) C G (c_X4_hasTooth l κ B n ad g 2 nl v qt (by omega) hpl (by omega) hv0) (cwV 1 C.1.2.2.2.2 gX7_addLayer_X4_hasTooth rfl rfl rfl (by decide +kernel) ⟨Nat.le_of_ble_eq_true rfl, Nat.le_of_ble_eq_true rfl⟩) (by omega) hpl.1 (T := TX4) (N := 6) rfl rfl hl rfl (Nat.le_of_ble_eq_true rfl) dX7_addLayer_27 ⟨Nat.le_of_ble_eq_true rfl, Nat.le_of_ble_eq_true rfl⟩) (fun z_8 g9 H locs hw G => ?_)
        obtain ⟨hg9, hw⟩ := hw
        replace hg9 := hg9.symm
        subst hg9
        rcases hw with ⟨b_7, rfl⟩ | ⟨b_7, rfl⟩
        · refine g_if_ne (tgt := 43) C (by decide) dX7_addLayer_30 (by decide) (fun _ => ?_) (fun c9 => absurd c9 (by decide))
          refine g_aload_n C dX7_addLayer_43 rfl hl 0 rfl ?_
          refine g_get C G (pos := 0) fX7_addLayer_16 (by omega) hX.1 rfl dX7_addLayer_44 ?_
          refine g_ci C G (g_runV (As := []) (rest := []) (pos := 2) C G (c_X4_isFull l κ B n ad g 2 nl v (by omega) hpl (by omega)) (cwV 0 C.1.2.2.2.2 gX7_addLayer_X4_isFull rfl rfl rfl (by decide +kernel) ⟨Nat.le_of_ble_eq_true rfl, Nat.le_of_ble_eq_true rfl⟩) (by omega) hpl.1 (T := TX4) (N := 6) rfl rfl hl rfl (Nat.le_of_ble_eq_true rfl) dX7_addLayer_47 ⟨Nat.le_of_ble_eq_true rfl, Nat.le_of_ble_eq_true rfl⟩) (fun z_10 g9 H locs hw G => ?_)
          obtain ⟨hg9, hw⟩ := hw
          replace hg9 := hg9.symm
          subst hg9
          rcases hw with ⟨b_9, rfl⟩ | ⟨b_9, rfl⟩
          · refine g_if_eq (tgt := 63) C (by decide) dX7_addLayer_50 (by decide) (fun c9 => absurd c9 (by decide)) (fun _ => ?_)
            refine g_throw C G X hlf hlk hnt hl (cls := "java/lang/IllegalStateException") (text := "there are 6 layers") (ik := 56) (is := 245) (ic := 60) (by decide +kernel) (by decide +kernel : Cond.classLink RX7 56 _ ∈ wsX7_addLayer) (by decide +kernel : Cond.initialized _ ∈ wsX7_addLayer) (by decide +kernel) (by decide +kernel) (by decide +kernel) at_ise (by decide +kernel) dX7_addLayer_53 dX7_addLayer_56 dX7_addLayer_57 dX7_addLayer_59 dX7_addLayer_62 (Nat.le_of_ble_eq_true rfl) (Nat.le_of_ble_eq_true rfl) (Nat.le_of_ble_eq_true rfl) (Nat.le_of_ble_eq_true rfl) (Nat.le_of_ble_eq_true rfl) (Nat.le_of_ble_eq_true rfl) ?_
            exact Or.inr (⟨rfl, by omega, rfl⟩)
          · refine g_if_eq (tgt := 63) C (by decide) dX7_addLayer_50 (by decide) (fun _ => ?_) (fun c9 => absurd c9 (by decide))
            refine g_aload_n C dX7_addLayer_63 rfl hl 0 rfl ?_
            refine g_get C G (pos := 0) fX7_addLayer_26 (by omega) hX.1 rfl dX7_addLayer_64 ?_
            refine g_aload_n C dX7_addLayer_67 rfl hl 0 rfl ?_
            refine g_get C G (pos := 0) fX7_addLayer_16 (by omega) hX.1 rfl dX7_addLayer_68 ?_
            refine g_cv C G (g_runV (As := [.ref (ad 2)]) (rest := []) (pos := 22) C G (c_X2_remember l κ B n ad g 22 old cnt P9 2 nl v (by omega) hhi hol hct (by omega) hpl (by omega) hok hin hinP) (cwV 1 C.1.2.2.2.2 gX7_addLayer_X2_remember rfl rfl rfl (by decide +kernel) ⟨Nat.le_of_ble_eq_true rfl, Nat.le_of_ble_eq_true rfl⟩) (by omega) hhi.1 (T := TX2) (N := 3) rfl rfl hl rfl (Nat.le_of_ble_eq_true rfl) dX7_addLayer_71 ⟨Nat.le_of_ble_eq_true rfl, Nat.le_of_ble_eq_true rfl⟩) (fun g_16 H locs hw9 G => ?_)
            obtain ⟨U_11, hH_12, hS_13, hI_14, hF_15⟩ := hw9
            have hc_17 : g_16 0 = .inr (7, [.ref (ad 1), .int (iz tl), .ref (ad 2), .ref (ad 12), .ref (ad 22), .ref (ad 164), .ref (ad 165), .ref (ad 186)]) := (hF_15 _ (by omega)).trans hX.1
            have hc_18 : g_16 164 = aPl κ 2 (fun j => if j < 2 then some (ad (166 + 10 * j)) else none) := (hF_15 _ (by omega)).trans hX.2
            have hpl_19 : isPl κ ad g_16 2 nl v := hpl.far (fun q q0 q1 => hF_15 _ (by omega))
            refine g_aload_n C dX7_addLayer_74 rfl hl 0 rfl ?_
            refine g_get C G (pos := 0) fX7_addLayer_16 (by omega) hc_17 rfl dX7_addLayer_75 ?_
            refine g_iload_n C dX7_addLayer_78 rfl hl 1 rfl ?_
            refine g_iload_n C dX7_addLayer_79 rfl hl 2 rfl ?_
            refine g_iload_n C dX7_addLayer_80 rfl hl 3 rfl ?_
            refine g_iload C dX7_addLayer_81 hl 4 rfl ?_
            refine g_cv C G (g_runV (As := [.int (iz qw), .int (iz qs), .int (iz qh), .int (iz qt)]) (rest := []) (pos := 2) C G (c_X4_putLayer l κ B n ad g_16 2 nl v qw qs qh qt (by omega) hpl_19 (by omega)) (cwV 4 C.1.2.2.2.2 gX7_addLayer_X4_putLayer rfl rfl rfl (by decide +kernel) ⟨Nat.le_of_ble_eq_true rfl, Nat.le_of_ble_eq_true rfl⟩) (by omega) hpl_19.1 (T := TX4) (N := 6) rfl rfl hl rfl (Nat.le_of_ble_eq_true rfl) dX7_addLayer_83 ⟨Nat.le_of_ble_eq_true rfl, Nat.le_of_ble_eq_true rfl⟩) (fun g_20 H locs hw9 G => ?_)
            obtain ⟨hpl_21, hfr_22⟩ := hw9
            have hc_24 : g_20 0 = .inr (7, [.ref (ad 1), .int (iz tl), .ref (ad 2), .ref (ad 12), .ref (ad 22), .ref (ad 164), .ref (ad 165), .ref (ad 186)]) := (hfr_22 _ (by omega)).trans hc_17
            have hc_25 : g_20 164 = aPl κ 2 (fun j => if j < 2 then some (ad (166 + 10 * j)) else none) := (hfr_22 _ (by omega)).trans hc_18
            have hhi_26 : isHi κ ad g_20 22 (if cnt < 14 then old else (old + 1) % 14) (remC cnt) (fun j => if j = ((old + cnt) % 14).toNat then (nl, U_11) else P9 j) := hH_12.far (fun q q0 q1 => hfr_22 _ (by omega))
            refine g_aload_n C dX7_addLayer_86 rfl hl 0 rfl ?_
            refine g_get C G (pos := 0) fX7_addLayer_16 (by omega) hc_24 rfl dX7_addLayer_87 ?_
            refine g_get C G (pos := 2) fX7_addLayer_74 (by omega) hpl_21.1 rfl dX7_addLayer_90 ?_
            refine g_iconst (a := 1) C dX7_addLayer_93 rfl ?_
            refine g_isub C dX7_addLayer_94 ?_
            refine vx_ret ?_
            refine g_iret C G hr hlk (Nat.le_of_ble_eq_true rfl) (Nat.le_of_ble_eq_true rfl) dX7_addLayer_95 ?_
            exact ⟨by omega, by omega, ⟨U_11, hhi_26, hS_13, hI_14⟩, hpl_21, fun q q1 q2 => by
                refine (hfr_22 _ (by omega)).trans ?_
                refine (hF_15 _ (by omega)).trans ?_
                try rfl⟩
        · refine g_if_ne (tgt := 43) C (by decide) dX7_addLayer_30 (by decide) (fun c9 => absurd c9 (by decide)) (fun _ => ?_)
          refine g_throw C G X hlf hlk hnt hl (cls := "java/lang/IllegalArgumentException") (text := "an argument is out of range") (ik := 45) (is := 239) (ic := 49) (by decide +kernel) (by decide +kernel : Cond.classLink RX7 45 _ ∈ wsX7_addLayer) (by decide +kernel : Cond.initialized _ ∈ wsX7_addLayer) (by decide +kernel) (by decide +kernel) (by decide +kernel) at_iae (by decide +kernel) dX7_addLayer_33 dX7_addLayer_36 dX7_addLayer_37 dX7_addLayer_39 dX7_addLayer_42 (Nat.le_of_ble_eq_true rfl) (Nat.le_of_ble_eq_true rfl) (Nat.le_of_ble_eq_true rfl) (Nat.le_of_ble_eq_true rfl) (Nat.le_of_ble_eq_true rfl) (Nat.le_of_ble_eq_true rfl) ?_
          exact Or.inl ⟨rfl, by omega, rfl⟩
      · refine g_if_eq (tgt := 33) C (by decide) dX7_addLayer_18 (by decide) (fun _ => ?_) (fun c9 => absurd c9 (by decide))
        refine g_throw C G X hlf hlk hnt hl (cls := "java/lang/IllegalArgumentException") (text := "an argument is out of range") (ik := 45) (is := 239) (ic := 49) (by decide +kernel) (by decide +kernel : Cond.classLink RX7 45 _ ∈ wsX7_addLayer) (by decide +kernel : Cond.initialized _ ∈ wsX7_addLayer) (by decide +kernel) (by decide +kernel) (by decide +kernel) at_iae (by decide +kernel) dX7_addLayer_33 dX7_addLayer_36 dX7_addLayer_37 dX7_addLayer_39 dX7_addLayer_42 (Nat.le_of_ble_eq_true rfl) (Nat.le_of_ble_eq_true rfl) (Nat.le_of_ble_eq_true rfl) (Nat.le_of_ble_eq_true rfl) (Nat.le_of_ble_eq_true rfl) (Nat.le_of_ble_eq_true rfl) ?_
        exact Or.inl ⟨rfl, by omega, rfl⟩
    · refine g_if_eq (tgt := 33) C (by decide) dX7_addLayer_11 (by decide) (fun _ => ?_) (fun c9 => absurd c9 (by decide))
      refine g_throw C G X hlf hlk hnt hl (cls := "java/lang/IllegalArgumentException") (text := "an argument is out of range") (ik := 45) (is := 239) (ic := 49) (by decide +kernel) (by decide +kernel : Cond.classLink RX7 45 _ ∈ wsX7_addLayer) (by decide +kernel : Cond.initialized _ ∈ wsX7_addLayer) (by decide +kernel) (by decide +kernel) (by decide +kernel) at_iae (by decide +kernel) dX7_addLayer_33 dX7_addLayer_36 dX7_addLayer_37 dX7_addLayer_39 dX7_addLayer_42 (Nat.le_of_ble_eq_true rfl) (Nat.le_of_ble_eq_true rfl) (Nat.le_of_ble_eq_true rfl) (Nat.le_of_ble_eq_true rfl) (Nat.le_of_ble_eq_true rfl) (Nat.le_of_ble_eq_true rfl) ?_
      exact Or.inl ⟨rfl, by omega, rfl⟩
  · refine g_if_eq (tgt := 33) C (by decide) dX7_addLayer_4 (by decide) (fun _ => ?_) (fun c9 => absurd c9 (by decide))
    refine g_throw C G X hlf hlk hnt hl (cls := "java/lang/IllegalArgumentException") (text := "an argument is out of range") (ik := 45) (is := 239) (ic := 49) (by decide +kernel) (by decide +kernel : Cond.classLink RX7 45 _ ∈ wsX7_addLayer) (by decide +kernel : Cond.initialized _ ∈ wsX7_addLayer) (by decide +kernel) (by decide +kernel) (by decide +kernel) at_iae (by decide +kernel) dX7_addLayer_33 dX7_addLayer_36 dX7_addLayer_37 dX7_addLayer_39 dX7_addLayer_42 (Nat.le_of_ble_eq_true rfl) (Nat.le_of_ble_eq_true rfl) (Nat.le_of_ble_eq_true rfl) (Nat.le_of_ble_eq_true rfl) (Nat.le_of_ble_eq_true rfl) (Nat.le_of_ble_eq_true rfl) ?_
    exact Or.inl ⟨rfl, by omega, rfl⟩
theorem fX7_change_16 : gFld wsX7_change RX7 16 7 2 := ⟨RX7, TX7, 8, rfl, by decide, by decide +kernel, by decide +kernel⟩
theorem fX7_change_26 : gFld wsX7_change RX7 26 7 4 := ⟨RX7, TX7, 8, rfl, by decide, by decide +kernel, by decide +kernel⟩
set_option maxHeartbeats 4000000 in
set_option maxRecDepth 100000 in
theorem c_X7_change (l : Launch) (hlf : l.stackTraces = false) (κ : gKap) (B n : Nat) (ad : Nat → Nat) (g : Nat → va_E) (tl : Int) (nl : Int) (v : Int → Int) (old : Int) (cnt : Int) (P9 : Nat → Int × (Int → Int)) (li : Int) (wh : Int) (x9 : Int) (hnn : 192 ≤ n) (hX : isX κ ad g tl) (hpl : isPl κ ad g 2 nl v) (hok : okPl nl v) (hin : inV v) (hhi : isHi κ ad g 22 old cnt P9) (hol : 0 ≤ old ∧ old < 14) (hct : 0 ≤ cnt ∧ cnt ≤ 14) (hinP : ∀ j : Nat, j < 14 → inV (P9 j).2) (hli : inI li) (hwh : inI wh) (hx9 : inI x9) : vx_Met l yX7_change wsX7_change ({ frames := 6, cells := 1, slots := 6, locals := 94 }) (gPreX κ B n ad g [.ref (ad 0), .int (iz li), .int (iz wh), .int (iz x9)]) (gQi κ B n ad (fun z g' => ((0 ≤ li ∧ li < nl) ∧ ((wh = 0 ∧ 5 ≤ x9 ∧ x9 ≤ 60) ∨ (wh = 1 ∧ (x9 = 0 ∨ x9 = 1)) ∨ (wh = 2 ∧ 0 ≤ x9 ∧ x9 ≤ 20) ∨ (wh = 3 ∧ 0 ≤ x9 ∧ x9 < v 0))) ∧ z = v (4 * li + 1 + wh) ∧ remX κ ad g' old cnt P9 nl v ∧ isPl κ ad g' 2 nl (vu v (4 * li + 1 + wh) x9) ∧ ∀ q, (q < 2 ∨ 12 ≤ q) → (q < 22 ∨ 164 ≤ q) → g' q = g q)) (gXX κ B n ad (fun E g9 => (E = "java/lang/IndexOutOfBoundsException" ∧ (¬ (0 ≤ li ∧ li < nl)) ∧ g9 = g) ∨ (E = "java/lang/IllegalArgumentException" ∧ ((0 ≤ li ∧ li < nl) ∧ ¬ ((wh = 0 ∧ 5 ≤ x9 ∧ x9 ≤ 60) ∨ (wh = 1 ∧ (x9 = 0 ∨ x9 = 1)) ∨ (wh = 2 ∧ 0 ≤ x9 ∧ x9 ≤ 20) ∨ (wh = 3 ∧ 0 ≤ x9 ∧ x9 < v 0))) ∧ g9 = g))) 1 6 (gFree B) := by
  refine g_metX RX7 (cc := cX7_change) (maxL := 5) (ret := (some .int)) (by decide) rfl rfl (Nat.le_of_ble_eq_true rfl) ?_
  intro p e s m args below meth c C hr hlk hnt X G ls hl
  have hl : lv_has ls 5 [(0, .ref (ad 0)), (1, .int (iz li)), (2, .int (iz wh)), (3, .int (iz x9))] := hl
  obtain ⟨hn6, hv0, hv25, hlay, hsee⟩ := id hok
  refine g_aload_n C dX7_change_0 rfl hl 0 rfl ?_
  refine g_get C G (pos := 0) fX7_change_16 (by omega) hX.1 rfl dX7_change_1 ?_
  refine g_iload_n C dX7_change_4 rfl hl 1 rfl ?_
  refine g_co C G (g_runV (As := [.int (iz li)]) (rest := []) (pos := 2) C G (c_X4_find l κ B n ad g 2 nl v li (by omega) hpl (by omega) (by omega)) (cwV 1 C.1.2.2.2.2 gX7_change_X4_find rfl rfl rfl (by decide +kernel) ⟨Nat.le_of_ble_eq_true rfl, Nat.le_of_ble_eq_true rfl⟩) (by omega) hpl.1 (T := TX4) (N := 6) rfl rfl hl rfl (Nat.le_of_ble_eq_true rfl) dX7_change_5 ⟨Nat.le_of_ble_eq_true rfl, Nat.le_of_ble_eq_true rfl⟩) (fun q_1 g9 H locs hw G => ?_) (fun g9 H locs hw G => ?_)
  · obtain ⟨hg9, ⟨b_2, hw⟩ | ⟨b_2, hw⟩⟩ := hw
    all_goals replace hg9 := hg9.symm
    all_goals subst hg9
    · cases hw
      refine lv_astore (lv' := [(4, .ref (ad (2 + 2 + (li).toNat))), (0, .ref (ad 0)), (1, .int (iz li)), (2, .int (iz wh)), (3, .int (iz x9))]) C.1.1 C.1.2.1 dX7_change_8 hl (by decide) rfl (fun ls hl => ?_)
      refine g_aload C dX7_change_10 hl 0 rfl ?_
      refine lv_ifnonnull (tgt := 25) C.1.1 C.1.2.1 dX7_change_12 (by decide) ?_
      refine g_aload_n C dX7_change_25 rfl hl 1 rfl ?_
      refine g_get C G (pos := 0) fX7_change_16 (by omega) hX.1 rfl dX7_change_26 ?_
      refine g_iload_n C dX7_change_29 rfl hl 3 rfl ?_
      refine g_iload_n C dX7_change_30 rfl hl 4 rfl ?_
      refine g_ci C G (g_runV (As := [.int (iz wh), .int (iz x9)]) (rest := []) (pos := 2) C G (c_X4_allows l κ B n ad g 2 nl v wh x9 (by omega) hpl (by omega) (by omega) hv0) (cwV 2 C.1.2.2.2.2 gX7_change_X4_allows rfl rfl rfl (by decide +kernel) ⟨Nat.le_of_ble_eq_true rfl, Nat.le_of_ble_eq_true rfl⟩) (by omega) hpl.1 (T := TX4) (N := 6) rfl rfl hl rfl (Nat.le_of_ble_eq_true rfl) dX7_change_31 ⟨Nat.le_of_ble_eq_true rfl, Nat.le_of_ble_eq_true rfl⟩) (fun z_4 g9 H locs hw G => ?_)
      obtain ⟨hg9, hw⟩ := hw
      replace hg9 := hg9.symm
      subst hg9
      rcases hw with ⟨b_3, rfl⟩ | ⟨b_3, rfl⟩
      · refine g_if_ne (tgt := 47) C (by decide) dX7_change_34 (by decide) (fun _ => ?_) (fun c9 => absurd c9 (by decide))
        refine g_aload_n C dX7_change_47 rfl hl 1 rfl ?_
        refine g_get C G (pos := 0) fX7_change_26 (by omega) hX.1 rfl dX7_change_48 ?_
        refine g_aload_n C dX7_change_51 rfl hl 1 rfl ?_
        refine g_get C G (pos := 0) fX7_change_16 (by omega) hX.1 rfl dX7_change_52 ?_
        refine g_cv C G (g_runV (As := [.ref (ad 2)]) (rest := []) (pos := 22) C G (c_X2_remember l κ B n ad g 22 old cnt P9 2 nl v (by omega) hhi hol hct (by omega) hpl (by omega) hok hin hinP) (cwV 1 C.1.2.2.2.2 gX7_change_X2_remember rfl rfl rfl (by decide +kernel) ⟨Nat.le_of_ble_eq_true rfl, Nat.le_of_ble_eq_true rfl⟩) (by omega) hhi.1 (T := TX2) (N := 3) rfl rfl hl rfl (Nat.le_of_ble_eq_true rfl) dX7_change_55 ⟨Nat.le_of_ble_eq_true rfl, Nat.le_of_ble_eq_true rfl⟩) (fun g_10 H locs hw9 G => ?_)
        obtain ⟨U_5, hH_6, hS_7, hI_8, hF_9⟩ := hw9
        have hc_11 : g_10 0 = .inr (7, [.ref (ad 1), .int (iz tl), .ref (ad 2), .ref (ad 12), .ref (ad 22), .ref (ad 164), .ref (ad 165), .ref (ad 186)]) := (hF_9 _ (by omega)).trans hX.1
        have hc_12 : g_10 164 = aPl κ 2 (fun j => if j < 2 then some (ad (166 + 10 * j)) else none) := (hF_9 _ (by omega)).trans hX.2
        have hpl_13 : isPl κ ad g_10 2 nl v := hpl.far (fun q q0 q1 => hF_9 _ (by omega))
        refine g_aload C dX7_change_58 hl 0 rfl ?_
        refine g_iload_n C dX7_change_60 rfl hl 3 rfl ?_
        refine g_iload_n C dX7_change_61 rfl hl 4 rfl ?_
        refine g_ci C G (g_runV (As := [.int (iz wh), .int (iz x9)]) (rest := []) (pos := 2 + 2 + (li).toNat) C G (c_X3_exchange l κ B n ad g_10 (2 + 2 + (li).toNat) (v (4 * li + 1)) (v (4 * li + 2)) (v (4 * li + 3)) (v (4 * li + 4)) wh x9 (by omega) (hpl_13.lay (by omega) (by omega)) (by omega)) (cwV 2 C.1.2.2.2.2 gX7_change_X3_exchange rfl rfl rfl (by decide +kernel) ⟨Nat.le_of_ble_eq_true rfl, Nat.le_of_ble_eq_true rfl⟩) (by omega) (hpl_13.lay (by omega) (by omega)) (T := TX3) (N := 4) rfl rfl hl rfl (Nat.le_of_ble_eq_true rfl) dX7_change_62 ⟨Nat.le_of_ble_eq_true rfl, Nat.le_of_ble_eq_true rfl⟩) (fun z_14 g9 H locs hw G => ?_)
        obtain ⟨hw, h_15⟩ := hw
        subst hw
        obtain ⟨g_16, hg_17⟩ : ∃ g9, g9 = va_up g_10 (2 + 2 + (li).toNat) (.inr (3, [.int (iz (if wh = 0 then x9 else v (4 * li + 1))), .int (iz (if wh = 1 then x9 else v (4 * li + 2))), .int (iz (if wh = 2 then x9 else v (4 * li + 3))), .int (iz (if wh = 3 then x9 else v (4 * li + 4)))])) := ⟨_, rfl⟩
        rw [← hg_17] at G
        have hc_18 : g_16 0 = .inr (7, [.ref (ad 1), .int (iz tl), .ref (ad 2), .ref (ad 12), .ref (ad 22), .ref (ad 164), .ref (ad 165), .ref (ad 186)]) := by rw [hg_17, gu_ne (by omega)]; exact hc_11
        have hc_19 : g_16 164 = aPl κ 2 (fun j => if j < 2 then some (ad (166 + 10 * j)) else none) := by rw [hg_17, gu_ne (by omega)]; exact hc_12
        have hpl_20 : isPl κ ad g_16 2 nl (v4 v li (if wh = 0 then x9 else v (4 * li + 1)) (if wh = 1 then x9 else v (4 * li + 2)) (if wh = 2 then x9 else v (4 * li + 3)) (if wh = 3 then x9 else v (4 * li + 4))) := by rw [hg_17]; exact hpl_13.layer (by omega) (by omega)
        have hhi_21 : isHi κ ad g_16 22 (if cnt < 14 then old else (old + 1) % 14) (remC cnt) (fun j => if j = ((old + cnt) % 14).toNat then (nl, U_5) else P9 j) := hH_6.far (fun q q0 q1 => by rw [hg_17]; exact gu_ne (by omega))
        refine vx_ret ?_
        refine g_iret C G hr hlk (Nat.le_of_ble_eq_true rfl) (Nat.le_of_ble_eq_true rfl) dX7_change_65 ?_
        exact ⟨⟨by omega, by omega⟩, by rw [h_15]; exact ex_get (by omega), ⟨U_5, hhi_21, hS_7, hI_8⟩, by rw [← ex_vu (by omega)]; exact hpl_20, fun q q1 q2 => by
            rw [hg_17, gu_ne (by omega)]
            refine (hF_9 _ (by omega)).trans ?_
            try rfl⟩
      · refine g_if_ne (tgt := 47) C (by decide) dX7_change_34 (by decide) (fun c9 => absurd c9 (by decide)) (fun _ => ?_)
        refine g_throw C G X hlf hlk hnt hl (cls := "java/lang/IllegalArgumentException") (text := "what or v is out of range") (ik := 45) (is := 255) (ic := 49) (by decide +kernel) (by decide +kernel : Cond.classLink RX7 45 _ ∈ wsX7_change) (by decide +kernel : Cond.initialized _ ∈ wsX7_change) (by decide +kernel) (by decide +kernel) (by decide +kernel) at_iae (by decide +kernel) dX7_change_37 dX7_change_40 dX7_change_41 dX7_change_43 dX7_change_46 (Nat.le_of_ble_eq_true rfl) (Nat.le_of_ble_eq_true rfl) (Nat.le_of_ble_eq_true rfl) (Nat.le_of_ble_eq_true rfl) (Nat.le_of_ble_eq_true rfl) (Nat.le_of_ble_eq_true rfl) ?_
        exact Or.inr (⟨rfl, by omega, rfl⟩)
    · cases hw
  · obtain ⟨hg9, ⟨b_2, hw⟩ | ⟨b_2, hw⟩⟩ := hw
    all_goals replace hg9 := hg9.symm
    all_goals subst hg9
    · cases hw
    · refine lv_astoreN (lv' := [(4, .null), (0, .ref (ad 0)), (1, .int (iz li)), (2, .int (iz wh)), (3, .int (iz x9))]) C.1.1 C.1.2.1 dX7_change_8 hl (by decide) rfl (fun ls hl => ?_)
      refine lv_aloadN C.1.1 C.1.2.1 dX7_change_10 (lv_at hl 0 rfl) ?_
      refine lv_ifnonnullN C.1.1 C.1.2.1 dX7_change_12 ?_
      refine g_throw C G X hlf hlk hnt hl (cls := "java/lang/IndexOutOfBoundsException") (text := "no such layer") (ik := 116) (is := 118) (ic := 120) (by decide +kernel) (by decide +kernel : Cond.classLink RX7 116 _ ∈ wsX7_change) (by decide +kernel : Cond.initialized _ ∈ wsX7_change) (by decide +kernel) (by decide +kernel) (by decide +kernel) at_ioe (by decide +kernel) dX7_change_15 dX7_change_18 dX7_change_19 dX7_change_21 dX7_change_24 (Nat.le_of_ble_eq_true rfl) (Nat.le_of_ble_eq_true rfl) (Nat.le_of_ble_eq_true rfl) (Nat.le_of_ble_eq_true rfl) (Nat.le_of_ble_eq_true rfl) (Nat.le_of_ble_eq_true rfl) ?_
      exact Or.inl ⟨rfl, by omega, rfl⟩
theorem fX7_remove_16 : gFld wsX7_remove RX7 16 7 2 := ⟨RX7, TX7, 8, rfl, by decide, by decide +kernel, by decide +kernel⟩
theorem fX7_remove_26 : gFld wsX7_remove RX7 26 7 4 := ⟨RX7, TX7, 8, rfl, by decide, by decide +kernel, by decide +kernel⟩
theorem fX7_remove_74 : gFld wsX7_remove RX7 74 4 1 := ⟨RX4, TX4, 6, rfl, by decide, by decide +kernel, by decide +kernel⟩
set_option maxHeartbeats 4000000 in
set_option maxRecDepth 100000 in
theorem c_X7_remove (l : Launch) (hlf : l.stackTraces = false) (κ : gKap) (B n : Nat) (ad : Nat → Nat) (g : Nat → va_E) (tl : Int) (nl : Int) (v : Int → Int) (old : Int) (cnt : Int) (P9 : Nat → Int × (Int → Int)) (li : Int) (hnn : 192 ≤ n) (hX : isX κ ad g tl) (hpl : isPl κ ad g 2 nl v) (hok : okPl nl v) (hin : inV v) (hhi : isHi κ ad g 22 old cnt P9) (hol : 0 ≤ old ∧ old < 14) (hct : 0 ≤ cnt ∧ cnt ≤ 14) (hinP : ∀ j : Nat, j < 14 → inV (P9 j).2) (hli : inI li) : vx_Met l yX7_remove wsX7_remove ({ frames := 6, cells := 1, slots := 6, locals := 94 }) (gPreX κ B n ad g [.ref (ad 0), .int (iz li)]) (gQi κ B n ad (fun z g' => (0 ≤ li ∧ li < nl) ∧ z = nl - 1 ∧ remX κ ad g' old cnt P9 nl v ∧ isPl κ ad g' 2 (nl - 1) (drv nl v li) ∧ ∀ q, (q < 2 ∨ 12 ≤ q) → (q < 22 ∨ 164 ≤ q) → g' q = g q)) (gXX κ B n ad (fun E g9 => (E = "java/lang/IndexOutOfBoundsException" ∧ (¬ (0 ≤ li ∧ li < nl)) ∧ g9 = g))) 1 6 (gFree B) := by
  refine g_metX RX7 (cc := cX7_remove) (maxL := 2) (ret := (some .int)) (by decide) rfl rfl (Nat.le_of_ble_eq_true rfl) ?_
  intro p e s m args below meth c C hr hlk hnt X G ls hl
  have hl : lv_has ls 2 [(0, .ref (ad 0)), (1, .int (iz li))] := hl
  obtain ⟨hn6, hv0, hv25, hlay, hsee⟩ := id hok
  refine g_aload_n C dX7_remove_0 rfl hl 0 rfl ?_
  refine g_get C G (pos := 0) fX7_remove_16 (by omega) hX.1 rfl dX7_remove_1 ?_
  refine g_iload_n C dX7_remove_4 rfl hl 1 rfl ?_
  refine g_co C G (g_runV (As := [.int (iz li)]) (rest := []) (pos := 2) C G (c_X4_find l κ B n ad g 2 nl v li (by omega) hpl (by omega) (by omega)) (cwV 1 C.1.2.2.2.2 gX7_remove_X4_find rfl rfl rfl (by decide +kernel) ⟨Nat.le_of_ble_eq_true rfl, Nat.le_of_ble_eq_true rfl⟩) (by omega) hpl.1 (T := TX4) (N := 6) rfl rfl hl rfl (Nat.le_of_ble_eq_true rfl) dX7_remove_5 ⟨Nat.le_of_ble_eq_true rfl, Nat.le_of_ble_eq_true rfl⟩) (fun q_1 g9 H locs hw G => ?_) (fun g9 H locs hw G => ?_)
  · obtain ⟨hg9, ⟨b_2, hw⟩ | ⟨b_2, hw⟩⟩ := hw
    all_goals replace hg9 := hg9.symm
    all_goals subst hg9
    · cases hw
      refine lv_ifnonnull (tgt := 21) C.1.1 C.1.2.1 dX7_remove_8 (by decide) ?_
      refine g_aload_n C dX7_remove_21 rfl hl 0 rfl ?_
      refine g_get C G (pos := 0) fX7_remove_26 (by omega) hX.1 rfl dX7_remove_22 ?_
      refine g_aload_n C dX7_remove_25 rfl hl 0 rfl ?_
      refine g_get C G (pos := 0) fX7_remove_16 (by omega) hX.1 rfl dX7_remove_26 ?_
      refine g_cv C G (g_runV (As := [.ref (ad 2)]) (rest := []) (pos := 22) C G (c_X2_remember l κ B n ad g 22 old cnt P9 2 nl v (by omega) hhi hol hct (by omega) hpl (by omega) hok hin hinP) (cwV 1 C.1.2.2.2.2 gX7_remove_X2_remember rfl rfl rfl (by decide +kernel) ⟨Nat.le_of_ble_eq_true rfl, Nat.le_of_ble_eq_true rfl⟩) (by omega) hhi.1 (T := TX2) (N := 3) rfl rfl hl rfl (Nat.le_of_ble_eq_true rfl) dX7_remove_29 ⟨Nat.le_of_ble_eq_true rfl, Nat.le_of_ble_eq_true rfl⟩) (fun g_8 H locs hw9 G => ?_)
      obtain ⟨U_3, hH_4, hS_5, hI_6, hF_7⟩ := hw9
      have hc_9 : g_8 0 = .inr (7, [.ref (ad 1), .int (iz tl), .ref (ad 2), .ref (ad 12), .ref (ad 22), .ref (ad 164), .ref (ad 165), .ref (ad 186)]) := (hF_7 _ (by omega)).trans hX.1
      have hc_10 : g_8 164 = aPl κ 2 (fun j => if j < 2 then some (ad (166 + 10 * j)) else none) := (hF_7 _ (by omega)).trans hX.2
      have hpl_11 : isPl κ ad g_8 2 nl v := hpl.far (fun q q0 q1 => hF_7 _ (by omega))
      refine g_aload_n C dX7_remove_32 rfl hl 0 rfl ?_
      refine g_get C G (pos := 0) fX7_remove_16 (by omega) hc_9 rfl dX7_remove_33 ?_
      refine g_iload_n C dX7_remove_36 rfl hl 1 rfl ?_
      refine g_cv C G (g_runV (As := [.int (iz li)]) (rest := []) (pos := 2) C G (c_X4_dropLayer l κ B n ad g_8 2 nl v li (by omega) hpl_11 (by omega) (by omega)) (cwV 1 C.1.2.2.2.2 gX7_remove_X4_dropLayer rfl rfl rfl (by decide +kernel) ⟨Nat.le_of_ble_eq_true rfl, Nat.le_of_ble_eq_true rfl⟩) (by omega) hpl_11.1 (T := TX4) (N := 6) rfl rfl hl rfl (Nat.le_of_ble_eq_true rfl) dX7_remove_37 ⟨Nat.le_of_ble_eq_true rfl, Nat.le_of_ble_eq_true rfl⟩) (fun g_12 H locs hw9 G => ?_)
      obtain ⟨hpl_13, hfr_14⟩ := hw9
      have hc_16 : g_12 0 = .inr (7, [.ref (ad 1), .int (iz tl), .ref (ad 2), .ref (ad 12), .ref (ad 22), .ref (ad 164), .ref (ad 165), .ref (ad 186)]) := (hfr_14 _ (by omega)).trans hc_9
      have hc_17 : g_12 164 = aPl κ 2 (fun j => if j < 2 then some (ad (166 + 10 * j)) else none) := (hfr_14 _ (by omega)).trans hc_10
      have hhi_18 : isHi κ ad g_12 22 (if cnt < 14 then old else (old + 1) % 14) (remC cnt) (fun j => if j = ((old + cnt) % 14).toNat then (nl, U_3) else P9 j) := hH_4.far (fun q q0 q1 => hfr_14 _ (by omega))
      refine g_aload_n C dX7_remove_40 rfl hl 0 rfl ?_
      refine g_get C G (pos := 0) fX7_remove_16 (by omega) hc_16 rfl dX7_remove_41 ?_
      refine g_get C G (pos := 2) fX7_remove_74 (by omega) hpl_13.1 rfl dX7_remove_44 ?_
      refine vx_ret ?_
      refine g_iret C G hr hlk (Nat.le_of_ble_eq_true rfl) (Nat.le_of_ble_eq_true rfl) dX7_remove_47 ?_
      exact ⟨by omega, by omega, ⟨U_3, hhi_18, hS_5, hI_6⟩, hpl_13, fun q q1 q2 => by
          refine (hfr_14 _ (by omega)).trans ?_
          refine (hF_7 _ (by omega)).trans ?_
          try rfl⟩
    · cases hw
  · obtain ⟨hg9, ⟨b_2, hw⟩ | ⟨b_2, hw⟩⟩ := hw
    all_goals replace hg9 := hg9.symm
    all_goals subst hg9
    · cases hw
    · refine lv_ifnonnullN C.1.1 C.1.2.1 dX7_remove_8 ?_
      refine g_throw C G X hlf hlk hnt hl (cls := "java/lang/IndexOutOfBoundsException") (text := "no such layer") (ik := 116) (is := 118) (ic := 120) (by decide +kernel) (by decide +kernel : Cond.classLink RX7 116 _ ∈ wsX7_remove) (by decide +kernel : Cond.initialized _ ∈ wsX7_remove) (by decide +kernel) (by decide +kernel) (by decide +kernel) at_ioe (by decide +kernel) dX7_remove_11 dX7_remove_14 dX7_remove_15 dX7_remove_17 dX7_remove_20 (Nat.le_of_ble_eq_true rfl) (Nat.le_of_ble_eq_true rfl) (Nat.le_of_ble_eq_true rfl) (Nat.le_of_ble_eq_true rfl) (Nat.le_of_ble_eq_true rfl) (Nat.le_of_ble_eq_true rfl) ?_
      exact ⟨rfl, by omega, rfl⟩
theorem fX7_see_16 : gFld wsX7_see RX7 16 7 2 := ⟨RX7, TX7, 8, rfl, by decide, by decide +kernel, by decide +kernel⟩
theorem fX7_see_26 : gFld wsX7_see RX7 26 7 4 := ⟨RX7, TX7, 8, rfl, by decide, by decide +kernel, by decide +kernel⟩
set_option maxHeartbeats 4000000 in
set_option maxRecDepth 100000 in
theorem c_X7_see (l : Launch) (hlf : l.stackTraces = false) (κ : gKap) (B n : Nat) (ad : Nat → Nat) (g : Nat → va_E) (tl : Int) (nl : Int) (v : Int → Int) (old : Int) (cnt : Int) (P9 : Nat → Int × (Int → Int)) (an : Int) (ra : Int) (hnn : 192 ≤ n) (hX : isX κ ad g tl) (hpl : isPl κ ad g 2 nl v) (hok : okPl nl v) (hin : inV v) (hhi : isHi κ ad g 22 old cnt P9) (hol : 0 ≤ old ∧ old < 14) (hct : 0 ≤ cnt ∧ cnt ≤ 14) (hinP : ∀ j : Nat, j < 14 → inV (P9 j).2) (han : inI an) (hra : inI ra) : vx_Met l yX7_see wsX7_see ({ frames := 6, cells := 1, slots := 6, locals := 123 }) (gPreX κ B n ad g [.ref (ad 0), .int (iz an), .int (iz ra)]) (gQi κ B n ad (fun z g' => ((0 ≤ an ∧ an < v 0) ∧ 0 ≤ ra ∧ ra ≤ 300) ∧ z = fitN nl (ntv v an ra) ∧ remX κ ad g' old cnt P9 nl v ∧ isPl κ ad g' 2 nl (ntv v an ra) ∧ ∀ q, (q < 2 ∨ 12 ≤ q) → (q < 22 ∨ 164 ≤ q) → g' q = g q)) (gXX κ B n ad (fun E g9 => (E = "java/lang/IllegalArgumentException" ∧ (¬ ((0 ≤ an ∧ an < v 0) ∧ 0 ≤ ra ∧ ra ≤ 300)) ∧ g9 = g))) 1 6 (gFree B) := by
  refine g_metX RX7 (cc := cX7_see) (maxL := 3) (ret := (some .int)) (by decide) rfl rfl (Nat.le_of_ble_eq_true rfl) ?_
  intro p e s m args below meth c C hr hlk hnt X G ls hl
  have hl : lv_has ls 3 [(0, .ref (ad 0)), (1, .int (iz an)), (2, .int (iz ra))] := hl
  obtain ⟨hn6, hv0, hv25, hlay, hsee⟩ := id hok
  refine g_aload_n C dX7_see_0 rfl hl 0 rfl ?_
  refine g_get C G (pos := 0) fX7_see_16 (by omega) hX.1 rfl dX7_see_1 ?_
  refine g_iload_n C dX7_see_4 rfl hl 1 rfl ?_
  refine g_ci C G (g_runV (As := [.int (iz an)]) (rest := []) (pos := 2) C G (c_X4_hasTooth l κ B n ad g 2 nl v an (by omega) hpl (by omega) hv0) (cwV 1 C.1.2.2.2.2 gX7_see_X4_hasTooth rfl rfl rfl (by decide +kernel) ⟨Nat.le_of_ble_eq_true rfl, Nat.le_of_ble_eq_true rfl⟩) (by omega) hpl.1 (T := TX4) (N := 6) rfl rfl hl rfl (Nat.le_of_ble_eq_true rfl) dX7_see_5 ⟨Nat.le_of_ble_eq_true rfl, Nat.le_of_ble_eq_true rfl⟩) (fun z_2 g9 H locs hw G => ?_)
  obtain ⟨hg9, hw⟩ := hw
  replace hg9 := hg9.symm
  subst hg9
  rcases hw with ⟨b_1, rfl⟩ | ⟨b_1, rfl⟩
  · refine g_if_eq (tgt := 18) C (by decide) dX7_see_8 (by decide) (fun c9 => absurd c9 (by decide)) (fun _ => ?_)
    refine g_iload_n C dX7_see_11 rfl hl 2 rfl ?_
    refine g_ci C G (g_runS (As := [.int (iz ra)]) (rest := []) C G (c_X7_isRadius l κ B n ad g ra (by omega)) (va_cwS 1 C.1.2.2.2.2 gX7_see_X7_isRadius rfl rfl rfl (by decide +kernel) ⟨Nat.le_of_ble_eq_true rfl, Nat.le_of_ble_eq_true rfl⟩) rfl hl rfl (Nat.le_of_ble_eq_true rfl) dX7_see_12 ⟨Nat.le_of_ble_eq_true rfl, Nat.le_of_ble_eq_true rfl⟩) (fun z_4 g9 H locs hw G => ?_)
    obtain ⟨hg9, hw⟩ := hw
    replace hg9 := hg9.symm
    subst hg9
    rcases hw with ⟨b_3, rfl⟩ | ⟨b_3, rfl⟩
    · refine g_if_ne (tgt := 28) C (by decide) dX7_see_15 (by decide) (fun _ => ?_) (fun c9 => absurd c9 (by decide))
      refine g_aload_n C dX7_see_28 rfl hl 0 rfl ?_
      refine g_get C G (pos := 0) fX7_see_26 (by omega) hX.1 rfl dX7_see_29 ?_
      refine g_aload_n C dX7_see_32 rfl hl 0 rfl ?_
      refine g_get C G (pos := 0) fX7_see_16 (by omega) hX.1 rfl dX7_see_33 ?_
      refine g_cv C G (g_runV (As := [.ref (ad 2)]) (rest := []) (pos := 22) C G (c_X2_remember l κ B n ad g 22 old cnt P9 2 nl v (by omega) hhi hol hct (by omega) hpl (by omega) hok hin hinP) (cwV 1 C.1.2.2.2.2 gX7_see_X2_remember rfl rfl rfl (by decide +kernel) ⟨Nat.le_of_ble_eq_true rfl, Nat.le_of_ble_eq_true rfl⟩) (by omega) hhi.1 (T := TX2) (N := 3) rfl rfl hl rfl (Nat.le_of_ble_eq_true rfl) dX7_see_36 ⟨Nat.le_of_ble_eq_true rfl, Nat.le_of_ble_eq_true rfl⟩) (fun g_10 H locs hw9 G => ?_)
      obtain ⟨U_5, hH_6, hS_7, hI_8, hF_9⟩ := hw9
      have hc_11 : g_10 0 = .inr (7, [.ref (ad 1), .int (iz tl), .ref (ad 2), .ref (ad 12), .ref (ad 22), .ref (ad 164), .ref (ad 165), .ref (ad 186)]) := (hF_9 _ (by omega)).trans hX.1
      have hc_12 : g_10 164 = aPl κ 2 (fun j => if j < 2 then some (ad (166 + 10 * j)) else none) := (hF_9 _ (by omega)).trans hX.2
      have hpl_13 : isPl κ ad g_10 2 nl v := hpl.far (fun q q0 q1 => hF_9 _ (by omega))
      refine g_aload_n C dX7_see_39 rfl hl 0 rfl ?_
      refine g_get C G (pos := 0) fX7_see_16 (by omega) hc_11 rfl dX7_see_40 ?_
      refine g_iload_n C dX7_see_43 rfl hl 1 rfl ?_
      refine g_iload_n C dX7_see_44 rfl hl 2 rfl ?_
      refine g_cv C G (g_runV (As := [.int (iz an), .int (iz ra)]) (rest := []) (pos := 2) C G (c_X4_note l κ B n ad g_10 2 nl v an ra (by omega) hpl_13 (by omega)) (cwV 2 C.1.2.2.2.2 gX7_see_X4_note rfl rfl rfl (by decide +kernel) ⟨Nat.le_of_ble_eq_true rfl, Nat.le_of_ble_eq_true rfl⟩) (by omega) hpl_13.1 (T := TX4) (N := 6) rfl rfl hl rfl (Nat.le_of_ble_eq_true rfl) dX7_see_45 ⟨Nat.le_of_ble_eq_true rfl, Nat.le_of_ble_eq_true rfl⟩) (fun g_14 H locs hw9 G => ?_)
      obtain ⟨hpl_15, hfr_16⟩ := hw9
      have hc_18 : g_14 0 = .inr (7, [.ref (ad 1), .int (iz tl), .ref (ad 2), .ref (ad 12), .ref (ad 22), .ref (ad 164), .ref (ad 165), .ref (ad 186)]) := (hfr_16 _ (by omega)).trans hc_11
      have hc_19 : g_14 164 = aPl κ 2 (fun j => if j < 2 then some (ad (166 + 10 * j)) else none) := (hfr_16 _ (by omega)).trans hc_12
      have hhi_20 : isHi κ ad g_14 22 (if cnt < 14 then old else (old + 1) % 14) (remC cnt) (fun j => if j = ((old + cnt) % 14).toNat then (nl, U_5) else P9 j) := hH_6.far (fun q q0 q1 => hfr_16 _ (by omega))
      refine g_aload_n C dX7_see_48 rfl hl 0 rfl ?_
      refine g_get C G (pos := 0) fX7_see_16 (by omega) hc_18 rfl dX7_see_49 ?_
      refine g_ci C G (g_runV (As := []) (rest := []) (pos := 2) C G (c_X4_fitting l κ B n ad g_14 2 nl (ntv v an ra) (by omega) hpl_15 (hok.note9 (by omega) (by omega)).1) (cwV 0 C.1.2.2.2.2 gX7_see_X4_fitting rfl rfl rfl (by decide +kernel) ⟨Nat.le_of_ble_eq_true rfl, Nat.le_of_ble_eq_true rfl⟩) (by omega) hpl_15.1 (T := TX4) (N := 6) rfl rfl hl rfl (Nat.le_of_ble_eq_true rfl) dX7_see_52 ⟨Nat.le_of_ble_eq_true rfl, Nat.le_of_ble_eq_true rfl⟩) (fun z_21 g9 H locs hw G => ?_)
      obtain ⟨hg9, h_22⟩ := hw
      replace hg9 := hg9.symm
      subst hg9
      refine vx_ret ?_
      refine g_iret C G hr hlk (Nat.le_of_ble_eq_true rfl) (Nat.le_of_ble_eq_true rfl) dX7_see_55 ?_
      exact ⟨by omega, h_22.1, ⟨U_5, hhi_20, hS_7, hI_8⟩, hpl_15, fun q q1 q2 => by
          refine (hfr_16 _ (by omega)).trans ?_
          refine (hF_9 _ (by omega)).trans ?_
          try rfl⟩
    · refine g_if_ne (tgt := 28) C (by decide) dX7_see_15 (by decide) (fun c9 => absurd c9 (by decide)) (fun _ => ?_)
      refine g_throw C G X hlf hlk hnt hl (cls := "java/lang/IllegalArgumentException") (text := "angle or radius is out of range") (ik := 45) (is := 170) (ic := 49) (by decide +kernel) (by decide +kernel : Cond.classLink RX7 45 _ ∈ wsX7_see) (by decide +kernel : Cond.initialized _ ∈ wsX7_see) (by decide +kernel) (by decide +kernel) (by decide +kernel) at_iae (by decide +kernel) dX7_see_18 dX7_see_21 dX7_see_22 dX7_see_24 dX7_see_27 (Nat.le_of_ble_eq_true rfl) (Nat.le_of_ble_eq_true rfl) (Nat.le_of_ble_eq_true rfl) (Nat.le_of_ble_eq_true rfl) (Nat.le_of_ble_eq_true rfl) (Nat.le_of_ble_eq_true rfl) ?_
      exact ⟨rfl, by omega, rfl⟩
  · refine g_if_eq (tgt := 18) C (by decide) dX7_see_8 (by decide) (fun _ => ?_) (fun c9 => absurd c9 (by decide))
    refine g_throw C G X hlf hlk hnt hl (cls := "java/lang/IllegalArgumentException") (text := "angle or radius is out of range") (ik := 45) (is := 170) (ic := 49) (by decide +kernel) (by decide +kernel : Cond.classLink RX7 45 _ ∈ wsX7_see) (by decide +kernel : Cond.initialized _ ∈ wsX7_see) (by decide +kernel) (by decide +kernel) (by decide +kernel) at_iae (by decide +kernel) dX7_see_18 dX7_see_21 dX7_see_22 dX7_see_24 dX7_see_27 (Nat.le_of_ble_eq_true rfl) (Nat.le_of_ble_eq_true rfl) (Nat.le_of_ble_eq_true rfl) (Nat.le_of_ble_eq_true rfl) (Nat.le_of_ble_eq_true rfl) (Nat.le_of_ble_eq_true rfl) ?_
    exact ⟨rfl, by omega, rfl⟩
theorem fX7_forget_26 : gFld wsX7_forget RX7 26 7 4 := ⟨RX7, TX7, 8, rfl, by decide, by decide +kernel, by decide +kernel⟩
theorem fX7_forget_16 : gFld wsX7_forget RX7 16 7 2 := ⟨RX7, TX7, 8, rfl, by decide, by decide +kernel, by decide +kernel⟩
theorem fX7_forget_89 : gFld wsX7_forget RX7 89 4 2 := ⟨RX4, TX4, 6, rfl, by decide, by decide +kernel, by decide +kernel⟩
theorem fwX7_forget_89 : gFldW wsX7_forget RX7 89 4 2 .int false := ⟨RX4, TX4, 6, tyX4, rfl, by decide, by decide +kernel, by decide +kernel, tyX4_ok, nmX4, rfl, by decide +kernel, by decide +kernel⟩
set_option maxHeartbeats 4000000 in
set_option maxRecDepth 100000 in
theorem c_X7_forget (l : Launch) (κ : gKap) (B n : Nat) (ad : Nat → Nat) (g : Nat → va_E) (tl : Int) (nl : Int) (v : Int → Int) (old : Int) (cnt : Int) (P9 : Nat → Int × (Int → Int)) (hnn : 192 ≤ n) (hX : isX κ ad g tl) (hpl : isPl κ ad g 2 nl v) (hok : okPl nl v) (hin : inV v) (hhi : isHi κ ad g 22 old cnt P9) (hol : 0 ≤ old ∧ old < 14) (hct : 0 ≤ cnt ∧ cnt ≤ 14) (hinP : ∀ j : Nat, j < 14 → inV (P9 j).2) : Met l yX7_forget wsX7_forget ({ frames := 4, cells := 0, slots := 0, locals := 94 }) (gPre κ B n ad g [.ref (ad 0)]) (gQi κ B n ad (fun z g' => z = v 25 ∧ remX κ ad g' old cnt P9 nl v ∧ isPl κ ad g' 2 nl (vu v 25 0) ∧ ∀ q, (q < 2 ∨ 12 ≤ q) → (q < 22 ∨ 164 ≤ q) → g' q = g q)) 0 0 (gFree B) := by
  refine g_met RX7 (cc := cX7_forget) (maxL := 2) (ret := (some .int)) (by decide) rfl rfl (Nat.le_of_ble_eq_true rfl) ?_
  intro p e s m args below meth c C hr hlk hnm G ls hl
  have hl : lv_has ls 2 [(0, .ref (ad 0))] := hl
  obtain ⟨hn6, hv0, hv25, hlay, hsee⟩ := id hok
  refine g_aload_n C dX7_forget_0 rfl hl 0 rfl ?_
  refine g_get C G (pos := 0) fX7_forget_26 (by omega) hX.1 rfl dX7_forget_1 ?_
  refine g_aload_n C dX7_forget_4 rfl hl 0 rfl ?_
  refine g_get C G (pos := 0) fX7_forget_16 (by omega) hX.1 rfl dX7_forget_5 ?_
  refine g_cv C G (g_runV (As := [.ref (ad 2)]) (rest := []) (pos := 22) C G (c_X2_remember l κ B n ad g 22 old cnt P9 2 nl v (by omega) hhi hol hct (by omega) hpl (by omega) hok hin hinP) (cwV 1 C.1.2.2.2.2 gX7_forget_X2_remember rfl rfl rfl (by decide +kernel) ⟨Nat.le_of_ble_eq_true rfl, Nat.le_of_ble_eq_true rfl⟩) (by omega) hhi.1 (T := TX2) (N := 3) rfl rfl hl rfl (Nat.le_of_ble_eq_true rfl) dX7_forget_8 ⟨Nat.le_of_ble_eq_true rfl, Nat.le_of_ble_eq_true rfl⟩) (fun g_6 H locs hw9 G => ?_)
  obtain ⟨U_1, hH_2, hS_3, hI_4, hF_5⟩ := hw9
  have hc_7 : g_6 0 = .inr (7, [.ref (ad 1), .int (iz tl), .ref (ad 2), .ref (ad 12), .ref (ad 22), .ref (ad 164), .ref (ad 165), .ref (ad 186)]) := (hF_5 _ (by omega)).trans hX.1
  have hc_8 : g_6 164 = aPl κ 2 (fun j => if j < 2 then some (ad (166 + 10 * j)) else none) := (hF_5 _ (by omega)).trans hX.2
  have hpl_9 : isPl κ ad g_6 2 nl v := hpl.far (fun q q0 q1 => hF_5 _ (by omega))
  refine g_aload_n C dX7_forget_11 rfl hl 0 rfl ?_
  refine g_get C G (pos := 0) fX7_forget_16 (by omega) hc_7 rfl dX7_forget_12 ?_
  refine g_get C G (pos := 2) fX7_forget_89 (by omega) hpl_9.1 rfl dX7_forget_15 ?_
  refine lv_istore_n (lv' := [(1, .int (iz (v 25))), (0, .ref (ad 0))]) C.1.1 C.1.2.1 dX7_forget_18 rfl hl (by decide) rfl (fun ls hl => ?_)
  refine g_aload_n C dX7_forget_19 rfl hl 1 rfl ?_
  refine g_get C G (pos := 0) fX7_forget_16 (by omega) hc_7 rfl dX7_forget_20 ?_
  refine g_iconst (a := 0) C dX7_forget_23 rfl ?_
  refine g_put C G (pos := 2) (fs' := [.int (iz (v 0)), .int (iz nl), .int (iz 0), .ref (ad (2 + 1)), .ref (ad (2 + 8)), .ref (ad (2 + 9))]) fwX7_forget_89 (by omega) hpl_9.1 (Nat.le_of_ble_eq_true rfl) rfl rfl rfl dX7_forget_24 (fun H locs G => ?_)
  obtain ⟨g_10, hg_11⟩ : ∃ g9, g9 = va_up g_6 2 (.inr (4, [.int (iz (v 0)), .int (iz nl), .int (iz 0), .ref (ad (2 + 1)), .ref (ad (2 + 8)), .ref (ad (2 + 9))])) := ⟨_, rfl⟩
  rw [← hg_11] at G
  have hc_12 : g_10 0 = .inr (7, [.ref (ad 1), .int (iz tl), .ref (ad 2), .ref (ad 12), .ref (ad 22), .ref (ad 164), .ref (ad 165), .ref (ad 186)]) := by rw [hg_11, gu_ne (by decide)]; exact hc_7
  have hc_13 : g_10 164 = aPl κ 2 (fun j => if j < 2 then some (ad (166 + 10 * j)) else none) := by rw [hg_11, gu_ne (by decide)]; exact hc_8
  have hpl_14 : isPl κ ad g_10 2 nl (vu v 25 0) := by rw [hg_11]; exact hpl_9.see
  have hhi_15 : isHi κ ad g_10 22 (if cnt < 14 then old else (old + 1) % 14) (remC cnt) (fun j => if j = ((old + cnt) % 14).toNat then (nl, U_1) else P9 j) := hH_2.far (fun q q0 q1 => by rw [hg_11]; exact gu_ne (by omega))
  refine g_iload_n C dX7_forget_27 rfl hl 0 rfl ?_
  refine g_iret C G hr hlk (Nat.le_of_ble_eq_true rfl) (Nat.le_of_ble_eq_true rfl) dX7_forget_28 ?_
  exact ⟨rfl, ⟨U_1, hhi_15, hS_3, hI_4⟩, hpl_14, fun q q1 q2 => by
      rw [hg_11, gu_ne (by omega)]
      refine (hF_5 _ (by omega)).trans ?_
      try rfl⟩
theorem fX7_undo_26 : gFld wsX7_undo RX7 26 7 4 := ⟨RX7, TX7, 8, rfl, by decide, by decide +kernel, by decide +kernel⟩
theorem fX7_undo_267 : gFld wsX7_undo RX7 267 2 2 := ⟨RX2, TX2, 3, rfl, by decide, by decide +kernel, by decide +kernel⟩
theorem fX7_undo_16 : gFld wsX7_undo RX7 16 7 2 := ⟨RX7, TX7, 8, rfl, by decide, by decide +kernel, by decide +kernel⟩
set_option maxHeartbeats 4000000 in
set_option maxRecDepth 100000 in
theorem c_X7_undo (l : Launch) (hlf : l.stackTraces = false) (κ : gKap) (B n : Nat) (ad : Nat → Nat) (g : Nat → va_E) (tl : Int) (nl : Int) (v : Int → Int) (old : Int) (cnt : Int) (P9 : Nat → Int × (Int → Int)) (hnn : 192 ≤ n) (hX : isX κ ad g tl) (hpl : isPl κ ad g 2 nl v) (hok : okPl nl v) (hin : inV v) (hhi : isHi κ ad g 22 old cnt P9) (hol : 0 ≤ old ∧ old < 14) (hct : 0 ≤ cnt ∧ cnt ≤ 14) (hinP : ∀ j : Nat, j < 14 → inV (P9 j).2) (hJ : 1 ≤ cnt → (0 ≤ (P9 ((old + (cnt - 1)) % 14).toNat).1 ∧ (P9 ((old + (cnt - 1)) % 14).toNat).1 ≤ 6) ∧ 0 ≤ (P9 ((old + (cnt - 1)) % 14).toNat).2 25 ∧ (P9 ((old + (cnt - 1)) % 14).toNat).2 25 ≤ 8) : vx_Met l yX7_undo wsX7_undo ({ frames := 6, cells := 1, slots := 6, locals := 94 }) (gPreX κ B n ad g [.ref (ad 0)]) (gQi κ B n ad (fun z g' => 1 ≤ cnt ∧ z = cnt - 1 ∧ ∃ U9, isHi κ ad g' 22 old (cnt - 1) P9 ∧ isPl κ ad g' 2 (P9 ((old + (cnt - 1)) % 14).toNat).1 U9 ∧ sim (P9 ((old + (cnt - 1)) % 14).toNat).1 U9 (P9 ((old + (cnt - 1)) % 14).toNat).2 ∧ inV U9 ∧ ∀ q, q ≠ 22 → (q < 2 ∨ 2 + 10 ≤ q) → g' q = g q)) (gXX κ B n ad (fun E g9 => (E = "java/lang/IllegalStateException" ∧ (cnt = 0) ∧ g9 = g))) 1 6 (gFree B) := by
  refine g_metX RX7 (cc := cX7_undo) (maxL := 1) (ret := (some .int)) (by decide) rfl rfl (Nat.le_of_ble_eq_true rfl) ?_
  intro p e s m args below meth c C hr hlk hnt X G ls hl
  have hl : lv_has ls 1 [(0, .ref (ad 0))] := hl
  obtain ⟨hn6, hv0, hv25, hlay, hsee⟩ := id hok
  refine g_aload_n C dX7_undo_0 rfl hl 0 rfl ?_
  refine g_get C G (pos := 0) fX7_undo_26 (by omega) hX.1 rfl dX7_undo_1 ?_
  refine g_get C G (pos := 22) fX7_undo_267 (by omega) hhi.1 rfl dX7_undo_4 ?_
  refine g_if_ne (tgt := 21) C (by omega) dX7_undo_7 (by decide) (fun c_1 => ?_) (fun c_1 => ?_)
  · refine g_aload_n C dX7_undo_21 rfl hl 0 rfl ?_
    refine g_get C G (pos := 0) fX7_undo_26 (by omega) hX.1 rfl dX7_undo_22 ?_
    refine g_aload_n C dX7_undo_25 rfl hl 0 rfl ?_
    refine g_get C G (pos := 0) fX7_undo_16 (by omega) hX.1 rfl dX7_undo_26 ?_
    refine g_cv C G (g_runV (As := [.ref (ad 2)]) (rest := []) (pos := 22) C G (c_X2_takeBack l κ B n ad g 22 old cnt P9 2 nl v (by omega) hhi hol hct (by omega) hpl (by omega) hin (by omega) (hinP _ (by omega)) (hJ (by omega)).1 (hJ (by omega)).2) (cwV 1 C.1.2.2.2.2 gX7_undo_X2_takeBack rfl rfl rfl (by decide +kernel) ⟨Nat.le_of_ble_eq_true rfl, Nat.le_of_ble_eq_true rfl⟩) (by omega) hhi.1 (T := TX2) (N := 3) rfl rfl hl rfl (Nat.le_of_ble_eq_true rfl) dX7_undo_29 ⟨Nat.le_of_ble_eq_true rfl, Nat.le_of_ble_eq_true rfl⟩) (fun g_8 H locs hw9 G => ?_)
    obtain ⟨U_2, hH_3, hpl_4, hS_5, hI_6, hF_7⟩ := hw9
    have hc_9 : g_8 0 = .inr (7, [.ref (ad 1), .int (iz tl), .ref (ad 2), .ref (ad 12), .ref (ad 22), .ref (ad 164), .ref (ad 165), .ref (ad 186)]) := (hF_7 _ (by omega) (by omega)).trans hX.1
    have hc_10 : g_8 164 = aPl κ 2 (fun j => if j < 2 then some (ad (166 + 10 * j)) else none) := (hF_7 _ (by omega) (by omega)).trans hX.2
    refine g_aload_n C dX7_undo_32 rfl hl 0 rfl ?_
    refine g_get C G (pos := 0) fX7_undo_26 (by omega) hc_9 rfl dX7_undo_33 ?_
    refine g_get C G (pos := 22) fX7_undo_267 (by omega) hH_3.1 rfl dX7_undo_36 ?_
    refine vx_ret ?_
    refine g_iret C G hr hlk (Nat.le_of_ble_eq_true rfl) (Nat.le_of_ble_eq_true rfl) dX7_undo_39 ?_
    exact ⟨by omega, rfl, U_2, hH_3, hpl_4, hS_5, hI_6, fun q q1 q2 => hF_7 q q1 q2⟩
  · refine g_throwW C G X hlf hlk hnt hl (cls := "java/lang/IllegalStateException") (text := "no state is remembered") (ik := 56) (is := 270) (ic := 60) (by decide +kernel) (by decide +kernel : Cond.classLink RX7 56 _ ∈ wsX7_undo) (by decide +kernel : Cond.initialized _ ∈ wsX7_undo) (by decide +kernel) (by decide +kernel) (by decide +kernel) at_ise (by decide +kernel) dX7_undo_10 dX7_undo_13 dX7_undo_14 dX7_undo_17 dX7_undo_20 (Nat.le_of_ble_eq_true rfl) (Nat.le_of_ble_eq_true rfl) (Nat.le_of_ble_eq_true rfl) (Nat.le_of_ble_eq_true rfl) (Nat.le_of_ble_eq_true rfl) (Nat.le_of_ble_eq_true rfl) ?_
    exact ⟨rfl, by omega, rfl⟩
