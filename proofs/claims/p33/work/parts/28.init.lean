/-! CONSTRUCTORS -/
def v00 : Int → Int := fun i => if i = 0 then 24 else if i < 25 ∧ i % 4 = 1 then 5 else 0
theorem v00_l {j : Nat} (hj : j < 6) : v00 (4 * (j : Int) + 1) = 5 ∧ v00 (4 * (j : Int) + 2) = 0 ∧ v00 (4 * (j : Int) + 3) = 0 ∧ v00 (4 * (j : Int) + 4) = 0 := by
  unfold v00
  refine ⟨?_, ?_, ?_, ?_⟩
  · rw [if_neg (by omega), if_pos (by omega)]
  · rw [if_neg (by omega), if_neg (by omega)]
  · rw [if_neg (by omega), if_neg (by omega)]
  · rw [if_neg (by omega), if_neg (by omega)]
theorem v00_s {i : Int} (h : 25 ≤ i) : v00 i = 0 := by
  unfold v00
  rw [if_neg (by omega), if_neg (by omega)]
theorem v00_in : inV v00 := fun i _ _ => by
  unfold v00
  repeat' split
  all_goals omega
theorem v00_ok : okPl 0 v00 := ⟨by omega, by show 12 ≤ v00 0 ∧ v00 0 ≤ 96; rw [show v00 0 = 24 from rfl]; omega, by rw [v00_s (by omega)]; omega, fun l l0 l1 => by omega, fun i i0 i1 => by rw [v00_s (by omega)] at i1; omega⟩
theorem row2 (a : Nat → Nat) : va_up (va_up (fun _ => none) (0 : Int).toNat (some (a 166))) (1 : Int).toNat (some (a 176)) = fun j => if j < 2 then some (a (166 + 10 * j)) else none := by
  funext j
  match j with
  | 0 => rfl
  | 1 => rfl
  | k + 2 => rw [gu_ne (by omega), gu_ne (by omega), if_neg (by omega)]
theorem row6 (a : Nat → Nat) (po : Nat) : va_up (va_up (va_up (va_up (va_up (va_up (fun _ => none) (0 : Int).toNat (some (a (po + 2)))) (1 : Int).toNat (some (a (po + 3)))) (2 : Int).toNat (some (a (po + 4)))) (3 : Int).toNat (some (a (po + 5)))) (4 : Int).toNat (some (a (po + 6)))) (5 : Int).toNat (some (a (po + 7))) = fun j => if j < 6 then some (a (po + 2 + j)) else none := by
  funext j
  match j with
  | 0 => rfl
  | 1 => rfl
  | 2 => rfl
  | 3 => rfl
  | 4 => rfl
  | 5 => rfl
  | k + 6 => rw [gu_ne (by omega), gu_ne (by omega), gu_ne (by omega), gu_ne (by omega), gu_ne (by omega), gu_ne (by omega), if_neg (by omega)]
theorem row14 (a : Nat → Nat) (ho : Nat) : va_up (va_up (va_up (va_up (va_up (va_up (va_up (va_up (va_up (va_up (va_up (va_up (va_up (va_up (fun _ => none) (0 : Int).toNat (some (a (ho + 2)))) (1 : Int).toNat (some (a (ho + 12)))) (2 : Int).toNat (some (a (ho + 22)))) (3 : Int).toNat (some (a (ho + 32)))) (4 : Int).toNat (some (a (ho + 42)))) (5 : Int).toNat (some (a (ho + 52)))) (6 : Int).toNat (some (a (ho + 62)))) (7 : Int).toNat (some (a (ho + 72)))) (8 : Int).toNat (some (a (ho + 82)))) (9 : Int).toNat (some (a (ho + 92)))) (10 : Int).toNat (some (a (ho + 102)))) (11 : Int).toNat (some (a (ho + 112)))) (12 : Int).toNat (some (a (ho + 122)))) (13 : Int).toNat (some (a (ho + 132))) = fun j => if j < 14 then some (a (ho + 2 + 10 * j)) else none := by
  funext j
  match j with
  | 0 => rfl
  | 1 => rfl
  | 2 => rfl
  | 3 => rfl
  | 4 => rfl
  | 5 => rfl
  | 6 => rfl
  | 7 => rfl
  | 8 => rfl
  | 9 => rfl
  | 10 => rfl
  | 11 => rfl
  | 12 => rfl
  | 13 => rfl
  | k + 14 => rw [gu_ne (by omega), gu_ne (by omega), gu_ne (by omega), gu_ne (by omega), gu_ne (by omega), gu_ne (by omega), gu_ne (by omega), gu_ne (by omega), gu_ne (by omega), gu_ne (by omega), gu_ne (by omega), gu_ne (by omega), gu_ne (by omega), gu_ne (by omega), if_neg (by omega)]
theorem isBn.grow {κ : gKap} {ad a9 : Nat → Nat} {g g' : Nat → va_E} {bo : Nat} (h : isBn κ ad g bo) (hE : ∀ k, k < bo + 6 → a9 k = ad k) (hq : ∀ q, bo ≤ q → q < bo + 6 → g' q = g q) : isBn κ a9 g' bo := by
  obtain ⟨h0, h1, h2, h3, h4, h5⟩ := h.far hq
  exact ⟨by rw [h0, hE _ (by omega), hE _ (by omega), hE _ (by omega)], by rw [h1, hE _ (by omega)], by rw [h2, hE _ (by omega)], h3, h4, h5⟩
theorem isHi.grow {κ : gKap} {ad a9 : Nat → Nat} {g g' : Nat → va_E} {ho : Nat} {old cnt : Int} {P9 : Nat → Int × (Int → Int)} (h : isHi κ ad g ho old cnt P9) (hE : ∀ k, k < ho + 142 → a9 k = ad k) (hq : ∀ q, ho ≤ q → q < ho + 142 → g' q = g q) : isHi κ a9 g' ho old cnt P9 := by
  have hx := h
  obtain ⟨h0, h1, h2⟩ := h.far hq
  refine ⟨by rw [h0, hE _ (by omega)], ?_, fun j hj => (hx.2.2 j hj).grow (fun k hk => hE k (by omega)) (fun q q0 q1 => hq q (by omega) (by omega))⟩
  rw [h1]
  have e1 : (fun j => if j < 14 then some (ad (ho + 2 + 10 * j)) else none) = fun j => if j < 14 then some (a9 (ho + 2 + 10 * j)) else none := by
    funext j
    by_cases hj : j < 14
    · rw [if_pos hj, if_pos hj, hE _ (by omega)]
    · rw [if_neg hj, if_neg hj]
  rw [e1]
/-- the class's object and its row of slots; the model's object -/
def isX (κ : gKap) (ad : Nat → Nat) (g : Nat → va_E) (tl : Int) : Prop := g 0 = .inr (7, [.ref (ad 1), .int (iz tl), .ref (ad 2), .ref (ad 12), .ref (ad 22), .ref (ad 164), .ref (ad 165), .ref (ad 186)]) ∧ g 164 = aPl κ 2 (fun j => if j < 2 then some (ad (166 + 10 * j)) else none)
theorem fwX5_init_11 : gFldW wsX5_init RX5 11 5 0 (.array .long) true := ⟨RX5, TX5, 1, tyX5, rfl, by decide, by decide +kernel, by decide +kernel, tyX5_ok, nmX5, rfl, by decide +kernel, by decide +kernel⟩
set_option maxHeartbeats 4000000 in
set_option maxRecDepth 100000 in
theorem c_X5_init (l : Launch) (κ : gKap) (B : Nat) (ad : Nat → Nat) (g : Nat → va_E) (po : Nat) (he : g po = .inr (5, [.null])) : Met l yX5_init wsX5_init ({ frames := 1, cells := 1, slots := 602, locals := 12 }) (gPreA κ B (po + 1) ad g [.ref (ad po)]) (gQg κ B (po + 1) (po + 2) ad (fun a9 g' => g' po = .inr (5, [.ref (a9 (po + 1))]) ∧ g' (po + 1) = aW κ 602 (fun _ => 0) ∧ ∀ q, q < po → g' q = g q)) 1 602 (gFree B) := by
  refine g_metA RX5 (cc := cX5_init) (maxL := 1) (ret := none) (by decide) rfl rfl (Nat.le_of_ble_eq_true rfl) ?_
  intro p e s m args below meth c C hr hlk hnm AO G ls hl
  have hl : lv_has ls 1 [(0, .ref (ad po))] := hl
  refine g_aload_n C dX5_init_0 rfl hl 0 rfl ?_
  refine W.objInit C.1.1 C.1.2.1 C.1.2.2.2.1 (C.1.2.2.2.2 _ (by decide +kernel : Cond.methodLink RX5 3 objectInit ∈ wsX5_init)) (C.1.2.2.2.2 _ (by decide +kernel : Cond.instanceMethod objectInit ∈ wsX5_init)) (C.1.2.2.2.2 _ (by decide +kernel : Cond.code objectInit ⟨#[0xb1]⟩ 1 none ∈ wsX5_init)) rfl (by rw [C.1.2.2.1]; exact hl.1) rfl dX5_init_1 (Nat.le_of_ble_eq_true rfl) (Nat.le_of_ble_eq_true rfl) ?_
  refine W.eq (g2 := F0 m 4 ls []) rfl ?_
  refine g_aload_n C dX5_init_4 rfl hl 0 rfl ?_
  refine g_sipush (a := 602) C dX5_init_5 (by decide) ?_
  refine g_newJ C G (n := po + 1) 602 rfl (Nat.le_of_ble_eq_true rfl) (by decide +kernel : Cond.arrayClass .long ∈ wsX5_init) (Nat.le_of_ble_eq_true rfl) (Nat.le_of_ble_eq_true rfl) dX5_init_8 (fun (ad_1 : Nat → Nat) H hE_2 C G => ?_)
  replace C : gC p c cX5_init 1 s m args wsX5_init RX5 κ B (po + 2) ad_1 := C
  obtain ⟨g_3, hg_4⟩ : ∃ g9, g9 = va_up g (po + 1) (aW κ 602 (fun _ => 0)) := ⟨_, rfl⟩
  rw [← hg_4] at G
  replace G := (show gG κ B (po + 2) ad_1 s g_3 H _ from G)
  rw [← hE_2 po (by omega)] at hl
  rw [← hE_2 po (by omega)]
  have hc_5 : g_3 po = .inr (5, [.null]) := by have q9 := he; rw [hg_4, gu_ne (by omega)]; exact q9
  have hc_6 : g_3 (po + 1) = aW κ 602 (fun _ => 0) := by rw [hg_4]; exact gu_self _ _ _
  refine g_putF C G hnm (pos := po) (fs' := [.ref (ad_1 (po + 1))]) fwX5_init_11 (by omega) hc_5 (Nat.le_of_ble_eq_true rfl) rfl rfl rfl dX5_init_10 (fun H locs G => ?_)
  obtain ⟨g_7, hg_8⟩ : ∃ g9, g9 = va_up g_3 po (.inr (5, [.ref (ad_1 (po + 1))])) := ⟨_, rfl⟩
  rw [← hg_8] at G
  have hc_9 : g_7 po = .inr (5, [.ref (ad_1 (po + 1))]) := by rw [hg_8]; exact gu_self _ _ _
  have hc_10 : g_7 (po + 1) = aW κ 602 (fun _ => 0) := by rw [hg_8, gu_ne (by omega)]; exact hc_6
  refine g_vretG C G hr hlk (Nat.le_of_ble_eq_true rfl) (Nat.le_of_ble_eq_true rfl) dX5_init_13 hE_2 ?_
  exact ⟨hc_9, hc_10, fun q hq => by
      rw [hg_8, gu_ne (by omega)]
      rw [hg_4, gu_ne (by omega)]
      try rfl⟩
theorem nwX0_init_5 : ∀ w ∈ u_ws RX5 TX5 1, w ∈ wsX0_init := by decide +kernel
theorem fwX0_init_12 : gFldW wsX0_init RX0 12 0 0 (.object "RosettePlate$PointSet") true := ⟨RX0, TX0, 3, tyX0, rfl, by decide, by decide +kernel, by decide +kernel, tyX0_ok, nmX0, rfl, by decide +kernel, by decide +kernel⟩
theorem fwX0_init_18 : gFldW wsX0_init RX0 18 0 1 (.object "RosettePlate$PointSet") true := ⟨RX0, TX0, 3, tyX0, rfl, by decide, by decide +kernel, by decide +kernel, tyX0_ok, nmX0, rfl, by decide +kernel, by decide +kernel⟩
theorem nwX0_init_3 : ∀ w ∈ u_ws RX3 TX3 4, w ∈ wsX0_init := by decide +kernel
theorem fwX0_init_24 : gFldW wsX0_init RX0 24 0 2 (.object "RosettePlate$Layer") true := ⟨RX0, TX0, 3, tyX0, rfl, by decide, by decide +kernel, by decide +kernel, tyX0_ok, nmX0, rfl, by decide +kernel, by decide +kernel⟩
set_option maxHeartbeats 4000000 in
set_option maxRecDepth 100000 in
theorem c_X0_init (l : Launch) (κ : gKap) (B : Nat) (ad : Nat → Nat) (g : Nat → va_E) (bo : Nat) (he : g bo = .inr (0, [.null, .null, .null])) : Met l yX0_init wsX0_init ({ frames := 2, cells := 5, slots := 1210, locals := 32 }) (gPreA κ B (bo + 1) ad g [.ref (ad bo)]) (gQg κ B (bo + 1) (bo + 6) ad (fun a9 g' => isBn κ a9 g' bo ∧ ∀ q, q < bo → g' q = g q)) 5 1210 (gFree B) := by
  refine g_metA RX0 (cc := cX0_init) (maxL := 1) (ret := none) (by decide) rfl rfl (Nat.le_of_ble_eq_true rfl) ?_
  intro p e s m args below meth c C hr hlk hnm AO G ls hl
  have hl : lv_has ls 1 [(0, .ref (ad bo))] := hl
  refine g_aload_n C dX0_init_0 rfl hl 0 rfl ?_
  refine W.objInit C.1.1 C.1.2.1 C.1.2.2.2.1 (C.1.2.2.2.2 _ (by decide +kernel : Cond.methodLink RX0 3 objectInit ∈ wsX0_init)) (C.1.2.2.2.2 _ (by decide +kernel : Cond.instanceMethod objectInit ∈ wsX0_init)) (C.1.2.2.2.2 _ (by decide +kernel : Cond.code objectInit ⟨#[0xb1]⟩ 1 none ∈ wsX0_init)) rfl (by rw [C.1.2.2.1]; exact hl.1) rfl dX0_init_1 (Nat.le_of_ble_eq_true rfl) (Nat.le_of_ble_eq_true rfl) ?_
  refine W.eq (g2 := F0 m 4 ls []) rfl ?_
  refine g_aload_n C dX0_init_4 rfl hl 0 rfl ?_
  refine g_new C G (n := bo + 1) (fs := [.null]) (ty := tyX5) (rfl : vwCl[5]? = some (RX5, TX5, 1)) nwX0_init_5 tyX5_ok (by decide +kernel : Cond.classLink RX0 9 RX5 ∈ wsX0_init) (by decide +kernel : Cond.instantiable RX5 1 ∈ wsX0_init) (by decide +kernel : Cond.initialized RX5 ∈ wsX0_init) (fun j hj => by rcases j with _ | j <;> first | rfl | omega) (Nat.le_of_ble_eq_true rfl) (Nat.le_of_ble_eq_true rfl) dX0_init_5 (fun (ad_1 : Nat → Nat) H hE_2 C G => ?_)
  replace C : gC p c cX0_init 1 s m args wsX0_init RX0 κ B (bo + 2) ad_1 := C
  obtain ⟨g_3, hg_4⟩ : ∃ g9, g9 = va_up g (bo + 1) (.inr (5, [.null])) := ⟨_, rfl⟩
  rw [← hg_4] at G
  replace G := (show gG κ B (bo + 2) ad_1 s g_3 H _ from G)
  rw [← hE_2 bo (by omega)] at hl
  rw [← hE_2 bo (by omega)]
  have hc_5 : g_3 bo = .inr (0, [.null, .null, .null]) := by have q9 := he; rw [hg_4, gu_ne (by omega)]; exact q9
  have hc_6 : g_3 (bo + 1) = .inr (5, [.null]) := by rw [hg_4]; exact gu_self _ _ _
  refine lv_dup C.1.1 C.1.2.1 dX0_init_8 rfl ?_
  refine g_cvG (n' := bo + 3) C G (g_runIA (As := []) (rest := [.ref (ad_1 (bo + 1)), .ref (ad_1 bo)]) (pos := bo + 1) C G AO (c_X5_init l κ B ad_1 g_3 (bo + 1) hc_6) (cwI 0 C.1.2.2.2.2 gX0_init_X5_init rfl rfl rfl (C.1.2.2.2.2 _ (by decide +kernel : Cond.initialized RX5 ∈ wsX0_init)) (C.1.2.2.2.2 _ (by decide +kernel : Cond.methodLink RX0 11 yX5_init ∈ wsX0_init)) (C.1.2.2.2.2 _ (by decide +kernel : Cond.instanceMethod yX5_init ∈ wsX0_init)) rfl (by decide +kernel) ⟨Nat.le_of_ble_eq_true rfl, Nat.le_of_ble_eq_true rfl⟩) rfl hl rfl (Nat.le_of_ble_eq_true rfl) dX0_init_9 ⟨Nat.le_of_ble_eq_true rfl, Nat.le_of_ble_eq_true rfl⟩) (fun ad_7 g_8 H locs hE_9 hw_10 C G => ?_)
  have hE0_11 : ∀ k, k < bo + 1 → ad_7 k = ad k := fun k hk => (hE_9 k (by omega)).trans (hE_2 k hk)
  rw [← hE_9 bo (by omega)] at hl
  rw [← hE_9 (bo + 1) (by omega), ← hE_9 bo (by omega)]
  have hc_12 : g_8 bo = .inr (0, [.null, .null, .null]) := by have q9 := hc_5; exact (hw_10.2.2 _ (by omega)).trans q9
  have hc_13 : g_8 (bo + 1) = .inr (5, [.ref (ad_7 (bo + 2))]) := hw_10.1
  have hc_14 : g_8 (bo + 2) = aW κ 602 (fun _ => 0) := hw_10.2.1
  refine g_putF C G hnm (pos := bo) (fs' := [.ref (ad_7 (bo + 1)), .null, .null]) fwX0_init_12 (by omega) hc_12 (Nat.le_of_ble_eq_true rfl) rfl rfl rfl dX0_init_12 (fun H locs G => ?_)
  obtain ⟨g_15, hg_16⟩ : ∃ g9, g9 = va_up g_8 bo (.inr (0, [.ref (ad_7 (bo + 1)), .null, .null])) := ⟨_, rfl⟩
  rw [← hg_16] at G
  have hc_17 : g_15 bo = .inr (0, [.ref (ad_7 (bo + 1)), .null, .null]) := by rw [hg_16]; exact gu_self _ _ _
  have hc_18 : g_15 (bo + 1) = .inr (5, [.ref (ad_7 (bo + 2))]) := by rw [hg_16, gu_ne (by omega)]; exact hc_13
  have hc_19 : g_15 (bo + 2) = aW κ 602 (fun _ => 0) := by rw [hg_16, gu_ne (by omega)]; exact hc_14
  refine g_aload_n C dX0_init_15 rfl hl 0 rfl ?_
  refine g_new C G (n := bo + 3) (fs := [.null]) (ty := tyX5) (rfl : vwCl[5]? = some (RX5, TX5, 1)) nwX0_init_5 tyX5_ok (by decide +kernel : Cond.classLink RX0 9 RX5 ∈ wsX0_init) (by decide +kernel : Cond.instantiable RX5 1 ∈ wsX0_init) (by decide +kernel : Cond.initialized RX5 ∈ wsX0_init) (fun j hj => by rcases j with _ | j <;> first | rfl | omega) (Nat.le_of_ble_eq_true rfl) (Nat.le_of_ble_eq_true rfl) dX0_init_16 (fun (ad_20 : Nat → Nat) H hE_21 C G => ?_)
  replace C : gC p c cX0_init 1 s m args wsX0_init RX0 κ B (bo + 4) ad_20 := C
  obtain ⟨g_22, hg_23⟩ : ∃ g9, g9 = va_up g_15 (bo + 3) (.inr (5, [.null])) := ⟨_, rfl⟩
  rw [← hg_23] at G
  replace G := (show gG κ B (bo + 4) ad_20 s g_22 H _ from G)
  have hE0_24 : ∀ k, k < bo + 1 → ad_20 k = ad k := fun k hk => (hE_21 k (by omega)).trans (hE0_11 k hk)
  rw [← hE_21 bo (by omega)] at hl
  rw [← hE_21 bo (by omega)]
  have hc_25 : g_22 bo = .inr (0, [.ref (ad_20 (bo + 1)), .null, .null]) := by have q9 := hc_17; rw [← hE_21 (bo + 1) (by omega)] at q9; rw [hg_23, gu_ne (by omega)]; exact q9
  have hc_26 : g_22 (bo + 1) = .inr (5, [.ref (ad_20 (bo + 2))]) := by have q9 := hc_18; rw [← hE_21 (bo + 2) (by omega)] at q9; rw [hg_23, gu_ne (by omega)]; exact q9
  have hc_27 : g_22 (bo + 2) = aW κ 602 (fun _ => 0) := by have q9 := hc_19; rw [hg_23, gu_ne (by omega)]; exact q9
  have hc_28 : g_22 (bo + 3) = .inr (5, [.null]) := by rw [hg_23]; exact gu_self _ _ _
  refine lv_dup C.1.1 C.1.2.1 dX0_init_19 rfl ?_
  refine g_cvG (n' := bo + 5) C G (g_runIA (As := []) (rest := [.ref (ad_20 (bo + 3)), .ref (ad_20 bo)]) (pos := bo + 3) C G AO (c_X5_init l κ B ad_20 g_22 (bo + 3) hc_28) (cwI 0 C.1.2.2.2.2 gX0_init_X5_init rfl rfl rfl (C.1.2.2.2.2 _ (by decide +kernel : Cond.initialized RX5 ∈ wsX0_init)) (C.1.2.2.2.2 _ (by decide +kernel : Cond.methodLink RX0 11 yX5_init ∈ wsX0_init)) (C.1.2.2.2.2 _ (by decide +kernel : Cond.instanceMethod yX5_init ∈ wsX0_init)) rfl (by decide +kernel) ⟨Nat.le_of_ble_eq_true rfl, Nat.le_of_ble_eq_true rfl⟩) rfl hl rfl (Nat.le_of_ble_eq_true rfl) dX0_init_20 ⟨Nat.le_of_ble_eq_true rfl, Nat.le_of_ble_eq_true rfl⟩) (fun ad_29 g_30 H locs hE_31 hw_32 C G => ?_)
  have hE0_33 : ∀ k, k < bo + 1 → ad_29 k = ad k := fun k hk => (hE_31 k (by omega)).trans (hE0_24 k hk)
  rw [← hE_31 bo (by omega)] at hl
  rw [← hE_31 (bo + 3) (by omega), ← hE_31 bo (by omega)]
  have hc_34 : g_30 bo = .inr (0, [.ref (ad_29 (bo + 1)), .null, .null]) := by have q9 := hc_25; rw [← hE_31 (bo + 1) (by omega)] at q9; exact (hw_32.2.2 _ (by omega)).trans q9
  have hc_35 : g_30 (bo + 1) = .inr (5, [.ref (ad_29 (bo + 2))]) := by have q9 := hc_26; rw [← hE_31 (bo + 2) (by omega)] at q9; exact (hw_32.2.2 _ (by omega)).trans q9
  have hc_36 : g_30 (bo + 2) = aW κ 602 (fun _ => 0) := by have q9 := hc_27; exact (hw_32.2.2 _ (by omega)).trans q9
  have hc_37 : g_30 (bo + 3) = .inr (5, [.ref (ad_29 (bo + 4))]) := hw_32.1
  have hc_38 : g_30 (bo + 4) = aW κ 602 (fun _ => 0) := hw_32.2.1
  refine g_putF C G hnm (pos := bo) (fs' := [.ref (ad_29 (bo + 1)), .ref (ad_29 (bo + 3)), .null]) fwX0_init_18 (by omega) hc_34 (Nat.le_of_ble_eq_true rfl) rfl rfl rfl dX0_init_23 (fun H locs G => ?_)
  obtain ⟨g_39, hg_40⟩ : ∃ g9, g9 = va_up g_30 bo (.inr (0, [.ref (ad_29 (bo + 1)), .ref (ad_29 (bo + 3)), .null])) := ⟨_, rfl⟩
  rw [← hg_40] at G
  have hc_41 : g_39 bo = .inr (0, [.ref (ad_29 (bo + 1)), .ref (ad_29 (bo + 3)), .null]) := by rw [hg_40]; exact gu_self _ _ _
  have hc_42 : g_39 (bo + 1) = .inr (5, [.ref (ad_29 (bo + 2))]) := by rw [hg_40, gu_ne (by omega)]; exact hc_35
  have hc_43 : g_39 (bo + 2) = aW κ 602 (fun _ => 0) := by rw [hg_40, gu_ne (by omega)]; exact hc_36
  have hc_44 : g_39 (bo + 3) = .inr (5, [.ref (ad_29 (bo + 4))]) := by rw [hg_40, gu_ne (by omega)]; exact hc_37
  have hc_45 : g_39 (bo + 4) = aW κ 602 (fun _ => 0) := by rw [hg_40, gu_ne (by omega)]; exact hc_38
  refine g_aload_n C dX0_init_26 rfl hl 0 rfl ?_
  refine g_new C G (n := bo + 5) (fs := [.int (iz 0), .int (iz 0), .int (iz 0), .int (iz 0)]) (ty := tyX3) (rfl : vwCl[3]? = some (RX3, TX3, 4)) nwX0_init_3 tyX3_ok (by decide +kernel : Cond.classLink RX0 21 RX3 ∈ wsX0_init) (by decide +kernel : Cond.instantiable RX3 4 ∈ wsX0_init) (by decide +kernel : Cond.initialized RX3 ∈ wsX0_init) (fun j hj => by rcases j with _ | _ | _ | _ | j <;> first | rfl | omega) (Nat.le_of_ble_eq_true rfl) (Nat.le_of_ble_eq_true rfl) dX0_init_27 (fun (ad_46 : Nat → Nat) H hE_47 C G => ?_)
  replace C : gC p c cX0_init 1 s m args wsX0_init RX0 κ B (bo + 6) ad_46 := C
  obtain ⟨g_48, hg_49⟩ : ∃ g9, g9 = va_up g_39 (bo + 5) (.inr (3, [.int (iz 0), .int (iz 0), .int (iz 0), .int (iz 0)])) := ⟨_, rfl⟩
  rw [← hg_49] at G
  replace G := (show gG κ B (bo + 6) ad_46 s g_48 H _ from G)
  have hE0_50 : ∀ k, k < bo + 1 → ad_46 k = ad k := fun k hk => (hE_47 k (by omega)).trans (hE0_33 k hk)
  rw [← hE_47 bo (by omega)] at hl
  rw [← hE_47 bo (by omega)]
  have hc_51 : g_48 bo = .inr (0, [.ref (ad_46 (bo + 1)), .ref (ad_46 (bo + 3)), .null]) := by have q9 := hc_41; rw [← hE_47 (bo + 1) (by omega), ← hE_47 (bo + 3) (by omega)] at q9; rw [hg_49, gu_ne (by omega)]; exact q9
  have hc_52 : g_48 (bo + 1) = .inr (5, [.ref (ad_46 (bo + 2))]) := by have q9 := hc_42; rw [← hE_47 (bo + 2) (by omega)] at q9; rw [hg_49, gu_ne (by omega)]; exact q9
  have hc_53 : g_48 (bo + 2) = aW κ 602 (fun _ => 0) := by have q9 := hc_43; rw [hg_49, gu_ne (by omega)]; exact q9
  have hc_54 : g_48 (bo + 3) = .inr (5, [.ref (ad_46 (bo + 4))]) := by have q9 := hc_44; rw [← hE_47 (bo + 4) (by omega)] at q9; rw [hg_49, gu_ne (by omega)]; exact q9
  have hc_55 : g_48 (bo + 4) = aW κ 602 (fun _ => 0) := by have q9 := hc_45; rw [hg_49, gu_ne (by omega)]; exact q9
  have hc_56 : g_48 (bo + 5) = .inr (3, [.int (iz 0), .int (iz 0), .int (iz 0), .int (iz 0)]) := by rw [hg_49]; exact gu_self _ _ _
  refine lv_dup C.1.1 C.1.2.1 dX0_init_30 rfl ?_
  refine g_cv C G (g_runI (As := []) (rest := [.ref (ad_46 (bo + 5)), .ref (ad_46 bo)]) (pos := bo + 5) C G (c_X3_init l κ B (bo + 6) ad_46 g_48 (bo + 5) 0 0 0 0 (by omega) hc_56) (cwI 0 C.1.2.2.2.2 gX0_init_X3_init rfl rfl rfl (C.1.2.2.2.2 _ (by decide +kernel : Cond.initialized RX3 ∈ wsX0_init)) (C.1.2.2.2.2 _ (by decide +kernel : Cond.methodLink RX0 23 yX3_init ∈ wsX0_init)) (C.1.2.2.2.2 _ (by decide +kernel : Cond.instanceMethod yX3_init ∈ wsX0_init)) rfl (by decide +kernel) ⟨Nat.le_of_ble_eq_true rfl, Nat.le_of_ble_eq_true rfl⟩) rfl hl rfl (Nat.le_of_ble_eq_true rfl) dX0_init_31 ⟨Nat.le_of_ble_eq_true rfl, Nat.le_of_ble_eq_true rfl⟩) (fun g9 H locs hw G => ?_)
  subst hw
  obtain ⟨g_57, hg_58⟩ : ∃ g9, g9 = va_up g_48 (bo + 5) (.inr (3, [.int (iz 5), .int (iz 0), .int (iz 0), .int (iz 0)])) := ⟨_, rfl⟩
  rw [← hg_58] at G
  have hc_59 : g_57 bo = .inr (0, [.ref (ad_46 (bo + 1)), .ref (ad_46 (bo + 3)), .null]) := by rw [hg_58, gu_ne (by omega)]; exact hc_51
  have hc_60 : g_57 (bo + 1) = .inr (5, [.ref (ad_46 (bo + 2))]) := by rw [hg_58, gu_ne (by omega)]; exact hc_52
  have hc_61 : g_57 (bo + 2) = aW κ 602 (fun _ => 0) := by rw [hg_58, gu_ne (by omega)]; exact hc_53
  have hc_62 : g_57 (bo + 3) = .inr (5, [.ref (ad_46 (bo + 4))]) := by rw [hg_58, gu_ne (by omega)]; exact hc_54
  have hc_63 : g_57 (bo + 4) = aW κ 602 (fun _ => 0) := by rw [hg_58, gu_ne (by omega)]; exact hc_55
  have hc_64 : g_57 (bo + 5) = .inr (3, [.int (iz 5), .int (iz 0), .int (iz 0), .int (iz 0)]) := by rw [hg_58]; exact gu_self _ _ _
  refine g_putF C G hnm (pos := bo) (fs' := [.ref (ad_46 (bo + 1)), .ref (ad_46 (bo + 3)), .ref (ad_46 (bo + 5))]) fwX0_init_24 (by omega) hc_59 (Nat.le_of_ble_eq_true rfl) rfl rfl rfl dX0_init_34 (fun H locs G => ?_)
  obtain ⟨g_65, hg_66⟩ : ∃ g9, g9 = va_up g_57 bo (.inr (0, [.ref (ad_46 (bo + 1)), .ref (ad_46 (bo + 3)), .ref (ad_46 (bo + 5))])) := ⟨_, rfl⟩
  rw [← hg_66] at G
  have hc_67 : g_65 bo = .inr (0, [.ref (ad_46 (bo + 1)), .ref (ad_46 (bo + 3)), .ref (ad_46 (bo + 5))]) := by rw [hg_66]; exact gu_self _ _ _
  have hc_68 : g_65 (bo + 1) = .inr (5, [.ref (ad_46 (bo + 2))]) := by rw [hg_66, gu_ne (by omega)]; exact hc_60
  have hc_69 : g_65 (bo + 2) = aW κ 602 (fun _ => 0) := by rw [hg_66, gu_ne (by omega)]; exact hc_61
  have hc_70 : g_65 (bo + 3) = .inr (5, [.ref (ad_46 (bo + 4))]) := by rw [hg_66, gu_ne (by omega)]; exact hc_62
  have hc_71 : g_65 (bo + 4) = aW κ 602 (fun _ => 0) := by rw [hg_66, gu_ne (by omega)]; exact hc_63
  have hc_72 : g_65 (bo + 5) = .inr (3, [.int (iz 5), .int (iz 0), .int (iz 0), .int (iz 0)]) := by rw [hg_66, gu_ne (by omega)]; exact hc_64
  refine g_vretG C G hr hlk (Nat.le_of_ble_eq_true rfl) (Nat.le_of_ble_eq_true rfl) dX0_init_37 hE0_50 ?_
  exact ⟨⟨hc_67, hc_68, hc_70, ⟨_, hc_69⟩, ⟨_, hc_71⟩, ⟨_, _, _, _, hc_72⟩⟩, fun q hq => by
      rw [hg_66, gu_ne (by omega)]
      rw [hg_58, gu_ne (by omega)]
      rw [hg_49, gu_ne (by omega)]
      rw [hg_40, gu_ne (by omega)]
      refine (hw_32.2.2 _ (by omega)).trans ?_
      rw [hg_23, gu_ne (by omega)]
      rw [hg_16, gu_ne (by omega)]
      refine (hw_10.2.2 _ (by omega)).trans ?_
      rw [hg_4, gu_ne (by omega)]
      try rfl⟩
theorem fwX4_init_9 : gFldW wsX4_init RX4 9 4 0 .int false := ⟨RX4, TX4, 6, tyX4, rfl, by decide, by decide +kernel, by decide +kernel, tyX4_ok, nmX4, rfl, by decide +kernel, by decide +kernel⟩
theorem fwX4_init_17 : gFldW wsX4_init RX4 17 4 3 (.array (.object "RosettePlate$Layer")) true := ⟨RX4, TX4, 6, tyX4, rfl, by decide, by decide +kernel, by decide +kernel, tyX4_ok, nmX4, rfl, by decide +kernel, by decide +kernel⟩
theorem fX4_init_17 : gFld wsX4_init RX4 17 4 3 := ⟨RX4, TX4, 6, rfl, by decide, by decide +kernel, by decide +kernel⟩
theorem nwX4_init_3 : ∀ w ∈ u_ws RX3 TX3 4, w ∈ wsX4_init := by decide +kernel
theorem fwX4_init_22 : gFldW wsX4_init RX4 22 4 4 (.array .int) true := ⟨RX4, TX4, 6, tyX4, rfl, by decide, by decide +kernel, by decide +kernel, tyX4_ok, nmX4, rfl, by decide +kernel, by decide +kernel⟩
theorem fwX4_init_26 : gFldW wsX4_init RX4 26 4 5 (.array .int) true := ⟨RX4, TX4, 6, tyX4, rfl, by decide, by decide +kernel, by decide +kernel, tyX4_ok, nmX4, rfl, by decide +kernel, by decide +kernel⟩
set_option maxHeartbeats 4000000 in
set_option maxRecDepth 100000 in
theorem c_X4_init (l : Launch) (κ : gKap) (B : Nat) (ad : Nat → Nat) (g : Nat → va_E) (po : Nat) (he : g po = .inr (4, [.int (iz 0), .int (iz 0), .int (iz 0), .null, .null, .null])) : Met l yX4_init wsX4_init ({ frames := 2, cells := 9, slots := 46, locals := 32 }) (gPreA κ B (po + 1) ad g [.ref (ad po)]) (gQg κ B (po + 1) (po + 10) ad (fun a9 g' => isPl κ a9 g' po 0 v00 ∧ ∀ q, q < po → g' q = g q)) 9 46 (gFree B) := by
  refine g_metA RX4 (cc := cX4_init) (maxL := 2) (ret := none) (by decide) rfl rfl (Nat.le_of_ble_eq_true rfl) ?_
  intro p e s m args below meth c C hr hlk hnm AO G ls hl
  have hl : lv_has ls 2 [(0, .ref (ad po))] := hl
  refine g_aload_n C dX4_init_0 rfl hl 0 rfl ?_
  refine W.objInit C.1.1 C.1.2.1 C.1.2.2.2.1 (C.1.2.2.2.2 _ (by decide +kernel : Cond.methodLink RX4 3 objectInit ∈ wsX4_init)) (C.1.2.2.2.2 _ (by decide +kernel : Cond.instanceMethod objectInit ∈ wsX4_init)) (C.1.2.2.2.2 _ (by decide +kernel : Cond.code objectInit ⟨#[0xb1]⟩ 1 none ∈ wsX4_init)) rfl (by rw [C.1.2.2.1]; exact hl.1) rfl dX4_init_1 (Nat.le_of_ble_eq_true rfl) (Nat.le_of_ble_eq_true rfl) ?_
  refine W.eq (g2 := F0 m 4 ls []) rfl ?_
  refine g_aload_n C dX4_init_4 rfl hl 0 rfl ?_
  refine g_bipush (a := 24) C dX4_init_5 (by decide) ?_
  refine g_put C G (pos := po) (fs' := [.int (iz 24), .int (iz 0), .int (iz 0), .null, .null, .null]) fwX4_init_9 (by omega) he (Nat.le_of_ble_eq_true rfl) rfl rfl rfl dX4_init_7 (fun H locs G => ?_)
  obtain ⟨g_1, hg_2⟩ : ∃ g9, g9 = va_up g po (.inr (4, [.int (iz 24), .int (iz 0), .int (iz 0), .null, .null, .null])) := ⟨_, rfl⟩
  rw [← hg_2] at G
  have hc_3 : g_1 po = .inr (4, [.int (iz 24), .int (iz 0), .int (iz 0), .null, .null, .null]) := by rw [hg_2]; exact gu_self _ _ _
  refine g_aload_n C dX4_init_10 rfl hl 0 rfl ?_
  refine g_bipush (a := 6) C dX4_init_11 (by decide) ?_
  refine g_anewL C G AO (n := po + 1) 6 rfl (Nat.le_of_ble_eq_true rfl) (by decide +kernel : Cond.classLink RX4 15 RX3 ∈ wsX4_init) (Nat.le_of_ble_eq_true rfl) (Nat.le_of_ble_eq_true rfl) dX4_init_13 (fun (ad_4 : Nat → Nat) H hE_5 C G => ?_)
  replace C : gC p c cX4_init 2 s m args wsX4_init RX4 κ B (po + 2) ad_4 := C
  obtain ⟨g_6, hg_7⟩ : ∃ g9, g9 = va_up g_1 (po + 1) (aL κ 6 (fun _ => none)) := ⟨_, rfl⟩
  rw [← hg_7] at G
  replace G := (show gG κ B (po + 2) ad_4 s g_6 H _ from G)
  rw [← hE_5 po (by omega)] at hl
  rw [← hE_5 po (by omega)]
  have hc_8 : g_6 po = .inr (4, [.int (iz 24), .int (iz 0), .int (iz 0), .null, .null, .null]) := by have q9 := hc_3; rw [hg_7, gu_ne (by omega)]; exact q9
  have hc_9 : g_6 (po + 1) = aL κ 6 (fun _ => none) := by rw [hg_7]; exact gu_self _ _ _
  refine g_putF C G hnm (pos := po) (fs' := [.int (iz 24), .int (iz 0), .int (iz 0), .ref (ad_4 (po + 1)), .null, .null]) fwX4_init_17 (by omega) hc_8 (Nat.le_of_ble_eq_true rfl) rfl rfl rfl dX4_init_16 (fun H locs G => ?_)
  obtain ⟨g_10, hg_11⟩ : ∃ g9, g9 = va_up g_6 po (.inr (4, [.int (iz 24), .int (iz 0), .int (iz 0), .ref (ad_4 (po + 1)), .null, .null])) := ⟨_, rfl⟩
  rw [← hg_11] at G
  have hc_12 : g_10 po = .inr (4, [.int (iz 24), .int (iz 0), .int (iz 0), .ref (ad_4 (po + 1)), .null, .null]) := by rw [hg_11]; exact gu_self _ _ _
  have hc_13 : g_10 (po + 1) = aL κ 6 (fun _ => none) := by rw [hg_11, gu_ne (by omega)]; exact hc_9
  refine g_iconst (a := 0) C dX4_init_19 rfl ?_
  refine lv_istore_n (lv' := [(1, .int (iz 0)), (0, .ref (ad_4 po))]) C.1.1 C.1.2.1 dX4_init_20 rfl hl (by decide) rfl (fun ls hl => ?_)
  refine g_iload_n C dX4_init_21 rfl hl 0 rfl ?_
  refine g_aload_n C dX4_init_22 rfl hl 1 rfl ?_
  refine g_get C G (pos := po) fX4_init_17 (by omega) hc_12 rfl dX4_init_23 ?_
  refine g_alenL C G (pos := po + 1) (by omega) hc_13 dX4_init_26 ?_
  show W p l e _ s m args below meth c _ _ _ _ _ (F0 m _ ls (.int (iz 6) :: _))
  refine g_icmp_ge (tgt := 49) C (by decide) (by decide) dX4_init_27 (by decide) (fun c9 => absurd c9 (by decide)) (fun _ => ?_)
  refine g_aload_n C dX4_init_30 rfl hl 1 rfl ?_
  refine g_get C G (pos := po) fX4_init_17 (by omega) hc_12 rfl dX4_init_31 ?_
  refine g_iload_n C dX4_init_34 rfl hl 0 rfl ?_
  refine g_new C G (n := po + 2) (fs := [.int (iz 0), .int (iz 0), .int (iz 0), .int (iz 0)]) (ty := tyX3) (rfl : vwCl[3]? = some (RX3, TX3, 4)) nwX4_init_3 tyX3_ok (by decide +kernel : Cond.classLink RX4 15 RX3 ∈ wsX4_init) (by decide +kernel : Cond.instantiable RX3 4 ∈ wsX4_init) (by decide +kernel : Cond.initialized RX3 ∈ wsX4_init) (fun j hj => by rcases j with _ | _ | _ | _ | j <;> first | rfl | omega) (Nat.le_of_ble_eq_true rfl) (Nat.le_of_ble_eq_true rfl) dX4_init_35 (fun (ad_14 : Nat → Nat) H hE_15 C G => ?_)
  replace C : gC p c cX4_init 2 s m args wsX4_init RX4 κ B (po + 3) ad_14 := C
  obtain ⟨g_16, hg_17⟩ : ∃ g9, g9 = va_up g_10 (po + 2) (.inr (3, [.int (iz 0), .int (iz 0), .int (iz 0), .int (iz 0)])) := ⟨_, rfl⟩
  rw [← hg_17] at G
  replace G := (show gG κ B (po + 3) ad_14 s g_16 H _ from G)
  have hE0_18 : ∀ k, k < po + 1 → ad_14 k = ad k := fun k hk => (hE_15 k (by omega)).trans (hE_5 k hk)
  rw [← hE_15 po (by omega)] at hl
  rw [← hE_15 (po + 1) (by omega)]
  have hc_19 : g_16 po = .inr (4, [.int (iz 24), .int (iz 0), .int (iz 0), .ref (ad_14 (po + 1)), .null, .null]) := by have q9 := hc_12; rw [← hE_15 (po + 1) (by omega)] at q9; rw [hg_17, gu_ne (by omega)]; exact q9
  have hc_20 : g_16 (po + 1) = aL κ 6 (fun _ => none) := by have q9 := hc_13; rw [hg_17, gu_ne (by omega)]; exact q9
  have hc_21 : g_16 (po + 2) = .inr (3, [.int (iz 0), .int (iz 0), .int (iz 0), .int (iz 0)]) := by rw [hg_17]; exact gu_self _ _ _
  refine lv_dup C.1.1 C.1.2.1 dX4_init_38 rfl ?_
  refine g_cv C G (g_runI (As := []) (rest := [.ref (ad_14 (po + 2)), .int (iz 0), .ref (ad_14 (po + 1))]) (pos := po + 2) C G (c_X3_init l κ B (po + 3) ad_14 g_16 (po + 2) 0 0 0 0 (by omega) hc_21) (cwI 0 C.1.2.2.2.2 gX4_init_X3_init rfl rfl rfl (C.1.2.2.2.2 _ (by decide +kernel : Cond.initialized RX3 ∈ wsX4_init)) (C.1.2.2.2.2 _ (by decide +kernel : Cond.methodLink RX4 21 yX3_init ∈ wsX4_init)) (C.1.2.2.2.2 _ (by decide +kernel : Cond.instanceMethod yX3_init ∈ wsX4_init)) rfl (by decide +kernel) ⟨Nat.le_of_ble_eq_true rfl, Nat.le_of_ble_eq_true rfl⟩) rfl hl rfl (Nat.le_of_ble_eq_true rfl) dX4_init_39 ⟨Nat.le_of_ble_eq_true rfl, Nat.le_of_ble_eq_true rfl⟩) (fun g9 H locs hw G => ?_)
  subst hw
  obtain ⟨g_22, hg_23⟩ : ∃ g9, g9 = va_up g_16 (po + 2) (.inr (3, [.int (iz 5), .int (iz 0), .int (iz 0), .int (iz 0)])) := ⟨_, rfl⟩
  rw [← hg_23] at G
  have hc_24 : g_22 po = .inr (4, [.int (iz 24), .int (iz 0), .int (iz 0), .ref (ad_14 (po + 1)), .null, .null]) := by rw [hg_23, gu_ne (by omega)]; exact hc_19
  have hc_25 : g_22 (po + 1) = aL κ 6 (fun _ => none) := by rw [hg_23, gu_ne (by omega)]; exact hc_20
  have hc_26 : g_22 (po + 2) = .inr (3, [.int (iz 5), .int (iz 0), .int (iz 0), .int (iz 0)]) := by rw [hg_23]; exact gu_self _ _ _
  refine g_aastL C G (pos := po + 1) (q := po + 2) (by omega) hc_25 (by omega) hc_26 (by decide) (by decide) (by decide) dX4_init_42 (fun H locs G => ?_)
  obtain ⟨g_27, hg_28⟩ : ∃ g9, g9 = va_up g_22 (po + 1) (aL κ 6 (va_up (fun _ => none) (0 : Int).toNat (some (ad_14 (po + 2))))) := ⟨_, rfl⟩
  rw [← hg_28] at G
  have hc_29 : g_27 po = .inr (4, [.int (iz 24), .int (iz 0), .int (iz 0), .ref (ad_14 (po + 1)), .null, .null]) := by rw [hg_28, gu_ne (by omega)]; exact hc_24
  have hc_30 : g_27 (po + 1) = aL κ 6 (va_up (fun _ => none) (0 : Int).toNat (some (ad_14 (po + 2)))) := by rw [hg_28]; exact gu_self _ _ _
  have hc_31 : g_27 (po + 2) = .inr (3, [.int (iz 5), .int (iz 0), .int (iz 0), .int (iz 0)]) := by rw [hg_28, gu_ne (by omega)]; exact hc_26
  refine lv_iinc (v := iz 1) (lv' := [(1, .int (iz 1)), (0, .ref (ad_14 po))]) C.1.1 C.1.2.1 dX4_init_43 hl (k := 0) rfl (g_inc (by omega)) (by decide) rfl (fun ls hl => ?_)
  refine g_goto (tgt := 21) C dX4_init_46 (by decide) ?_
  refine g_iload_n C dX4_init_21 rfl hl 0 rfl ?_
  refine g_aload_n C dX4_init_22 rfl hl 1 rfl ?_
  refine g_get C G (pos := po) fX4_init_17 (by omega) hc_29 rfl dX4_init_23 ?_
  refine g_alenL C G (pos := po + 1) (by omega) hc_30 dX4_init_26 ?_
  show W p l e _ s m args below meth c _ _ _ _ _ (F0 m _ ls (.int (iz 6) :: _))
  refine g_icmp_ge (tgt := 49) C (by decide) (by decide) dX4_init_27 (by decide) (fun c9 => absurd c9 (by decide)) (fun _ => ?_)
  refine g_aload_n C dX4_init_30 rfl hl 1 rfl ?_
  refine g_get C G (pos := po) fX4_init_17 (by omega) hc_29 rfl dX4_init_31 ?_
  refine g_iload_n C dX4_init_34 rfl hl 0 rfl ?_
  refine g_new C G (n := po + 3) (fs := [.int (iz 0), .int (iz 0), .int (iz 0), .int (iz 0)]) (ty := tyX3) (rfl : vwCl[3]? = some (RX3, TX3, 4)) nwX4_init_3 tyX3_ok (by decide +kernel : Cond.classLink RX4 15 RX3 ∈ wsX4_init) (by decide +kernel : Cond.instantiable RX3 4 ∈ wsX4_init) (by decide +kernel : Cond.initialized RX3 ∈ wsX4_init) (fun j hj => by rcases j with _ | _ | _ | _ | j <;> first | rfl | omega) (Nat.le_of_ble_eq_true rfl) (Nat.le_of_ble_eq_true rfl) dX4_init_35 (fun (ad_32 : Nat → Nat) H hE_33 C G => ?_)
  replace C : gC p c cX4_init 2 s m args wsX4_init RX4 κ B (po + 4) ad_32 := C
  obtain ⟨g_34, hg_35⟩ : ∃ g9, g9 = va_up g_27 (po + 3) (.inr (3, [.int (iz 0), .int (iz 0), .int (iz 0), .int (iz 0)])) := ⟨_, rfl⟩
  rw [← hg_35] at G
  replace G := (show gG κ B (po + 4) ad_32 s g_34 H _ from G)
  have hE0_36 : ∀ k, k < po + 1 → ad_32 k = ad k := fun k hk => (hE_33 k (by omega)).trans (hE0_18 k hk)
  rw [← hE_33 po (by omega)] at hl
  rw [← hE_33 (po + 1) (by omega)]
  have hc_37 : g_34 po = .inr (4, [.int (iz 24), .int (iz 0), .int (iz 0), .ref (ad_32 (po + 1)), .null, .null]) := by have q9 := hc_29; rw [← hE_33 (po + 1) (by omega)] at q9; rw [hg_35, gu_ne (by omega)]; exact q9
  have hc_38 : g_34 (po + 1) = aL κ 6 (va_up (fun _ => none) (0 : Int).toNat (some (ad_32 (po + 2)))) := by have q9 := hc_30; rw [← hE_33 (po + 2) (by omega)] at q9; rw [hg_35, gu_ne (by omega)]; exact q9
  have hc_39 : g_34 (po + 2) = .inr (3, [.int (iz 5), .int (iz 0), .int (iz 0), .int (iz 0)]) := by have q9 := hc_31; rw [hg_35, gu_ne (by omega)]; exact q9
  have hc_40 : g_34 (po + 3) = .inr (3, [.int (iz 0), .int (iz 0), .int (iz 0), .int (iz 0)]) := by rw [hg_35]; exact gu_self _ _ _
  refine lv_dup C.1.1 C.1.2.1 dX4_init_38 rfl ?_
  refine g_cv C G (g_runI (As := []) (rest := [.ref (ad_32 (po + 3)), .int (iz 1), .ref (ad_32 (po + 1))]) (pos := po + 3) C G (c_X3_init l κ B (po + 4) ad_32 g_34 (po + 3) 0 0 0 0 (by omega) hc_40) (cwI 0 C.1.2.2.2.2 gX4_init_X3_init rfl rfl rfl (C.1.2.2.2.2 _ (by decide +kernel : Cond.initialized RX3 ∈ wsX4_init)) (C.1.2.2.2.2 _ (by decide +kernel : Cond.methodLink RX4 21 yX3_init ∈ wsX4_init)) (C.1.2.2.2.2 _ (by decide +kernel : Cond.instanceMethod yX3_init ∈ wsX4_init)) rfl (by decide +kernel) ⟨Nat.le_of_ble_eq_true rfl, Nat.le_of_ble_eq_true rfl⟩) rfl hl rfl (Nat.le_of_ble_eq_true rfl) dX4_init_39 ⟨Nat.le_of_ble_eq_true rfl, Nat.le_of_ble_eq_true rfl⟩) (fun g9 H locs hw G => ?_)
  subst hw
  obtain ⟨g_41, hg_42⟩ : ∃ g9, g9 = va_up g_34 (po + 3) (.inr (3, [.int (iz 5), .int (iz 0), .int (iz 0), .int (iz 0)])) := ⟨_, rfl⟩
  rw [← hg_42] at G
  have hc_43 : g_41 po = .inr (4, [.int (iz 24), .int (iz 0), .int (iz 0), .ref (ad_32 (po + 1)), .null, .null]) := by rw [hg_42, gu_ne (by omega)]; exact hc_37
  have hc_44 : g_41 (po + 1) = aL κ 6 (va_up (fun _ => none) (0 : Int).toNat (some (ad_32 (po + 2)))) := by rw [hg_42, gu_ne (by omega)]; exact hc_38
  have hc_45 : g_41 (po + 2) = .inr (3, [.int (iz 5), .int (iz 0), .int (iz 0), .int (iz 0)]) := by rw [hg_42, gu_ne (by omega)]; exact hc_39
  have hc_46 : g_41 (po + 3) = .inr (3, [.int (iz 5), .int (iz 0), .int (iz 0), .int (iz 0)]) := by rw [hg_42]; exact gu_self _ _ _
  refine g_aastL C G (pos := po + 1) (q := po + 3) (by omega) hc_44 (by omega) hc_46 (by decide) (by decide) (by decide) dX4_init_42 (fun H locs G => ?_)
  obtain ⟨g_47, hg_48⟩ : ∃ g9, g9 = va_up g_41 (po + 1) (aL κ 6 (va_up (va_up (fun _ => none) (0 : Int).toNat (some (ad_32 (po + 2)))) (1 : Int).toNat (some (ad_32 (po + 3))))) := ⟨_, rfl⟩
  rw [← hg_48] at G
  have hc_49 : g_47 po = .inr (4, [.int (iz 24), .int (iz 0), .int (iz 0), .ref (ad_32 (po + 1)), .null, .null]) := by rw [hg_48, gu_ne (by omega)]; exact hc_43
  have hc_50 : g_47 (po + 1) = aL κ 6 (va_up (va_up (fun _ => none) (0 : Int).toNat (some (ad_32 (po + 2)))) (1 : Int).toNat (some (ad_32 (po + 3)))) := by rw [hg_48]; exact gu_self _ _ _
  have hc_51 : g_47 (po + 2) = .inr (3, [.int (iz 5), .int (iz 0), .int (iz 0), .int (iz 0)]) := by rw [hg_48, gu_ne (by omega)]; exact hc_45
  have hc_52 : g_47 (po + 3) = .inr (3, [.int (iz 5), .int (iz 0), .int (iz 0), .int (iz 0)]) := by rw [hg_48, gu_ne (by omega)]; exact hc_46
  refine lv_iinc (v := iz 2) (lv' := [(1, .int (iz 2)), (0, .ref (ad_32 po))]) C.1.1 C.1.2.1 dX4_init_43 hl (k := 0) rfl (g_inc (by omega)) (by decide) rfl (fun ls hl => ?_)
  refine g_goto (tgt := 21) C dX4_init_46 (by decide) ?_
  refine g_iload_n C dX4_init_21 rfl hl 0 rfl ?_
  refine g_aload_n C dX4_init_22 rfl hl 1 rfl ?_
  refine g_get C G (pos := po) fX4_init_17 (by omega) hc_49 rfl dX4_init_23 ?_
  refine g_alenL C G (pos := po + 1) (by omega) hc_50 dX4_init_26 ?_
  show W p l e _ s m args below meth c _ _ _ _ _ (F0 m _ ls (.int (iz 6) :: _))
  refine g_icmp_ge (tgt := 49) C (by decide) (by decide) dX4_init_27 (by decide) (fun c9 => absurd c9 (by decide)) (fun _ => ?_)
  refine g_aload_n C dX4_init_30 rfl hl 1 rfl ?_
  refine g_get C G (pos := po) fX4_init_17 (by omega) hc_49 rfl dX4_init_31 ?_
  refine g_iload_n C dX4_init_34 rfl hl 0 rfl ?_
  refine g_new C G (n := po + 4) (fs := [.int (iz 0), .int (iz 0), .int (iz 0), .int (iz 0)]) (ty := tyX3) (rfl : vwCl[3]? = some (RX3, TX3, 4)) nwX4_init_3 tyX3_ok (by decide +kernel : Cond.classLink RX4 15 RX3 ∈ wsX4_init) (by decide +kernel : Cond.instantiable RX3 4 ∈ wsX4_init) (by decide +kernel : Cond.initialized RX3 ∈ wsX4_init) (fun j hj => by rcases j with _ | _ | _ | _ | j <;> first | rfl | omega) (Nat.le_of_ble_eq_true rfl) (Nat.le_of_ble_eq_true rfl) dX4_init_35 (fun (ad_53 : Nat → Nat) H hE_54 C G => ?_)
  replace C : gC p c cX4_init 2 s m args wsX4_init RX4 κ B (po + 5) ad_53 := C
  obtain ⟨g_55, hg_56⟩ : ∃ g9, g9 = va_up g_47 (po + 4) (.inr (3, [.int (iz 0), .int (iz 0), .int (iz 0), .int (iz 0)])) := ⟨_, rfl⟩
  rw [← hg_56] at G
  replace G := (show gG κ B (po + 5) ad_53 s g_55 H _ from G)
  have hE0_57 : ∀ k, k < po + 1 → ad_53 k = ad k := fun k hk => (hE_54 k (by omega)).trans (hE0_36 k hk)
  rw [← hE_54 po (by omega)] at hl
  rw [← hE_54 (po + 1) (by omega)]
  have hc_58 : g_55 po = .inr (4, [.int (iz 24), .int (iz 0), .int (iz 0), .ref (ad_53 (po + 1)), .null, .null]) := by have q9 := hc_49; rw [← hE_54 (po + 1) (by omega)] at q9; rw [hg_56, gu_ne (by omega)]; exact q9
  have hc_59 : g_55 (po + 1) = aL κ 6 (va_up (va_up (fun _ => none) (0 : Int).toNat (some (ad_53 (po + 2)))) (1 : Int).toNat (some (ad_53 (po + 3)))) := by have q9 := hc_50; rw [← hE_54 (po + 2) (by omega), ← hE_54 (po + 3) (by omega)] at q9; rw [hg_56, gu_ne (by omega)]; exact q9
  have hc_60 : g_55 (po + 2) = .inr (3, [.int (iz 5), .int (iz 0), .int (iz 0), .int (iz 0)]) := by have q9 := hc_51; rw [hg_56, gu_ne (by omega)]; exact q9
  have hc_61 : g_55 (po + 3) = .inr (3, [.int (iz 5), .int (iz 0), .int (iz 0), .int (iz 0)]) := by have q9 := hc_52; rw [hg_56, gu_ne (by omega)]; exact q9
  have hc_62 : g_55 (po + 4) = .inr (3, [.int (iz 0), .int (iz 0), .int (iz 0), .int (iz 0)]) := by rw [hg_56]; exact gu_self _ _ _
  refine lv_dup C.1.1 C.1.2.1 dX4_init_38 rfl ?_
  refine g_cv C G (g_runI (As := []) (rest := [.ref (ad_53 (po + 4)), .int (iz 2), .ref (ad_53 (po + 1))]) (pos := po + 4) C G (c_X3_init l κ B (po + 5) ad_53 g_55 (po + 4) 0 0 0 0 (by omega) hc_62) (cwI 0 C.1.2.2.2.2 gX4_init_X3_init rfl rfl rfl (C.1.2.2.2.2 _ (by decide +kernel : Cond.initialized RX3 ∈ wsX4_init)) (C.1.2.2.2.2 _ (by decide +kernel : Cond.methodLink RX4 21 yX3_init ∈ wsX4_init)) (C.1.2.2.2.2 _ (by decide +kernel : Cond.instanceMethod yX3_init ∈ wsX4_init)) rfl (by decide +kernel) ⟨Nat.le_of_ble_eq_true rfl, Nat.le_of_ble_eq_true rfl⟩) rfl hl rfl (Nat.le_of_ble_eq_true rfl) dX4_init_39 ⟨Nat.le_of_ble_eq_true rfl, Nat.le_of_ble_eq_true rfl⟩) (fun g9 H locs hw G => ?_)
  subst hw
  obtain ⟨g_63, hg_64⟩ : ∃ g9, g9 = va_up g_55 (po + 4) (.inr (3, [.int (iz 5), .int (iz 0), .int (iz 0), .int (iz 0)])) := ⟨_, rfl⟩
  rw [← hg_64] at G
  have hc_65 : g_63 po = .inr (4, [.int (iz 24), .int (iz 0), .int (iz 0), .ref (ad_53 (po + 1)), .null, .null]) := by rw [hg_64, gu_ne (by omega)]; exact hc_58
  have hc_66 : g_63 (po + 1) = aL κ 6 (va_up (va_up (fun _ => none) (0 : Int).toNat (some (ad_53 (po + 2)))) (1 : Int).toNat (some (ad_53 (po + 3)))) := by rw [hg_64, gu_ne (by omega)]; exact hc_59
  have hc_67 : g_63 (po + 2) = .inr (3, [.int (iz 5), .int (iz 0), .int (iz 0), .int (iz 0)]) := by rw [hg_64, gu_ne (by omega)]; exact hc_60
  have hc_68 : g_63 (po + 3) = .inr (3, [.int (iz 5), .int (iz 0), .int (iz 0), .int (iz 0)]) := by rw [hg_64, gu_ne (by omega)]; exact hc_61
  have hc_69 : g_63 (po + 4) = .inr (3, [.int (iz 5), .int (iz 0), .int (iz 0), .int (iz 0)]) := by rw [hg_64]; exact gu_self _ _ _
  refine g_aastL C G (pos := po + 1) (q := po + 4) (by omega) hc_66 (by omega) hc_69 (by decide) (by decide) (by decide) dX4_init_42 (fun H locs G => ?_)
  obtain ⟨g_70, hg_71⟩ : ∃ g9, g9 = va_up g_63 (po + 1) (aL κ 6 (va_up (va_up (va_up (fun _ => none) (0 : Int).toNat (some (ad_53 (po + 2)))) (1 : Int).toNat (some (ad_53 (po + 3)))) (2 : Int).toNat (some (ad_53 (po + 4))))) := ⟨_, rfl⟩
  rw [← hg_71] at G
  have hc_72 : g_70 po = .inr (4, [.int (iz 24), .int (iz 0), .int (iz 0), .ref (ad_53 (po + 1)), .null, .null]) := by rw [hg_71, gu_ne (by omega)]; exact hc_65
  have hc_73 : g_70 (po + 1) = aL κ 6 (va_up (va_up (va_up (fun _ => none) (0 : Int).toNat (some (ad_53 (po + 2)))) (1 : Int).toNat (some (ad_53 (po + 3)))) (2 : Int).toNat (some (ad_53 (po + 4)))) := by rw [hg_71]; exact gu_self _ _ _
  have hc_74 : g_70 (po + 2) = .inr (3, [.int (iz 5), .int (iz 0), .int (iz 0), .int (iz 0)]) := by rw [hg_71, gu_ne (by omega)]; exact hc_67
  have hc_75 : g_70 (po + 3) = .inr (3, [.int (iz 5), .int (iz 0), .int (iz 0), .int (iz 0)]) := by rw [hg_71, gu_ne (by omega)]; exact hc_68
  have hc_76 : g_70 (po + 4) = .inr (3, [.int (iz 5), .int (iz 0), .int (iz 0), .int (iz 0)]) := by rw [hg_71, gu_ne (by omega)]; exact hc_69
  refine lv_iinc (v := iz 3) (lv' := [(1, .int (iz 3)), (0, .ref (ad_53 po))]) C.1.1 C.1.2.1 dX4_init_43 hl (k := 0) rfl (g_inc (by omega)) (by decide) rfl (fun ls hl => ?_)
  refine g_goto (tgt := 21) C dX4_init_46 (by decide) ?_
  refine g_iload_n C dX4_init_21 rfl hl 0 rfl ?_
  refine g_aload_n C dX4_init_22 rfl hl 1 rfl ?_
  refine g_get C G (pos := po) fX4_init_17 (by omega) hc_72 rfl dX4_init_23 ?_
  refine g_alenL C G (pos := po + 1) (by omega) hc_73 dX4_init_26 ?_
  show W p l e _ s m args below meth c _ _ _ _ _ (F0 m _ ls (.int (iz 6) :: _))
  refine g_icmp_ge (tgt := 49) C (by decide) (by decide) dX4_init_27 (by decide) (fun c9 => absurd c9 (by decide)) (fun _ => ?_)
  refine g_aload_n C dX4_init_30 rfl hl 1 rfl ?_
  refine g_get C G (pos := po) fX4_init_17 (by omega) hc_72 rfl dX4_init_31 ?_
  refine g_iload_n C dX4_init_34 rfl hl 0 rfl ?_
  refine g_new C G (n := po + 5) (fs := [.int (iz 0), .int (iz 0), .int (iz 0), .int (iz 0)]) (ty := tyX3) (rfl : vwCl[3]? = some (RX3, TX3, 4)) nwX4_init_3 tyX3_ok (by decide +kernel : Cond.classLink RX4 15 RX3 ∈ wsX4_init) (by decide +kernel : Cond.instantiable RX3 4 ∈ wsX4_init) (by decide +kernel : Cond.initialized RX3 ∈ wsX4_init) (fun j hj => by rcases j with _ | _ | _ | _ | j <;> first | rfl | omega) (Nat.le_of_ble_eq_true rfl) (Nat.le_of_ble_eq_true rfl) dX4_init_35 (fun (ad_77 : Nat → Nat) H hE_78 C G => ?_)
  replace C : gC p c cX4_init 2 s m args wsX4_init RX4 κ B (po + 6) ad_77 := C
  obtain ⟨g_79, hg_80⟩ : ∃ g9, g9 = va_up g_70 (po + 5) (.inr (3, [.int (iz 0), .int (iz 0), .int (iz 0), .int (iz 0)])) := ⟨_, rfl⟩
  rw [← hg_80] at G
  replace G := (show gG κ B (po + 6) ad_77 s g_79 H _ from G)
  have hE0_81 : ∀ k, k < po + 1 → ad_77 k = ad k := fun k hk => (hE_78 k (by omega)).trans (hE0_57 k hk)
  rw [← hE_78 po (by omega)] at hl
  rw [← hE_78 (po + 1) (by omega)]
  have hc_82 : g_79 po = .inr (4, [.int (iz 24), .int (iz 0), .int (iz 0), .ref (ad_77 (po + 1)), .null, .null]) := by have q9 := hc_72; rw [← hE_78 (po + 1) (by omega)] at q9; rw [hg_80, gu_ne (by omega)]; exact q9
  have hc_83 : g_79 (po + 1) = aL κ 6 (va_up (va_up (va_up (fun _ => none) (0 : Int).toNat (some (ad_77 (po + 2)))) (1 : Int).toNat (some (ad_77 (po + 3)))) (2 : Int).toNat (some (ad_77 (po + 4)))) := by have q9 := hc_73; rw [← hE_78 (po + 2) (by omega), ← hE_78 (po + 3) (by omega), ← hE_78 (po + 4) (by omega)] at q9; rw [hg_80, gu_ne (by omega)]; exact q9
  have hc_84 : g_79 (po + 2) = .inr (3, [.int (iz 5), .int (iz 0), .int (iz 0), .int (iz 0)]) := by have q9 := hc_74; rw [hg_80, gu_ne (by omega)]; exact q9
  have hc_85 : g_79 (po + 3) = .inr (3, [.int (iz 5), .int (iz 0), .int (iz 0), .int (iz 0)]) := by have q9 := hc_75; rw [hg_80, gu_ne (by omega)]; exact q9
  have hc_86 : g_79 (po + 4) = .inr (3, [.int (iz 5), .int (iz 0), .int (iz 0), .int (iz 0)]) := by have q9 := hc_76; rw [hg_80, gu_ne (by omega)]; exact q9
  have hc_87 : g_79 (po + 5) = .inr (3, [.int (iz 0), .int (iz 0), .int (iz 0), .int (iz 0)]) := by rw [hg_80]; exact gu_self _ _ _
  refine lv_dup C.1.1 C.1.2.1 dX4_init_38 rfl ?_
  refine g_cv C G (g_runI (As := []) (rest := [.ref (ad_77 (po + 5)), .int (iz 3), .ref (ad_77 (po + 1))]) (pos := po + 5) C G (c_X3_init l κ B (po + 6) ad_77 g_79 (po + 5) 0 0 0 0 (by omega) hc_87) (cwI 0 C.1.2.2.2.2 gX4_init_X3_init rfl rfl rfl (C.1.2.2.2.2 _ (by decide +kernel : Cond.initialized RX3 ∈ wsX4_init)) (C.1.2.2.2.2 _ (by decide +kernel : Cond.methodLink RX4 21 yX3_init ∈ wsX4_init)) (C.1.2.2.2.2 _ (by decide +kernel : Cond.instanceMethod yX3_init ∈ wsX4_init)) rfl (by decide +kernel) ⟨Nat.le_of_ble_eq_true rfl, Nat.le_of_ble_eq_true rfl⟩) rfl hl rfl (Nat.le_of_ble_eq_true rfl) dX4_init_39 ⟨Nat.le_of_ble_eq_true rfl, Nat.le_of_ble_eq_true rfl⟩) (fun g9 H locs hw G => ?_)
  subst hw
  obtain ⟨g_88, hg_89⟩ : ∃ g9, g9 = va_up g_79 (po + 5) (.inr (3, [.int (iz 5), .int (iz 0), .int (iz 0), .int (iz 0)])) := ⟨_, rfl⟩
  rw [← hg_89] at G
  have hc_90 : g_88 po = .inr (4, [.int (iz 24), .int (iz 0), .int (iz 0), .ref (ad_77 (po + 1)), .null, .null]) := by rw [hg_89, gu_ne (by omega)]; exact hc_82
  have hc_91 : g_88 (po + 1) = aL κ 6 (va_up (va_up (va_up (fun _ => none) (0 : Int).toNat (some (ad_77 (po + 2)))) (1 : Int).toNat (some (ad_77 (po + 3)))) (2 : Int).toNat (some (ad_77 (po + 4)))) := by rw [hg_89, gu_ne (by omega)]; exact hc_83
  have hc_92 : g_88 (po + 2) = .inr (3, [.int (iz 5), .int (iz 0), .int (iz 0), .int (iz 0)]) := by rw [hg_89, gu_ne (by omega)]; exact hc_84
  have hc_93 : g_88 (po + 3) = .inr (3, [.int (iz 5), .int (iz 0), .int (iz 0), .int (iz 0)]) := by rw [hg_89, gu_ne (by omega)]; exact hc_85
  have hc_94 : g_88 (po + 4) = .inr (3, [.int (iz 5), .int (iz 0), .int (iz 0), .int (iz 0)]) := by rw [hg_89, gu_ne (by omega)]; exact hc_86
  have hc_95 : g_88 (po + 5) = .inr (3, [.int (iz 5), .int (iz 0), .int (iz 0), .int (iz 0)]) := by rw [hg_89]; exact gu_self _ _ _
  refine g_aastL C G (pos := po + 1) (q := po + 5) (by omega) hc_91 (by omega) hc_95 (by decide) (by decide) (by decide) dX4_init_42 (fun H locs G => ?_)
  obtain ⟨g_96, hg_97⟩ : ∃ g9, g9 = va_up g_88 (po + 1) (aL κ 6 (va_up (va_up (va_up (va_up (fun _ => none) (0 : Int).toNat (some (ad_77 (po + 2)))) (1 : Int).toNat (some (ad_77 (po + 3)))) (2 : Int).toNat (some (ad_77 (po + 4)))) (3 : Int).toNat (some (ad_77 (po + 5))))) := ⟨_, rfl⟩
  rw [← hg_97] at G
  have hc_98 : g_96 po = .inr (4, [.int (iz 24), .int (iz 0), .int (iz 0), .ref (ad_77 (po + 1)), .null, .null]) := by rw [hg_97, gu_ne (by omega)]; exact hc_90
  have hc_99 : g_96 (po + 1) = aL κ 6 (va_up (va_up (va_up (va_up (fun _ => none) (0 : Int).toNat (some (ad_77 (po + 2)))) (1 : Int).toNat (some (ad_77 (po + 3)))) (2 : Int).toNat (some (ad_77 (po + 4)))) (3 : Int).toNat (some (ad_77 (po + 5)))) := by rw [hg_97]; exact gu_self _ _ _
  have hc_100 : g_96 (po + 2) = .inr (3, [.int (iz 5), .int (iz 0), .int (iz 0), .int (iz 0)]) := by rw [hg_97, gu_ne (by omega)]; exact hc_92
  have hc_101 : g_96 (po + 3) = .inr (3, [.int (iz 5), .int (iz 0), .int (iz 0), .int (iz 0)]) := by rw [hg_97, gu_ne (by omega)]; exact hc_93
  have hc_102 : g_96 (po + 4) = .inr (3, [.int (iz 5), .int (iz 0), .int (iz 0), .int (iz 0)]) := by rw [hg_97, gu_ne (by omega)]; exact hc_94
  have hc_103 : g_96 (po + 5) = .inr (3, [.int (iz 5), .int (iz 0), .int (iz 0), .int (iz 0)]) := by rw [hg_97, gu_ne (by omega)]; exact hc_95
  refine lv_iinc (v := iz 4) (lv' := [(1, .int (iz 4)), (0, .ref (ad_77 po))]) C.1.1 C.1.2.1 dX4_init_43 hl (k := 0) rfl (g_inc (by omega)) (by decide) rfl (fun ls hl => ?_)
  refine g_goto (tgt := 21) C dX4_init_46 (by decide) ?_
  refine g_iload_n C dX4_init_21 rfl hl 0 rfl ?_
  refine g_aload_n C dX4_init_22 rfl hl 1 rfl ?_
  refine g_get C G (pos := po) fX4_init_17 (by omega) hc_98 rfl dX4_init_23 ?_
  refine g_alenL C G (pos := po + 1) (by omega) hc_99 dX4_init_26 ?_
  show W p l e _ s m args below meth c _ _ _ _ _ (F0 m _ ls (.int (iz 6) :: _))
  refine g_icmp_ge (tgt := 49) C (by decide) (by decide) dX4_init_27 (by decide) (fun c9 => absurd c9 (by decide)) (fun _ => ?_)
  refine g_aload_n C dX4_init_30 rfl hl 1 rfl ?_
  refine g_get C G (pos := po) fX4_init_17 (by omega) hc_98 rfl dX4_init_31 ?_
  refine g_iload_n C dX4_init_34 rfl hl 0 rfl ?_
  refine g_new C G (n := po + 6) (fs := [.int (iz 0), .int (iz 0), .int (iz 0), .int (iz 0)]) (ty := tyX3) (rfl : vwCl[3]? = some (RX3, TX3, 4)) nwX4_init_3 tyX3_ok (by decide +kernel : Cond.classLink RX4 15 RX3 ∈ wsX4_init) (by decide +kernel : Cond.instantiable RX3 4 ∈ wsX4_init) (by decide +kernel : Cond.initialized RX3 ∈ wsX4_init) (fun j hj => by rcases j with _ | _ | _ | _ | j <;> first | rfl | omega) (Nat.le_of_ble_eq_true rfl) (Nat.le_of_ble_eq_true rfl) dX4_init_35 (fun (ad_104 : Nat → Nat) H hE_105 C G => ?_)
  replace C : gC p c cX4_init 2 s m args wsX4_init RX4 κ B (po + 7) ad_104 := C
  obtain ⟨g_106, hg_107⟩ : ∃ g9, g9 = va_up g_96 (po + 6) (.inr (3, [.int (iz 0), .int (iz 0), .int (iz 0), .int (iz 0)])) := ⟨_, rfl⟩
  rw [← hg_107] at G
  replace G := (show gG κ B (po + 7) ad_104 s g_106 H _ from G)
  have hE0_108 : ∀ k, k < po + 1 → ad_104 k = ad k := fun k hk => (hE_105 k (by omega)).trans (hE0_81 k hk)
  rw [← hE_105 po (by omega)] at hl
  rw [← hE_105 (po + 1) (by omega)]
  have hc_109 : g_106 po = .inr (4, [.int (iz 24), .int (iz 0), .int (iz 0), .ref (ad_104 (po + 1)), .null, .null]) := by have q9 := hc_98; rw [← hE_105 (po + 1) (by omega)] at q9; rw [hg_107, gu_ne (by omega)]; exact q9
  have hc_110 : g_106 (po + 1) = aL κ 6 (va_up (va_up (va_up (va_up (fun _ => none) (0 : Int).toNat (some (ad_104 (po + 2)))) (1 : Int).toNat (some (ad_104 (po + 3)))) (2 : Int).toNat (some (ad_104 (po + 4)))) (3 : Int).toNat (some (ad_104 (po + 5)))) := by have q9 := hc_99; rw [← hE_105 (po + 2) (by omega), ← hE_105 (po + 3) (by omega), ← hE_105 (po + 4) (by omega), ← hE_105 (po + 5) (by omega)] at q9; rw [hg_107, gu_ne (by omega)]; exact q9
  have hc_111 : g_106 (po + 2) = .inr (3, [.int (iz 5), .int (iz 0), .int (iz 0), .int (iz 0)]) := by have q9 := hc_100; rw [hg_107, gu_ne (by omega)]; exact q9
  have hc_112 : g_106 (po + 3) = .inr (3, [.int (iz 5), .int (iz 0), .int (iz 0), .int (iz 0)]) := by have q9 := hc_101; rw [hg_107, gu_ne (by omega)]; exact q9
  have hc_113 : g_106 (po + 4) = .inr (3, [.int (iz 5), .int (iz 0), .int (iz 0), .int (iz 0)]) := by have q9 := hc_102; rw [hg_107, gu_ne (by omega)]; exact q9
  have hc_114 : g_106 (po + 5) = .inr (3, [.int (iz 5), .int (iz 0), .int (iz 0), .int (iz 0)]) := by have q9 := hc_103; rw [hg_107, gu_ne (by omega)]; exact q9
  have hc_115 : g_106 (po + 6) = .inr (3, [.int (iz 0), .int (iz 0), .int (iz 0), .int (iz 0)]) := by rw [hg_107]; exact gu_self _ _ _
  refine lv_dup C.1.1 C.1.2.1 dX4_init_38 rfl ?_
  refine g_cv C G (g_runI (As := []) (rest := [.ref (ad_104 (po + 6)), .int (iz 4), .ref (ad_104 (po + 1))]) (pos := po + 6) C G (c_X3_init l κ B (po + 7) ad_104 g_106 (po + 6) 0 0 0 0 (by omega) hc_115) (cwI 0 C.1.2.2.2.2 gX4_init_X3_init rfl rfl rfl (C.1.2.2.2.2 _ (by decide +kernel : Cond.initialized RX3 ∈ wsX4_init)) (C.1.2.2.2.2 _ (by decide +kernel : Cond.methodLink RX4 21 yX3_init ∈ wsX4_init)) (C.1.2.2.2.2 _ (by decide +kernel : Cond.instanceMethod yX3_init ∈ wsX4_init)) rfl (by decide +kernel) ⟨Nat.le_of_ble_eq_true rfl, Nat.le_of_ble_eq_true rfl⟩) rfl hl rfl (Nat.le_of_ble_eq_true rfl) dX4_init_39 ⟨Nat.le_of_ble_eq_true rfl, Nat.le_of_ble_eq_true rfl⟩) (fun g9 H locs hw G => ?_)
  subst hw
  obtain ⟨g_116, hg_117⟩ : ∃ g9, g9 = va_up g_106 (po + 6) (.inr (3, [.int (iz 5), .int (iz 0), .int (iz 0), .int (iz 0)])) := ⟨_, rfl⟩
  rw [← hg_117] at G
  have hc_118 : g_116 po = .inr (4, [.int (iz 24), .int (iz 0), .int (iz 0), .ref (ad_104 (po + 1)), .null, .null]) := by rw [hg_117, gu_ne (by omega)]; exact hc_109
  have hc_119 : g_116 (po + 1) = aL κ 6 (va_up (va_up (va_up (va_up (fun _ => none) (0 : Int).toNat (some (ad_104 (po + 2)))) (1 : Int).toNat (some (ad_104 (po + 3)))) (2 : Int).toNat (some (ad_104 (po + 4)))) (3 : Int).toNat (some (ad_104 (po + 5)))) := by rw [hg_117, gu_ne (by omega)]; exact hc_110
  have hc_120 : g_116 (po + 2) = .inr (3, [.int (iz 5), .int (iz 0), .int (iz 0), .int (iz 0)]) := by rw [hg_117, gu_ne (by omega)]; exact hc_111
  have hc_121 : g_116 (po + 3) = .inr (3, [.int (iz 5), .int (iz 0), .int (iz 0), .int (iz 0)]) := by rw [hg_117, gu_ne (by omega)]; exact hc_112
  have hc_122 : g_116 (po + 4) = .inr (3, [.int (iz 5), .int (iz 0), .int (iz 0), .int (iz 0)]) := by rw [hg_117, gu_ne (by omega)]; exact hc_113
  have hc_123 : g_116 (po + 5) = .inr (3, [.int (iz 5), .int (iz 0), .int (iz 0), .int (iz 0)]) := by rw [hg_117, gu_ne (by omega)]; exact hc_114
  have hc_124 : g_116 (po + 6) = .inr (3, [.int (iz 5), .int (iz 0), .int (iz 0), .int (iz 0)]) := by rw [hg_117]; exact gu_self _ _ _
  refine g_aastL C G (pos := po + 1) (q := po + 6) (by omega) hc_119 (by omega) hc_124 (by decide) (by decide) (by decide) dX4_init_42 (fun H locs G => ?_)
  obtain ⟨g_125, hg_126⟩ : ∃ g9, g9 = va_up g_116 (po + 1) (aL κ 6 (va_up (va_up (va_up (va_up (va_up (fun _ => none) (0 : Int).toNat (some (ad_104 (po + 2)))) (1 : Int).toNat (some (ad_104 (po + 3)))) (2 : Int).toNat (some (ad_104 (po + 4)))) (3 : Int).toNat (some (ad_104 (po + 5)))) (4 : Int).toNat (some (ad_104 (po + 6))))) := ⟨_, rfl⟩
  rw [← hg_126] at G
  have hc_127 : g_125 po = .inr (4, [.int (iz 24), .int (iz 0), .int (iz 0), .ref (ad_104 (po + 1)), .null, .null]) := by rw [hg_126, gu_ne (by omega)]; exact hc_118
  have hc_128 : g_125 (po + 1) = aL κ 6 (va_up (va_up (va_up (va_up (va_up (fun _ => none) (0 : Int).toNat (some (ad_104 (po + 2)))) (1 : Int).toNat (some (ad_104 (po + 3)))) (2 : Int).toNat (some (ad_104 (po + 4)))) (3 : Int).toNat (some (ad_104 (po + 5)))) (4 : Int).toNat (some (ad_104 (po + 6)))) := by rw [hg_126]; exact gu_self _ _ _
  have hc_129 : g_125 (po + 2) = .inr (3, [.int (iz 5), .int (iz 0), .int (iz 0), .int (iz 0)]) := by rw [hg_126, gu_ne (by omega)]; exact hc_120
  have hc_130 : g_125 (po + 3) = .inr (3, [.int (iz 5), .int (iz 0), .int (iz 0), .int (iz 0)]) := by rw [hg_126, gu_ne (by omega)]; exact hc_121
  have hc_131 : g_125 (po + 4) = .inr (3, [.int (iz 5), .int (iz 0), .int (iz 0), .int (iz 0)]) := by rw [hg_126, gu_ne (by omega)]; exact hc_122
  have hc_132 : g_125 (po + 5) = .inr (3, [.int (iz 5), .int (iz 0), .int (iz 0), .int (iz 0)]) := by rw [hg_126, gu_ne (by omega)]; exact hc_123
  have hc_133 : g_125 (po + 6) = .inr (3, [.int (iz 5), .int (iz 0), .int (iz 0), .int (iz 0)]) := by rw [hg_126, gu_ne (by omega)]; exact hc_124
  refine lv_iinc (v := iz 5) (lv' := [(1, .int (iz 5)), (0, .ref (ad_104 po))]) C.1.1 C.1.2.1 dX4_init_43 hl (k := 0) rfl (g_inc (by omega)) (by decide) rfl (fun ls hl => ?_)
  refine g_goto (tgt := 21) C dX4_init_46 (by decide) ?_
  refine g_iload_n C dX4_init_21 rfl hl 0 rfl ?_
  refine g_aload_n C dX4_init_22 rfl hl 1 rfl ?_
  refine g_get C G (pos := po) fX4_init_17 (by omega) hc_127 rfl dX4_init_23 ?_
  refine g_alenL C G (pos := po + 1) (by omega) hc_128 dX4_init_26 ?_
  show W p l e _ s m args below meth c _ _ _ _ _ (F0 m _ ls (.int (iz 6) :: _))
  refine g_icmp_ge (tgt := 49) C (by decide) (by decide) dX4_init_27 (by decide) (fun c9 => absurd c9 (by decide)) (fun _ => ?_)
  refine g_aload_n C dX4_init_30 rfl hl 1 rfl ?_
  refine g_get C G (pos := po) fX4_init_17 (by omega) hc_127 rfl dX4_init_31 ?_
  refine g_iload_n C dX4_init_34 rfl hl 0 rfl ?_
  refine g_new C G (n := po + 7) (fs := [.int (iz 0), .int (iz 0), .int (iz 0), .int (iz 0)]) (ty := tyX3) (rfl : vwCl[3]? = some (RX3, TX3, 4)) nwX4_init_3 tyX3_ok (by decide +kernel : Cond.classLink RX4 15 RX3 ∈ wsX4_init) (by decide +kernel : Cond.instantiable RX3 4 ∈ wsX4_init) (by decide +kernel : Cond.initialized RX3 ∈ wsX4_init) (fun j hj => by rcases j with _ | _ | _ | _ | j <;> first | rfl | omega) (Nat.le_of_ble_eq_true rfl) (Nat.le_of_ble_eq_true rfl) dX4_init_35 (fun (ad_134 : Nat → Nat) H hE_135 C G => ?_)
  replace C : gC p c cX4_init 2 s m args wsX4_init RX4 κ B (po + 8) ad_134 := C
  obtain ⟨g_136, hg_137⟩ : ∃ g9, g9 = va_up g_125 (po + 7) (.inr (3, [.int (iz 0), .int (iz 0), .int (iz 0), .int (iz 0)])) := ⟨_, rfl⟩
  rw [← hg_137] at G
  replace G := (show gG κ B (po + 8) ad_134 s g_136 H _ from G)
  have hE0_138 : ∀ k, k < po + 1 → ad_134 k = ad k := fun k hk => (hE_135 k (by omega)).trans (hE0_108 k hk)
  rw [← hE_135 po (by omega)] at hl
  rw [← hE_135 (po + 1) (by omega)]
  have hc_139 : g_136 po = .inr (4, [.int (iz 24), .int (iz 0), .int (iz 0), .ref (ad_134 (po + 1)), .null, .null]) := by have q9 := hc_127; rw [← hE_135 (po + 1) (by omega)] at q9; rw [hg_137, gu_ne (by omega)]; exact q9
  have hc_140 : g_136 (po + 1) = aL κ 6 (va_up (va_up (va_up (va_up (va_up (fun _ => none) (0 : Int).toNat (some (ad_134 (po + 2)))) (1 : Int).toNat (some (ad_134 (po + 3)))) (2 : Int).toNat (some (ad_134 (po + 4)))) (3 : Int).toNat (some (ad_134 (po + 5)))) (4 : Int).toNat (some (ad_134 (po + 6)))) := by have q9 := hc_128; rw [← hE_135 (po + 2) (by omega), ← hE_135 (po + 3) (by omega), ← hE_135 (po + 4) (by omega), ← hE_135 (po + 5) (by omega), ← hE_135 (po + 6) (by omega)] at q9; rw [hg_137, gu_ne (by omega)]; exact q9
  have hc_141 : g_136 (po + 2) = .inr (3, [.int (iz 5), .int (iz 0), .int (iz 0), .int (iz 0)]) := by have q9 := hc_129; rw [hg_137, gu_ne (by omega)]; exact q9
  have hc_142 : g_136 (po + 3) = .inr (3, [.int (iz 5), .int (iz 0), .int (iz 0), .int (iz 0)]) := by have q9 := hc_130; rw [hg_137, gu_ne (by omega)]; exact q9
  have hc_143 : g_136 (po + 4) = .inr (3, [.int (iz 5), .int (iz 0), .int (iz 0), .int (iz 0)]) := by have q9 := hc_131; rw [hg_137, gu_ne (by omega)]; exact q9
  have hc_144 : g_136 (po + 5) = .inr (3, [.int (iz 5), .int (iz 0), .int (iz 0), .int (iz 0)]) := by have q9 := hc_132; rw [hg_137, gu_ne (by omega)]; exact q9
  have hc_145 : g_136 (po + 6) = .inr (3, [.int (iz 5), .int (iz 0), .int (iz 0), .int (iz 0)]) := by have q9 := hc_133; rw [hg_137, gu_ne (by omega)]; exact q9
  have hc_146 : g_136 (po + 7) = .inr (3, [.int (iz 0), .int (iz 0), .int (iz 0), .int (iz 0)]) := by rw [hg_137]; exact gu_self _ _ _
  refine lv_dup C.1.1 C.1.2.1 dX4_init_38 rfl ?_
  refine g_cv C G (g_runI (As := []) (rest := [.ref (ad_134 (po + 7)), .int (iz 5), .ref (ad_134 (po + 1))]) (pos := po + 7) C G (c_X3_init l κ B (po + 8) ad_134 g_136 (po + 7) 0 0 0 0 (by omega) hc_146) (cwI 0 C.1.2.2.2.2 gX4_init_X3_init rfl rfl rfl (C.1.2.2.2.2 _ (by decide +kernel : Cond.initialized RX3 ∈ wsX4_init)) (C.1.2.2.2.2 _ (by decide +kernel : Cond.methodLink RX4 21 yX3_init ∈ wsX4_init)) (C.1.2.2.2.2 _ (by decide +kernel : Cond.instanceMethod yX3_init ∈ wsX4_init)) rfl (by decide +kernel) ⟨Nat.le_of_ble_eq_true rfl, Nat.le_of_ble_eq_true rfl⟩) rfl hl rfl (Nat.le_of_ble_eq_true rfl) dX4_init_39 ⟨Nat.le_of_ble_eq_true rfl, Nat.le_of_ble_eq_true rfl⟩) (fun g9 H locs hw G => ?_)
  subst hw
  obtain ⟨g_147, hg_148⟩ : ∃ g9, g9 = va_up g_136 (po + 7) (.inr (3, [.int (iz 5), .int (iz 0), .int (iz 0), .int (iz 0)])) := ⟨_, rfl⟩
  rw [← hg_148] at G
  have hc_149 : g_147 po = .inr (4, [.int (iz 24), .int (iz 0), .int (iz 0), .ref (ad_134 (po + 1)), .null, .null]) := by rw [hg_148, gu_ne (by omega)]; exact hc_139
  have hc_150 : g_147 (po + 1) = aL κ 6 (va_up (va_up (va_up (va_up (va_up (fun _ => none) (0 : Int).toNat (some (ad_134 (po + 2)))) (1 : Int).toNat (some (ad_134 (po + 3)))) (2 : Int).toNat (some (ad_134 (po + 4)))) (3 : Int).toNat (some (ad_134 (po + 5)))) (4 : Int).toNat (some (ad_134 (po + 6)))) := by rw [hg_148, gu_ne (by omega)]; exact hc_140
  have hc_151 : g_147 (po + 2) = .inr (3, [.int (iz 5), .int (iz 0), .int (iz 0), .int (iz 0)]) := by rw [hg_148, gu_ne (by omega)]; exact hc_141
  have hc_152 : g_147 (po + 3) = .inr (3, [.int (iz 5), .int (iz 0), .int (iz 0), .int (iz 0)]) := by rw [hg_148, gu_ne (by omega)]; exact hc_142
  have hc_153 : g_147 (po + 4) = .inr (3, [.int (iz 5), .int (iz 0), .int (iz 0), .int (iz 0)]) := by rw [hg_148, gu_ne (by omega)]; exact hc_143
  have hc_154 : g_147 (po + 5) = .inr (3, [.int (iz 5), .int (iz 0), .int (iz 0), .int (iz 0)]) := by rw [hg_148, gu_ne (by omega)]; exact hc_144
  have hc_155 : g_147 (po + 6) = .inr (3, [.int (iz 5), .int (iz 0), .int (iz 0), .int (iz 0)]) := by rw [hg_148, gu_ne (by omega)]; exact hc_145
  have hc_156 : g_147 (po + 7) = .inr (3, [.int (iz 5), .int (iz 0), .int (iz 0), .int (iz 0)]) := by rw [hg_148]; exact gu_self _ _ _
  refine g_aastL C G (pos := po + 1) (q := po + 7) (by omega) hc_150 (by omega) hc_156 (by decide) (by decide) (by decide) dX4_init_42 (fun H locs G => ?_)
  obtain ⟨g_157, hg_158⟩ : ∃ g9, g9 = va_up g_147 (po + 1) (aL κ 6 (va_up (va_up (va_up (va_up (va_up (va_up (fun _ => none) (0 : Int).toNat (some (ad_134 (po + 2)))) (1 : Int).toNat (some (ad_134 (po + 3)))) (2 : Int).toNat (some (ad_134 (po + 4)))) (3 : Int).toNat (some (ad_134 (po + 5)))) (4 : Int).toNat (some (ad_134 (po + 6)))) (5 : Int).toNat (some (ad_134 (po + 7))))) := ⟨_, rfl⟩
  rw [← hg_158] at G
  have hc_159 : g_157 po = .inr (4, [.int (iz 24), .int (iz 0), .int (iz 0), .ref (ad_134 (po + 1)), .null, .null]) := by rw [hg_158, gu_ne (by omega)]; exact hc_149
  have hc_160 : g_157 (po + 1) = aL κ 6 (va_up (va_up (va_up (va_up (va_up (va_up (fun _ => none) (0 : Int).toNat (some (ad_134 (po + 2)))) (1 : Int).toNat (some (ad_134 (po + 3)))) (2 : Int).toNat (some (ad_134 (po + 4)))) (3 : Int).toNat (some (ad_134 (po + 5)))) (4 : Int).toNat (some (ad_134 (po + 6)))) (5 : Int).toNat (some (ad_134 (po + 7)))) := by rw [hg_158]; exact gu_self _ _ _
  have hc_161 : g_157 (po + 2) = .inr (3, [.int (iz 5), .int (iz 0), .int (iz 0), .int (iz 0)]) := by rw [hg_158, gu_ne (by omega)]; exact hc_151
  have hc_162 : g_157 (po + 3) = .inr (3, [.int (iz 5), .int (iz 0), .int (iz 0), .int (iz 0)]) := by rw [hg_158, gu_ne (by omega)]; exact hc_152
  have hc_163 : g_157 (po + 4) = .inr (3, [.int (iz 5), .int (iz 0), .int (iz 0), .int (iz 0)]) := by rw [hg_158, gu_ne (by omega)]; exact hc_153
  have hc_164 : g_157 (po + 5) = .inr (3, [.int (iz 5), .int (iz 0), .int (iz 0), .int (iz 0)]) := by rw [hg_158, gu_ne (by omega)]; exact hc_154
  have hc_165 : g_157 (po + 6) = .inr (3, [.int (iz 5), .int (iz 0), .int (iz 0), .int (iz 0)]) := by rw [hg_158, gu_ne (by omega)]; exact hc_155
  have hc_166 : g_157 (po + 7) = .inr (3, [.int (iz 5), .int (iz 0), .int (iz 0), .int (iz 0)]) := by rw [hg_158, gu_ne (by omega)]; exact hc_156
  refine lv_iinc (v := iz 6) (lv' := [(1, .int (iz 6)), (0, .ref (ad_134 po))]) C.1.1 C.1.2.1 dX4_init_43 hl (k := 0) rfl (g_inc (by omega)) (by decide) rfl (fun ls hl => ?_)
  refine g_goto (tgt := 21) C dX4_init_46 (by decide) ?_
  refine g_iload_n C dX4_init_21 rfl hl 0 rfl ?_
  refine g_aload_n C dX4_init_22 rfl hl 1 rfl ?_
  refine g_get C G (pos := po) fX4_init_17 (by omega) hc_159 rfl dX4_init_23 ?_
  refine g_alenL C G (pos := po + 1) (by omega) hc_160 dX4_init_26 ?_
  show W p l e _ s m args below meth c _ _ _ _ _ (F0 m _ ls (.int (iz 6) :: _))
  refine g_icmp_ge (tgt := 49) C (by decide) (by decide) dX4_init_27 (by decide) (fun _ => ?_) (fun c9 => absurd c9 (by decide))
  refine g_aload_n C dX4_init_49 rfl hl 1 rfl ?_
  refine g_bipush (a := 8) C dX4_init_50 (by decide) ?_
  refine g_newI C G (n := po + 8) 8 rfl (Nat.le_of_ble_eq_true rfl) (by decide +kernel : Cond.arrayClass .int ∈ wsX4_init) (Nat.le_of_ble_eq_true rfl) (Nat.le_of_ble_eq_true rfl) dX4_init_52 (fun (ad_167 : Nat → Nat) H hE_168 C G => ?_)
  replace C : gC p c cX4_init 2 s m args wsX4_init RX4 κ B (po + 9) ad_167 := C
  obtain ⟨g_169, hg_170⟩ : ∃ g9, g9 = va_up g_157 (po + 8) (aI κ 8 (fun _ => 0)) := ⟨_, rfl⟩
  rw [← hg_170] at G
  replace G := (show gG κ B (po + 9) ad_167 s g_169 H _ from G)
  have hE0_171 : ∀ k, k < po + 1 → ad_167 k = ad k := fun k hk => (hE_168 k (by omega)).trans (hE0_138 k hk)
  rw [← hE_168 po (by omega)] at hl
  rw [← hE_168 po (by omega)]
  have hc_172 : g_169 po = .inr (4, [.int (iz 24), .int (iz 0), .int (iz 0), .ref (ad_167 (po + 1)), .null, .null]) := by have q9 := hc_159; rw [← hE_168 (po + 1) (by omega)] at q9; rw [hg_170, gu_ne (by omega)]; exact q9
  have hc_173 : g_169 (po + 1) = aL κ 6 (va_up (va_up (va_up (va_up (va_up (va_up (fun _ => none) (0 : Int).toNat (some (ad_167 (po + 2)))) (1 : Int).toNat (some (ad_167 (po + 3)))) (2 : Int).toNat (some (ad_167 (po + 4)))) (3 : Int).toNat (some (ad_167 (po + 5)))) (4 : Int).toNat (some (ad_167 (po + 6)))) (5 : Int).toNat (some (ad_167 (po + 7)))) := by have q9 := hc_160; rw [← hE_168 (po + 2) (by omega), ← hE_168 (po + 3) (by omega), ← hE_168 (po + 4) (by omega), ← hE_168 (po + 5) (by omega), ← hE_168 (po + 6) (by omega), ← hE_168 (po + 7) (by omega)] at q9; rw [hg_170, gu_ne (by omega)]; exact q9
  have hc_174 : g_169 (po + 2) = .inr (3, [.int (iz 5), .int (iz 0), .int (iz 0), .int (iz 0)]) := by have q9 := hc_161; rw [hg_170, gu_ne (by omega)]; exact q9
  have hc_175 : g_169 (po + 3) = .inr (3, [.int (iz 5), .int (iz 0), .int (iz 0), .int (iz 0)]) := by have q9 := hc_162; rw [hg_170, gu_ne (by omega)]; exact q9
  have hc_176 : g_169 (po + 4) = .inr (3, [.int (iz 5), .int (iz 0), .int (iz 0), .int (iz 0)]) := by have q9 := hc_163; rw [hg_170, gu_ne (by omega)]; exact q9
  have hc_177 : g_169 (po + 5) = .inr (3, [.int (iz 5), .int (iz 0), .int (iz 0), .int (iz 0)]) := by have q9 := hc_164; rw [hg_170, gu_ne (by omega)]; exact q9
  have hc_178 : g_169 (po + 6) = .inr (3, [.int (iz 5), .int (iz 0), .int (iz 0), .int (iz 0)]) := by have q9 := hc_165; rw [hg_170, gu_ne (by omega)]; exact q9
  have hc_179 : g_169 (po + 7) = .inr (3, [.int (iz 5), .int (iz 0), .int (iz 0), .int (iz 0)]) := by have q9 := hc_166; rw [hg_170, gu_ne (by omega)]; exact q9
  have hc_180 : g_169 (po + 8) = aI κ 8 (fun _ => 0) := by rw [hg_170]; exact gu_self _ _ _
  refine g_putF C G hnm (pos := po) (fs' := [.int (iz 24), .int (iz 0), .int (iz 0), .ref (ad_167 (po + 1)), .ref (ad_167 (po + 8)), .null]) fwX4_init_22 (by omega) hc_172 (Nat.le_of_ble_eq_true rfl) rfl rfl rfl dX4_init_54 (fun H locs G => ?_)
  obtain ⟨g_181, hg_182⟩ : ∃ g9, g9 = va_up g_169 po (.inr (4, [.int (iz 24), .int (iz 0), .int (iz 0), .ref (ad_167 (po + 1)), .ref (ad_167 (po + 8)), .null])) := ⟨_, rfl⟩
  rw [← hg_182] at G
  have hc_183 : g_181 po = .inr (4, [.int (iz 24), .int (iz 0), .int (iz 0), .ref (ad_167 (po + 1)), .ref (ad_167 (po + 8)), .null]) := by rw [hg_182]; exact gu_self _ _ _
  have hc_184 : g_181 (po + 1) = aL κ 6 (va_up (va_up (va_up (va_up (va_up (va_up (fun _ => none) (0 : Int).toNat (some (ad_167 (po + 2)))) (1 : Int).toNat (some (ad_167 (po + 3)))) (2 : Int).toNat (some (ad_167 (po + 4)))) (3 : Int).toNat (some (ad_167 (po + 5)))) (4 : Int).toNat (some (ad_167 (po + 6)))) (5 : Int).toNat (some (ad_167 (po + 7)))) := by rw [hg_182, gu_ne (by omega)]; exact hc_173
  have hc_185 : g_181 (po + 2) = .inr (3, [.int (iz 5), .int (iz 0), .int (iz 0), .int (iz 0)]) := by rw [hg_182, gu_ne (by omega)]; exact hc_174
  have hc_186 : g_181 (po + 3) = .inr (3, [.int (iz 5), .int (iz 0), .int (iz 0), .int (iz 0)]) := by rw [hg_182, gu_ne (by omega)]; exact hc_175
  have hc_187 : g_181 (po + 4) = .inr (3, [.int (iz 5), .int (iz 0), .int (iz 0), .int (iz 0)]) := by rw [hg_182, gu_ne (by omega)]; exact hc_176
  have hc_188 : g_181 (po + 5) = .inr (3, [.int (iz 5), .int (iz 0), .int (iz 0), .int (iz 0)]) := by rw [hg_182, gu_ne (by omega)]; exact hc_177
  have hc_189 : g_181 (po + 6) = .inr (3, [.int (iz 5), .int (iz 0), .int (iz 0), .int (iz 0)]) := by rw [hg_182, gu_ne (by omega)]; exact hc_178
  have hc_190 : g_181 (po + 7) = .inr (3, [.int (iz 5), .int (iz 0), .int (iz 0), .int (iz 0)]) := by rw [hg_182, gu_ne (by omega)]; exact hc_179
  have hc_191 : g_181 (po + 8) = aI κ 8 (fun _ => 0) := by rw [hg_182, gu_ne (by omega)]; exact hc_180
  refine g_aload_n C dX4_init_57 rfl hl 1 rfl ?_
  refine g_bipush (a := 8) C dX4_init_58 (by decide) ?_
  refine g_newI C G (n := po + 9) 8 rfl (Nat.le_of_ble_eq_true rfl) (by decide +kernel : Cond.arrayClass .int ∈ wsX4_init) (Nat.le_of_ble_eq_true rfl) (Nat.le_of_ble_eq_true rfl) dX4_init_60 (fun (ad_192 : Nat → Nat) H hE_193 C G => ?_)
  replace C : gC p c cX4_init 2 s m args wsX4_init RX4 κ B (po + 10) ad_192 := C
  obtain ⟨g_194, hg_195⟩ : ∃ g9, g9 = va_up g_181 (po + 9) (aI κ 8 (fun _ => 0)) := ⟨_, rfl⟩
  rw [← hg_195] at G
  replace G := (show gG κ B (po + 10) ad_192 s g_194 H _ from G)
  have hE0_196 : ∀ k, k < po + 1 → ad_192 k = ad k := fun k hk => (hE_193 k (by omega)).trans (hE0_171 k hk)
  rw [← hE_193 po (by omega)] at hl
  rw [← hE_193 po (by omega)]
  have hc_197 : g_194 po = .inr (4, [.int (iz 24), .int (iz 0), .int (iz 0), .ref (ad_192 (po + 1)), .ref (ad_192 (po + 8)), .null]) := by have q9 := hc_183; rw [← hE_193 (po + 1) (by omega), ← hE_193 (po + 8) (by omega)] at q9; rw [hg_195, gu_ne (by omega)]; exact q9
  have hc_198 : g_194 (po + 1) = aL κ 6 (va_up (va_up (va_up (va_up (va_up (va_up (fun _ => none) (0 : Int).toNat (some (ad_192 (po + 2)))) (1 : Int).toNat (some (ad_192 (po + 3)))) (2 : Int).toNat (some (ad_192 (po + 4)))) (3 : Int).toNat (some (ad_192 (po + 5)))) (4 : Int).toNat (some (ad_192 (po + 6)))) (5 : Int).toNat (some (ad_192 (po + 7)))) := by have q9 := hc_184; rw [← hE_193 (po + 2) (by omega), ← hE_193 (po + 3) (by omega), ← hE_193 (po + 4) (by omega), ← hE_193 (po + 5) (by omega), ← hE_193 (po + 6) (by omega), ← hE_193 (po + 7) (by omega)] at q9; rw [hg_195, gu_ne (by omega)]; exact q9
  have hc_199 : g_194 (po + 2) = .inr (3, [.int (iz 5), .int (iz 0), .int (iz 0), .int (iz 0)]) := by have q9 := hc_185; rw [hg_195, gu_ne (by omega)]; exact q9
  have hc_200 : g_194 (po + 3) = .inr (3, [.int (iz 5), .int (iz 0), .int (iz 0), .int (iz 0)]) := by have q9 := hc_186; rw [hg_195, gu_ne (by omega)]; exact q9
  have hc_201 : g_194 (po + 4) = .inr (3, [.int (iz 5), .int (iz 0), .int (iz 0), .int (iz 0)]) := by have q9 := hc_187; rw [hg_195, gu_ne (by omega)]; exact q9
  have hc_202 : g_194 (po + 5) = .inr (3, [.int (iz 5), .int (iz 0), .int (iz 0), .int (iz 0)]) := by have q9 := hc_188; rw [hg_195, gu_ne (by omega)]; exact q9
  have hc_203 : g_194 (po + 6) = .inr (3, [.int (iz 5), .int (iz 0), .int (iz 0), .int (iz 0)]) := by have q9 := hc_189; rw [hg_195, gu_ne (by omega)]; exact q9
  have hc_204 : g_194 (po + 7) = .inr (3, [.int (iz 5), .int (iz 0), .int (iz 0), .int (iz 0)]) := by have q9 := hc_190; rw [hg_195, gu_ne (by omega)]; exact q9
  have hc_205 : g_194 (po + 8) = aI κ 8 (fun _ => 0) := by have q9 := hc_191; rw [hg_195, gu_ne (by omega)]; exact q9
  have hc_206 : g_194 (po + 9) = aI κ 8 (fun _ => 0) := by rw [hg_195]; exact gu_self _ _ _
  refine g_putF C G hnm (pos := po) (fs' := [.int (iz 24), .int (iz 0), .int (iz 0), .ref (ad_192 (po + 1)), .ref (ad_192 (po + 8)), .ref (ad_192 (po + 9))]) fwX4_init_26 (by omega) hc_197 (Nat.le_of_ble_eq_true rfl) rfl rfl rfl dX4_init_62 (fun H locs G => ?_)
  obtain ⟨g_207, hg_208⟩ : ∃ g9, g9 = va_up g_194 po (.inr (4, [.int (iz 24), .int (iz 0), .int (iz 0), .ref (ad_192 (po + 1)), .ref (ad_192 (po + 8)), .ref (ad_192 (po + 9))])) := ⟨_, rfl⟩
  rw [← hg_208] at G
  have hc_209 : g_207 po = .inr (4, [.int (iz 24), .int (iz 0), .int (iz 0), .ref (ad_192 (po + 1)), .ref (ad_192 (po + 8)), .ref (ad_192 (po + 9))]) := by rw [hg_208]; exact gu_self _ _ _
  have hc_210 : g_207 (po + 1) = aL κ 6 (va_up (va_up (va_up (va_up (va_up (va_up (fun _ => none) (0 : Int).toNat (some (ad_192 (po + 2)))) (1 : Int).toNat (some (ad_192 (po + 3)))) (2 : Int).toNat (some (ad_192 (po + 4)))) (3 : Int).toNat (some (ad_192 (po + 5)))) (4 : Int).toNat (some (ad_192 (po + 6)))) (5 : Int).toNat (some (ad_192 (po + 7)))) := by rw [hg_208, gu_ne (by omega)]; exact hc_198
  have hc_211 : g_207 (po + 2) = .inr (3, [.int (iz 5), .int (iz 0), .int (iz 0), .int (iz 0)]) := by rw [hg_208, gu_ne (by omega)]; exact hc_199
  have hc_212 : g_207 (po + 3) = .inr (3, [.int (iz 5), .int (iz 0), .int (iz 0), .int (iz 0)]) := by rw [hg_208, gu_ne (by omega)]; exact hc_200
  have hc_213 : g_207 (po + 4) = .inr (3, [.int (iz 5), .int (iz 0), .int (iz 0), .int (iz 0)]) := by rw [hg_208, gu_ne (by omega)]; exact hc_201
  have hc_214 : g_207 (po + 5) = .inr (3, [.int (iz 5), .int (iz 0), .int (iz 0), .int (iz 0)]) := by rw [hg_208, gu_ne (by omega)]; exact hc_202
  have hc_215 : g_207 (po + 6) = .inr (3, [.int (iz 5), .int (iz 0), .int (iz 0), .int (iz 0)]) := by rw [hg_208, gu_ne (by omega)]; exact hc_203
  have hc_216 : g_207 (po + 7) = .inr (3, [.int (iz 5), .int (iz 0), .int (iz 0), .int (iz 0)]) := by rw [hg_208, gu_ne (by omega)]; exact hc_204
  have hc_217 : g_207 (po + 8) = aI κ 8 (fun _ => 0) := by rw [hg_208, gu_ne (by omega)]; exact hc_205
  have hc_218 : g_207 (po + 9) = aI κ 8 (fun _ => 0) := by rw [hg_208, gu_ne (by omega)]; exact hc_206
  refine g_vretG C G hr hlk (Nat.le_of_ble_eq_true rfl) (Nat.le_of_ble_eq_true rfl) dX4_init_65 hE0_196 ?_
  refine ⟨⟨hc_209, ?_, fun j hj => ?_, ?_, ?_⟩, fun q hq => by
      rw [hg_208, gu_ne (by omega)]
      rw [hg_195, gu_ne (by omega)]
      rw [hg_182, gu_ne (by omega)]
      rw [hg_170, gu_ne (by omega)]
      rw [hg_158, gu_ne (by omega)]
      rw [hg_148, gu_ne (by omega)]
      rw [hg_137, gu_ne (by omega)]
      rw [hg_126, gu_ne (by omega)]
      rw [hg_117, gu_ne (by omega)]
      rw [hg_107, gu_ne (by omega)]
      rw [hg_97, gu_ne (by omega)]
      rw [hg_89, gu_ne (by omega)]
      rw [hg_80, gu_ne (by omega)]
      rw [hg_71, gu_ne (by omega)]
      rw [hg_64, gu_ne (by omega)]
      rw [hg_56, gu_ne (by omega)]
      rw [hg_48, gu_ne (by omega)]
      rw [hg_42, gu_ne (by omega)]
      rw [hg_35, gu_ne (by omega)]
      rw [hg_28, gu_ne (by omega)]
      rw [hg_23, gu_ne (by omega)]
      rw [hg_17, gu_ne (by omega)]
      rw [hg_11, gu_ne (by omega)]
      rw [hg_7, gu_ne (by omega)]
      rw [hg_2, gu_ne (by omega)]
      try rfl⟩
  · exact hc_210.trans (congrArg (aL κ 6) (row6 ad_192 po))
  · rw [(v00_l hj).1, (v00_l hj).2.1, (v00_l hj).2.2.1, (v00_l hj).2.2.2]
    have h9 : j = 0 ∨ j = 1 ∨ j = 2 ∨ j = 3 ∨ j = 4 ∨ j = 5 := by omega
    rcases h9 with rfl | rfl | rfl | rfl | rfl | rfl
    · exact hc_211
    · exact hc_212
    · exact hc_213
    · exact hc_214
    · exact hc_215
    · exact hc_216
  · exact hc_217.trans (aI_congr (fun k => (v00_s (by omega)).symm))
  · exact hc_218.trans (aI_congr (fun k => (v00_s (by omega)).symm))
theorem fwX2_init_11 : gFldW wsX2_init RX2 11 2 0 (.array (.object "RosettePlate$Plate")) true := ⟨RX2, TX2, 3, tyX2, rfl, by decide, by decide +kernel, by decide +kernel, tyX2_ok, nmX2, rfl, by decide +kernel, by decide +kernel⟩
theorem fX2_init_11 : gFld wsX2_init RX2 11 2 0 := ⟨RX2, TX2, 3, rfl, by decide, by decide +kernel, by decide +kernel⟩
theorem nwX2_init_4 : ∀ w ∈ u_ws RX4 TX4 6, w ∈ wsX2_init := by decide +kernel
set_option maxHeartbeats 4000000 in
set_option maxRecDepth 100000 in
theorem c_X2_init (l : Launch) (κ : gKap) (B : Nat) (ad : Nat → Nat) (g : Nat → va_E) (ho : Nat) (he : g ho = .inr (2, [.null, .int (iz 0), .int (iz 0)])) : Met l yX2_init wsX2_init ({ frames := 3, cells := 141, slots := 742, locals := 53 }) (gPreA κ B (ho + 1) ad g [.ref (ad ho)]) (gQg κ B (ho + 1) (ho + 142) ad (fun a9 g' => isHi κ a9 g' ho 0 0 (fun _ => (0, v00)) ∧ ∀ q, q < ho → g' q = g q)) 141 742 (gFree B) := by
  refine g_metA RX2 (cc := cX2_init) (maxL := 2) (ret := none) (by decide) rfl rfl (Nat.le_of_ble_eq_true rfl) ?_
  intro p e s m args below meth c C hr hlk hnm AO G ls hl
  have hl : lv_has ls 2 [(0, .ref (ad ho))] := hl
  refine g_aload_n C dX2_init_0 rfl hl 0 rfl ?_
  refine W.objInit C.1.1 C.1.2.1 C.1.2.2.2.1 (C.1.2.2.2.2 _ (by decide +kernel : Cond.methodLink RX2 3 objectInit ∈ wsX2_init)) (C.1.2.2.2.2 _ (by decide +kernel : Cond.instanceMethod objectInit ∈ wsX2_init)) (C.1.2.2.2.2 _ (by decide +kernel : Cond.code objectInit ⟨#[0xb1]⟩ 1 none ∈ wsX2_init)) rfl (by rw [C.1.2.2.1]; exact hl.1) rfl dX2_init_1 (Nat.le_of_ble_eq_true rfl) (Nat.le_of_ble_eq_true rfl) ?_
  refine W.eq (g2 := F0 m 4 ls []) rfl ?_
  refine g_aload_n C dX2_init_4 rfl hl 0 rfl ?_
  refine g_bipush (a := 14) C dX2_init_5 (by decide) ?_
  refine g_anewPl C G AO (n := ho + 1) 14 rfl (Nat.le_of_ble_eq_true rfl) (by decide +kernel : Cond.classLink RX2 9 RX4 ∈ wsX2_init) (Nat.le_of_ble_eq_true rfl) (Nat.le_of_ble_eq_true rfl) dX2_init_7 (fun (ad_1 : Nat → Nat) H hE_2 C G => ?_)
  replace C : gC p c cX2_init 2 s m args wsX2_init RX2 κ B (ho + 2) ad_1 := C
  obtain ⟨g_3, hg_4⟩ : ∃ g9, g9 = va_up g (ho + 1) (aPl κ 14 (fun _ => none)) := ⟨_, rfl⟩
  rw [← hg_4] at G
  replace G := (show gG κ B (ho + 2) ad_1 s g_3 H _ from G)
  rw [← hE_2 ho (by omega)] at hl
  rw [← hE_2 ho (by omega)]
  have hc_5 : g_3 ho = .inr (2, [.null, .int (iz 0), .int (iz 0)]) := by have q9 := he; rw [hg_4, gu_ne (by omega)]; exact q9
  have hc_6 : g_3 (ho + 1) = aPl κ 14 (fun _ => none) := by rw [hg_4]; exact gu_self _ _ _
  refine g_putF C G hnm (pos := ho) (fs' := [.ref (ad_1 (ho + 1)), .int (iz 0), .int (iz 0)]) fwX2_init_11 (by omega) hc_5 (Nat.le_of_ble_eq_true rfl) rfl rfl rfl dX2_init_10 (fun H locs G => ?_)
  obtain ⟨g_7, hg_8⟩ : ∃ g9, g9 = va_up g_3 ho (.inr (2, [.ref (ad_1 (ho + 1)), .int (iz 0), .int (iz 0)])) := ⟨_, rfl⟩
  rw [← hg_8] at G
  have hc_9 : g_7 ho = .inr (2, [.ref (ad_1 (ho + 1)), .int (iz 0), .int (iz 0)]) := by rw [hg_8]; exact gu_self _ _ _
  have hc_10 : g_7 (ho + 1) = aPl κ 14 (fun _ => none) := by rw [hg_8, gu_ne (by omega)]; exact hc_6
  refine g_iconst (a := 0) C dX2_init_13 rfl ?_
  refine lv_istore_n (lv' := [(1, .int (iz 0)), (0, .ref (ad_1 ho))]) C.1.1 C.1.2.1 dX2_init_14 rfl hl (by decide) rfl (fun ls hl => ?_)
  refine g_iload_n C dX2_init_15 rfl hl 0 rfl ?_
  refine g_aload_n C dX2_init_16 rfl hl 1 rfl ?_
  refine g_get C G (pos := ho) fX2_init_11 (by omega) hc_9 rfl dX2_init_17 ?_
  refine g_alenPl C G (pos := ho + 1) (by omega) hc_10 dX2_init_20 ?_
  show W p l e _ s m args below meth c _ _ _ _ _ (F0 m _ ls (.int (iz 14) :: _))
  refine g_icmp_ge (tgt := 43) C (by decide) (by decide) dX2_init_21 (by decide) (fun c9 => absurd c9 (by decide)) (fun _ => ?_)
  refine g_aload_n C dX2_init_24 rfl hl 1 rfl ?_
  refine g_get C G (pos := ho) fX2_init_11 (by omega) hc_9 rfl dX2_init_25 ?_
  refine g_iload_n C dX2_init_28 rfl hl 0 rfl ?_
  refine g_new C G (n := ho + 2) (fs := [.int (iz 0), .int (iz 0), .int (iz 0), .null, .null, .null]) (ty := tyX4) (rfl : vwCl[4]? = some (RX4, TX4, 6)) nwX2_init_4 tyX4_ok (by decide +kernel : Cond.classLink RX2 9 RX4 ∈ wsX2_init) (by decide +kernel : Cond.instantiable RX4 6 ∈ wsX2_init) (by decide +kernel : Cond.initialized RX4 ∈ wsX2_init) (fun j hj => by rcases j with _ | _ | _ | _ | _ | _ | j <;> first | rfl | omega) (Nat.le_of_ble_eq_true rfl) (Nat.le_of_ble_eq_true rfl) dX2_init_29 (fun (ad_11 : Nat → Nat) H hE_12 C G => ?_)
  replace C : gC p c cX2_init 2 s m args wsX2_init RX2 κ B (ho + 3) ad_11 := C
  obtain ⟨g_13, hg_14⟩ : ∃ g9, g9 = va_up g_7 (ho + 2) (.inr (4, [.int (iz 0), .int (iz 0), .int (iz 0), .null, .null, .null])) := ⟨_, rfl⟩
  rw [← hg_14] at G
  replace G := (show gG κ B (ho + 3) ad_11 s g_13 H _ from G)
  have hE0_15 : ∀ k, k < ho + 1 → ad_11 k = ad k := fun k hk => (hE_12 k (by omega)).trans (hE_2 k hk)
  rw [← hE_12 ho (by omega)] at hl
  rw [← hE_12 (ho + 1) (by omega)]
  have hc_16 : g_13 ho = .inr (2, [.ref (ad_11 (ho + 1)), .int (iz 0), .int (iz 0)]) := by have q9 := hc_9; rw [← hE_12 (ho + 1) (by omega)] at q9; rw [hg_14, gu_ne (by omega)]; exact q9
  have hc_17 : g_13 (ho + 1) = aPl κ 14 (fun _ => none) := by have q9 := hc_10; rw [hg_14, gu_ne (by omega)]; exact q9
  have hc_18 : g_13 (ho + 2) = .inr (4, [.int (iz 0), .int (iz 0), .int (iz 0), .null, .null, .null]) := by rw [hg_14]; exact gu_self _ _ _
  refine lv_dup C.1.1 C.1.2.1 dX2_init_32 rfl ?_
  refine g_cvG (n' := ho + 12) C G (g_runIA (As := []) (rest := [.ref (ad_11 (ho + 2)), .int (iz 0), .ref (ad_11 (ho + 1))]) (pos := ho + 2) C G AO (c_X4_init l κ B ad_11 g_13 (ho + 2) hc_18) (cwI 0 C.1.2.2.2.2 gX2_init_X4_init rfl rfl rfl (C.1.2.2.2.2 _ (by decide +kernel : Cond.initialized RX4 ∈ wsX2_init)) (C.1.2.2.2.2 _ (by decide +kernel : Cond.methodLink RX2 17 yX4_init ∈ wsX2_init)) (C.1.2.2.2.2 _ (by decide +kernel : Cond.instanceMethod yX4_init ∈ wsX2_init)) rfl (by decide +kernel) ⟨Nat.le_of_ble_eq_true rfl, Nat.le_of_ble_eq_true rfl⟩) rfl hl rfl (Nat.le_of_ble_eq_true rfl) dX2_init_33 ⟨Nat.le_of_ble_eq_true rfl, Nat.le_of_ble_eq_true rfl⟩) (fun ad_19 g_20 H locs hE_21 hw_22 C G => ?_)
  have hE0_23 : ∀ k, k < ho + 1 → ad_19 k = ad k := fun k hk => (hE_21 k (by omega)).trans (hE0_15 k hk)
  rw [← hE_21 ho (by omega)] at hl
  rw [← hE_21 (ho + 2) (by omega), ← hE_21 (ho + 1) (by omega)]
  have hc_24 : g_20 ho = .inr (2, [.ref (ad_19 (ho + 1)), .int (iz 0), .int (iz 0)]) := by have q9 := hc_16; rw [← hE_21 (ho + 1) (by omega)] at q9; exact (hw_22.2 _ (by omega)).trans q9
  have hc_25 : g_20 (ho + 1) = aPl κ 14 (fun _ => none) := by have q9 := hc_17; exact (hw_22.2 _ (by omega)).trans q9
  refine g_aastPl C G (pos := ho + 1) (q := ho + 2) (by omega) hc_25 (by omega) hw_22.1.1 (by decide) (by decide) (by decide) dX2_init_36 (fun H locs G => ?_)
  obtain ⟨g_26, hg_27⟩ : ∃ g9, g9 = va_up g_20 (ho + 1) (aPl κ 14 (va_up (fun _ => none) (0 : Int).toNat (some (ad_19 (ho + 2))))) := ⟨_, rfl⟩
  rw [← hg_27] at G
  have hc_28 : g_26 ho = .inr (2, [.ref (ad_19 (ho + 1)), .int (iz 0), .int (iz 0)]) := by rw [hg_27, gu_ne (by omega)]; exact hc_24
  have hc_29 : g_26 (ho + 1) = aPl κ 14 (va_up (fun _ => none) (0 : Int).toNat (some (ad_19 (ho + 2)))) := by rw [hg_27]; exact gu_self _ _ _
  have hf_30 : isPl κ ad_19 g_26 (ho + 2) 0 v00 := hw_22.1.grow (fun k hk => rfl) (fun q q0 q1 => by rw [hg_27]; exact gu_ne (by omega))
  refine lv_iinc (v := iz 1) (lv' := [(1, .int (iz 1)), (0, .ref (ad_19 ho))]) C.1.1 C.1.2.1 dX2_init_37 hl (k := 0) rfl (g_inc (by omega)) (by decide) rfl (fun ls hl => ?_)
  refine g_goto (tgt := 15) C dX2_init_40 (by decide) ?_
  refine g_iload_n C dX2_init_15 rfl hl 0 rfl ?_
  refine g_aload_n C dX2_init_16 rfl hl 1 rfl ?_
  refine g_get C G (pos := ho) fX2_init_11 (by omega) hc_28 rfl dX2_init_17 ?_
  refine g_alenPl C G (pos := ho + 1) (by omega) hc_29 dX2_init_20 ?_
  show W p l e _ s m args below meth c _ _ _ _ _ (F0 m _ ls (.int (iz 14) :: _))
  refine g_icmp_ge (tgt := 43) C (by decide) (by decide) dX2_init_21 (by decide) (fun c9 => absurd c9 (by decide)) (fun _ => ?_)
  refine g_aload_n C dX2_init_24 rfl hl 1 rfl ?_
  refine g_get C G (pos := ho) fX2_init_11 (by omega) hc_28 rfl dX2_init_25 ?_
  refine g_iload_n C dX2_init_28 rfl hl 0 rfl ?_
  refine g_new C G (n := ho + 12) (fs := [.int (iz 0), .int (iz 0), .int (iz 0), .null, .null, .null]) (ty := tyX4) (rfl : vwCl[4]? = some (RX4, TX4, 6)) nwX2_init_4 tyX4_ok (by decide +kernel : Cond.classLink RX2 9 RX4 ∈ wsX2_init) (by decide +kernel : Cond.instantiable RX4 6 ∈ wsX2_init) (by decide +kernel : Cond.initialized RX4 ∈ wsX2_init) (fun j hj => by rcases j with _ | _ | _ | _ | _ | _ | j <;> first | rfl | omega) (Nat.le_of_ble_eq_true rfl) (Nat.le_of_ble_eq_true rfl) dX2_init_29 (fun (ad_31 : Nat → Nat) H hE_32 C G => ?_)
  replace C : gC p c cX2_init 2 s m args wsX2_init RX2 κ B (ho + 13) ad_31 := C
  obtain ⟨g_33, hg_34⟩ : ∃ g9, g9 = va_up g_26 (ho + 12) (.inr (4, [.int (iz 0), .int (iz 0), .int (iz 0), .null, .null, .null])) := ⟨_, rfl⟩
  rw [← hg_34] at G
  replace G := (show gG κ B (ho + 13) ad_31 s g_33 H _ from G)
  have hE0_35 : ∀ k, k < ho + 1 → ad_31 k = ad k := fun k hk => (hE_32 k (by omega)).trans (hE0_23 k hk)
  rw [← hE_32 ho (by omega)] at hl
  rw [← hE_32 (ho + 1) (by omega)]
  have hc_36 : g_33 ho = .inr (2, [.ref (ad_31 (ho + 1)), .int (iz 0), .int (iz 0)]) := by have q9 := hc_28; rw [← hE_32 (ho + 1) (by omega)] at q9; rw [hg_34, gu_ne (by omega)]; exact q9
  have hc_37 : g_33 (ho + 1) = aPl κ 14 (va_up (fun _ => none) (0 : Int).toNat (some (ad_31 (ho + 2)))) := by have q9 := hc_29; rw [← hE_32 (ho + 2) (by omega)] at q9; rw [hg_34, gu_ne (by omega)]; exact q9
  have hc_38 : g_33 (ho + 12) = .inr (4, [.int (iz 0), .int (iz 0), .int (iz 0), .null, .null, .null]) := by rw [hg_34]; exact gu_self _ _ _
  have hf_39 : isPl κ ad_31 g_33 (ho + 2) 0 v00 := hf_30.grow (fun k hk => hE_32 k (by omega)) (fun q q0 q1 => by rw [hg_34]; exact gu_ne (by omega))
  refine lv_dup C.1.1 C.1.2.1 dX2_init_32 rfl ?_
  refine g_cvG (n' := ho + 22) C G (g_runIA (As := []) (rest := [.ref (ad_31 (ho + 12)), .int (iz 1), .ref (ad_31 (ho + 1))]) (pos := ho + 12) C G AO (c_X4_init l κ B ad_31 g_33 (ho + 12) hc_38) (cwI 0 C.1.2.2.2.2 gX2_init_X4_init rfl rfl rfl (C.1.2.2.2.2 _ (by decide +kernel : Cond.initialized RX4 ∈ wsX2_init)) (C.1.2.2.2.2 _ (by decide +kernel : Cond.methodLink RX2 17 yX4_init ∈ wsX2_init)) (C.1.2.2.2.2 _ (by decide +kernel : Cond.instanceMethod yX4_init ∈ wsX2_init)) rfl (by decide +kernel) ⟨Nat.le_of_ble_eq_true rfl, Nat.le_of_ble_eq_true rfl⟩) rfl hl rfl (Nat.le_of_ble_eq_true rfl) dX2_init_33 ⟨Nat.le_of_ble_eq_true rfl, Nat.le_of_ble_eq_true rfl⟩) (fun ad_40 g_41 H locs hE_42 hw_43 C G => ?_)
  have hE0_44 : ∀ k, k < ho + 1 → ad_40 k = ad k := fun k hk => (hE_42 k (by omega)).trans (hE0_35 k hk)
  rw [← hE_42 ho (by omega)] at hl
  rw [← hE_42 (ho + 12) (by omega), ← hE_42 (ho + 1) (by omega)]
  have hc_45 : g_41 ho = .inr (2, [.ref (ad_40 (ho + 1)), .int (iz 0), .int (iz 0)]) := by have q9 := hc_36; rw [← hE_42 (ho + 1) (by omega)] at q9; exact (hw_43.2 _ (by omega)).trans q9
  have hc_46 : g_41 (ho + 1) = aPl κ 14 (va_up (fun _ => none) (0 : Int).toNat (some (ad_40 (ho + 2)))) := by have q9 := hc_37; rw [← hE_42 (ho + 2) (by omega)] at q9; exact (hw_43.2 _ (by omega)).trans q9
  have hf_47 : isPl κ ad_40 g_41 (ho + 2) 0 v00 := hf_39.grow (fun k hk => hE_42 k (by omega)) (fun q q0 q1 => hw_43.2 _ (by omega))
  refine g_aastPl C G (pos := ho + 1) (q := ho + 12) (by omega) hc_46 (by omega) hw_43.1.1 (by decide) (by decide) (by decide) dX2_init_36 (fun H locs G => ?_)
  obtain ⟨g_48, hg_49⟩ : ∃ g9, g9 = va_up g_41 (ho + 1) (aPl κ 14 (va_up (va_up (fun _ => none) (0 : Int).toNat (some (ad_40 (ho + 2)))) (1 : Int).toNat (some (ad_40 (ho + 12))))) := ⟨_, rfl⟩
  rw [← hg_49] at G
  have hc_50 : g_48 ho = .inr (2, [.ref (ad_40 (ho + 1)), .int (iz 0), .int (iz 0)]) := by rw [hg_49, gu_ne (by omega)]; exact hc_45
  have hc_51 : g_48 (ho + 1) = aPl κ 14 (va_up (va_up (fun _ => none) (0 : Int).toNat (some (ad_40 (ho + 2)))) (1 : Int).toNat (some (ad_40 (ho + 12)))) := by rw [hg_49]; exact gu_self _ _ _
  have hf_52 : isPl κ ad_40 g_48 (ho + 2) 0 v00 := hf_47.grow (fun k hk => rfl) (fun q q0 q1 => by rw [hg_49]; exact gu_ne (by omega))
  have hf_53 : isPl κ ad_40 g_48 (ho + 12) 0 v00 := hw_43.1.grow (fun k hk => rfl) (fun q q0 q1 => by rw [hg_49]; exact gu_ne (by omega))
  refine lv_iinc (v := iz 2) (lv' := [(1, .int (iz 2)), (0, .ref (ad_40 ho))]) C.1.1 C.1.2.1 dX2_init_37 hl (k := 0) rfl (g_inc (by omega)) (by decide) rfl (fun ls hl => ?_)
  refine g_goto (tgt := 15) C dX2_init_40 (by decide) ?_
  refine g_iload_n C dX2_init_15 rfl hl 0 rfl ?_
  refine g_aload_n C dX2_init_16 rfl hl 1 rfl ?_
  refine g_get C G (pos := ho) fX2_init_11 (by omega) hc_50 rfl dX2_init_17 ?_
  refine g_alenPl C G (pos := ho + 1) (by omega) hc_51 dX2_init_20 ?_
  show W p l e _ s m args below meth c _ _ _ _ _ (F0 m _ ls (.int (iz 14) :: _))
  refine g_icmp_ge (tgt := 43) C (by decide) (by decide) dX2_init_21 (by decide) (fun c9 => absurd c9 (by decide)) (fun _ => ?_)
  refine g_aload_n C dX2_init_24 rfl hl 1 rfl ?_
  refine g_get C G (pos := ho) fX2_init_11 (by omega) hc_50 rfl dX2_init_25 ?_
  refine g_iload_n C dX2_init_28 rfl hl 0 rfl ?_
  refine g_new C G (n := ho + 22) (fs := [.int (iz 0), .int (iz 0), .int (iz 0), .null, .null, .null]) (ty := tyX4) (rfl : vwCl[4]? = some (RX4, TX4, 6)) nwX2_init_4 tyX4_ok (by decide +kernel : Cond.classLink RX2 9 RX4 ∈ wsX2_init) (by decide +kernel : Cond.instantiable RX4 6 ∈ wsX2_init) (by decide +kernel : Cond.initialized RX4 ∈ wsX2_init) (fun j hj => by rcases j with _ | _ | _ | _ | _ | _ | j <;> first | rfl | omega) (Nat.le_of_ble_eq_true rfl) (Nat.le_of_ble_eq_true rfl) dX2_init_29 (fun (ad_54 : Nat → Nat) H hE_55 C G => ?_)
  replace C : gC p c cX2_init 2 s m args wsX2_init RX2 κ B (ho + 23) ad_54 := C
  obtain ⟨g_56, hg_57⟩ : ∃ g9, g9 = va_up g_48 (ho + 22) (.inr (4, [.int (iz 0), .int (iz 0), .int (iz 0), .null, .null, .null])) := ⟨_, rfl⟩
  rw [← hg_57] at G
  replace G := (show gG κ B (ho + 23) ad_54 s g_56 H _ from G)
  have hE0_58 : ∀ k, k < ho + 1 → ad_54 k = ad k := fun k hk => (hE_55 k (by omega)).trans (hE0_44 k hk)
  rw [← hE_55 ho (by omega)] at hl
  rw [← hE_55 (ho + 1) (by omega)]
  have hc_59 : g_56 ho = .inr (2, [.ref (ad_54 (ho + 1)), .int (iz 0), .int (iz 0)]) := by have q9 := hc_50; rw [← hE_55 (ho + 1) (by omega)] at q9; rw [hg_57, gu_ne (by omega)]; exact q9
  have hc_60 : g_56 (ho + 1) = aPl κ 14 (va_up (va_up (fun _ => none) (0 : Int).toNat (some (ad_54 (ho + 2)))) (1 : Int).toNat (some (ad_54 (ho + 12)))) := by have q9 := hc_51; rw [← hE_55 (ho + 2) (by omega), ← hE_55 (ho + 12) (by omega)] at q9; rw [hg_57, gu_ne (by omega)]; exact q9
  have hc_61 : g_56 (ho + 22) = .inr (4, [.int (iz 0), .int (iz 0), .int (iz 0), .null, .null, .null]) := by rw [hg_57]; exact gu_self _ _ _
  have hf_62 : isPl κ ad_54 g_56 (ho + 2) 0 v00 := hf_52.grow (fun k hk => hE_55 k (by omega)) (fun q q0 q1 => by rw [hg_57]; exact gu_ne (by omega))
  have hf_63 : isPl κ ad_54 g_56 (ho + 12) 0 v00 := hf_53.grow (fun k hk => hE_55 k (by omega)) (fun q q0 q1 => by rw [hg_57]; exact gu_ne (by omega))
  refine lv_dup C.1.1 C.1.2.1 dX2_init_32 rfl ?_
  refine g_cvG (n' := ho + 32) C G (g_runIA (As := []) (rest := [.ref (ad_54 (ho + 22)), .int (iz 2), .ref (ad_54 (ho + 1))]) (pos := ho + 22) C G AO (c_X4_init l κ B ad_54 g_56 (ho + 22) hc_61) (cwI 0 C.1.2.2.2.2 gX2_init_X4_init rfl rfl rfl (C.1.2.2.2.2 _ (by decide +kernel : Cond.initialized RX4 ∈ wsX2_init)) (C.1.2.2.2.2 _ (by decide +kernel : Cond.methodLink RX2 17 yX4_init ∈ wsX2_init)) (C.1.2.2.2.2 _ (by decide +kernel : Cond.instanceMethod yX4_init ∈ wsX2_init)) rfl (by decide +kernel) ⟨Nat.le_of_ble_eq_true rfl, Nat.le_of_ble_eq_true rfl⟩) rfl hl rfl (Nat.le_of_ble_eq_true rfl) dX2_init_33 ⟨Nat.le_of_ble_eq_true rfl, Nat.le_of_ble_eq_true rfl⟩) (fun ad_64 g_65 H locs hE_66 hw_67 C G => ?_)
  have hE0_68 : ∀ k, k < ho + 1 → ad_64 k = ad k := fun k hk => (hE_66 k (by omega)).trans (hE0_58 k hk)
  rw [← hE_66 ho (by omega)] at hl
  rw [← hE_66 (ho + 22) (by omega), ← hE_66 (ho + 1) (by omega)]
  have hc_69 : g_65 ho = .inr (2, [.ref (ad_64 (ho + 1)), .int (iz 0), .int (iz 0)]) := by have q9 := hc_59; rw [← hE_66 (ho + 1) (by omega)] at q9; exact (hw_67.2 _ (by omega)).trans q9
  have hc_70 : g_65 (ho + 1) = aPl κ 14 (va_up (va_up (fun _ => none) (0 : Int).toNat (some (ad_64 (ho + 2)))) (1 : Int).toNat (some (ad_64 (ho + 12)))) := by have q9 := hc_60; rw [← hE_66 (ho + 2) (by omega), ← hE_66 (ho + 12) (by omega)] at q9; exact (hw_67.2 _ (by omega)).trans q9
  have hf_71 : isPl κ ad_64 g_65 (ho + 2) 0 v00 := hf_62.grow (fun k hk => hE_66 k (by omega)) (fun q q0 q1 => hw_67.2 _ (by omega))
  have hf_72 : isPl κ ad_64 g_65 (ho + 12) 0 v00 := hf_63.grow (fun k hk => hE_66 k (by omega)) (fun q q0 q1 => hw_67.2 _ (by omega))
  refine g_aastPl C G (pos := ho + 1) (q := ho + 22) (by omega) hc_70 (by omega) hw_67.1.1 (by decide) (by decide) (by decide) dX2_init_36 (fun H locs G => ?_)
  obtain ⟨g_73, hg_74⟩ : ∃ g9, g9 = va_up g_65 (ho + 1) (aPl κ 14 (va_up (va_up (va_up (fun _ => none) (0 : Int).toNat (some (ad_64 (ho + 2)))) (1 : Int).toNat (some (ad_64 (ho + 12)))) (2 : Int).toNat (some (ad_64 (ho + 22))))) := ⟨_, rfl⟩
  rw [← hg_74] at G
  have hc_75 : g_73 ho = .inr (2, [.ref (ad_64 (ho + 1)), .int (iz 0), .int (iz 0)]) := by rw [hg_74, gu_ne (by omega)]; exact hc_69
  have hc_76 : g_73 (ho + 1) = aPl κ 14 (va_up (va_up (va_up (fun _ => none) (0 : Int).toNat (some (ad_64 (ho + 2)))) (1 : Int).toNat (some (ad_64 (ho + 12)))) (2 : Int).toNat (some (ad_64 (ho + 22)))) := by rw [hg_74]; exact gu_self _ _ _
  have hf_77 : isPl κ ad_64 g_73 (ho + 2) 0 v00 := hf_71.grow (fun k hk => rfl) (fun q q0 q1 => by rw [hg_74]; exact gu_ne (by omega))
  have hf_78 : isPl κ ad_64 g_73 (ho + 12) 0 v00 := hf_72.grow (fun k hk => rfl) (fun q q0 q1 => by rw [hg_74]; exact gu_ne (by omega))
  have hf_79 : isPl κ ad_64 g_73 (ho + 22) 0 v00 := hw_67.1.grow (fun k hk => rfl) (fun q q0 q1 => by rw [hg_74]; exact gu_ne (by omega))
  refine lv_iinc (v := iz 3) (lv' := [(1, .int (iz 3)), (0, .ref (ad_64 ho))]) C.1.1 C.1.2.1 dX2_init_37 hl (k := 0) rfl (g_inc (by omega)) (by decide) rfl (fun ls hl => ?_)
  refine g_goto (tgt := 15) C dX2_init_40 (by decide) ?_
  refine g_iload_n C dX2_init_15 rfl hl 0 rfl ?_
  refine g_aload_n C dX2_init_16 rfl hl 1 rfl ?_
  refine g_get C G (pos := ho) fX2_init_11 (by omega) hc_75 rfl dX2_init_17 ?_
  refine g_alenPl C G (pos := ho + 1) (by omega) hc_76 dX2_init_20 ?_
  show W p l e _ s m args below meth c _ _ _ _ _ (F0 m _ ls (.int (iz 14) :: _))
  refine g_icmp_ge (tgt := 43) C (by decide) (by decide) dX2_init_21 (by decide) (fun c9 => absurd c9 (by decide)) (fun _ => ?_)
  refine g_aload_n C dX2_init_24 rfl hl 1 rfl ?_
  refine g_get C G (pos := ho) fX2_init_11 (by omega) hc_75 rfl dX2_init_25 ?_
  refine g_iload_n C dX2_init_28 rfl hl 0 rfl ?_
  refine g_new C G (n := ho + 32) (fs := [.int (iz 0), .int (iz 0), .int (iz 0), .null, .null, .null]) (ty := tyX4) (rfl : vwCl[4]? = some (RX4, TX4, 6)) nwX2_init_4 tyX4_ok (by decide +kernel : Cond.classLink RX2 9 RX4 ∈ wsX2_init) (by decide +kernel : Cond.instantiable RX4 6 ∈ wsX2_init) (by decide +kernel : Cond.initialized RX4 ∈ wsX2_init) (fun j hj => by rcases j with _ | _ | _ | _ | _ | _ | j <;> first | rfl | omega) (Nat.le_of_ble_eq_true rfl) (Nat.le_of_ble_eq_true rfl) dX2_init_29 (fun (ad_80 : Nat → Nat) H hE_81 C G => ?_)
  replace C : gC p c cX2_init 2 s m args wsX2_init RX2 κ B (ho + 33) ad_80 := C
  obtain ⟨g_82, hg_83⟩ : ∃ g9, g9 = va_up g_73 (ho + 32) (.inr (4, [.int (iz 0), .int (iz 0), .int (iz 0), .null, .null, .null])) := ⟨_, rfl⟩
  rw [← hg_83] at G
  replace G := (show gG κ B (ho + 33) ad_80 s g_82 H _ from G)
  have hE0_84 : ∀ k, k < ho + 1 → ad_80 k = ad k := fun k hk => (hE_81 k (by omega)).trans (hE0_68 k hk)
  rw [← hE_81 ho (by omega)] at hl
  rw [← hE_81 (ho + 1) (by omega)]
  have hc_85 : g_82 ho = .inr (2, [.ref (ad_80 (ho + 1)), .int (iz 0), .int (iz 0)]) := by have q9 := hc_75; rw [← hE_81 (ho + 1) (by omega)] at q9; rw [hg_83, gu_ne (by omega)]; exact q9
  have hc_86 : g_82 (ho + 1) = aPl κ 14 (va_up (va_up (va_up (fun _ => none) (0 : Int).toNat (some (ad_80 (ho + 2)))) (1 : Int).toNat (some (ad_80 (ho + 12)))) (2 : Int).toNat (some (ad_80 (ho + 22)))) := by have q9 := hc_76; rw [← hE_81 (ho + 2) (by omega), ← hE_81 (ho + 12) (by omega), ← hE_81 (ho + 22) (by omega)] at q9; rw [hg_83, gu_ne (by omega)]; exact q9
  have hc_87 : g_82 (ho + 32) = .inr (4, [.int (iz 0), .int (iz 0), .int (iz 0), .null, .null, .null]) := by rw [hg_83]; exact gu_self _ _ _
  have hf_88 : isPl κ ad_80 g_82 (ho + 2) 0 v00 := hf_77.grow (fun k hk => hE_81 k (by omega)) (fun q q0 q1 => by rw [hg_83]; exact gu_ne (by omega))
  have hf_89 : isPl κ ad_80 g_82 (ho + 12) 0 v00 := hf_78.grow (fun k hk => hE_81 k (by omega)) (fun q q0 q1 => by rw [hg_83]; exact gu_ne (by omega))
  have hf_90 : isPl κ ad_80 g_82 (ho + 22) 0 v00 := hf_79.grow (fun k hk => hE_81 k (by omega)) (fun q q0 q1 => by rw [hg_83]; exact gu_ne (by omega))
  refine lv_dup C.1.1 C.1.2.1 dX2_init_32 rfl ?_
  refine g_cvG (n' := ho + 42) C G (g_runIA (As := []) (rest := [.ref (ad_80 (ho + 32)), .int (iz 3), .ref (ad_80 (ho + 1))]) (pos := ho + 32) C G AO (c_X4_init l κ B ad_80 g_82 (ho + 32) hc_87) (cwI 0 C.1.2.2.2.2 gX2_init_X4_init rfl rfl rfl (C.1.2.2.2.2 _ (by decide +kernel : Cond.initialized RX4 ∈ wsX2_init)) (C.1.2.2.2.2 _ (by decide +kernel : Cond.methodLink RX2 17 yX4_init ∈ wsX2_init)) (C.1.2.2.2.2 _ (by decide +kernel : Cond.instanceMethod yX4_init ∈ wsX2_init)) rfl (by decide +kernel) ⟨Nat.le_of_ble_eq_true rfl, Nat.le_of_ble_eq_true rfl⟩) rfl hl rfl (Nat.le_of_ble_eq_true rfl) dX2_init_33 ⟨Nat.le_of_ble_eq_true rfl, Nat.le_of_ble_eq_true rfl⟩) (fun ad_91 g_92 H locs hE_93 hw_94 C G => ?_)
  have hE0_95 : ∀ k, k < ho + 1 → ad_91 k = ad k := fun k hk => (hE_93 k (by omega)).trans (hE0_84 k hk)
  rw [← hE_93 ho (by omega)] at hl
  rw [← hE_93 (ho + 32) (by omega), ← hE_93 (ho + 1) (by omega)]
  have hc_96 : g_92 ho = .inr (2, [.ref (ad_91 (ho + 1)), .int (iz 0), .int (iz 0)]) := by have q9 := hc_85; rw [← hE_93 (ho + 1) (by omega)] at q9; exact (hw_94.2 _ (by omega)).trans q9
  have hc_97 : g_92 (ho + 1) = aPl κ 14 (va_up (va_up (va_up (fun _ => none) (0 : Int).toNat (some (ad_91 (ho + 2)))) (1 : Int).toNat (some (ad_91 (ho + 12)))) (2 : Int).toNat (some (ad_91 (ho + 22)))) := by have q9 := hc_86; rw [← hE_93 (ho + 2) (by omega), ← hE_93 (ho + 12) (by omega), ← hE_93 (ho + 22) (by omega)] at q9; exact (hw_94.2 _ (by omega)).trans q9
  have hf_98 : isPl κ ad_91 g_92 (ho + 2) 0 v00 := hf_88.grow (fun k hk => hE_93 k (by omega)) (fun q q0 q1 => hw_94.2 _ (by omega))
  have hf_99 : isPl κ ad_91 g_92 (ho + 12) 0 v00 := hf_89.grow (fun k hk => hE_93 k (by omega)) (fun q q0 q1 => hw_94.2 _ (by omega))
  have hf_100 : isPl κ ad_91 g_92 (ho + 22) 0 v00 := hf_90.grow (fun k hk => hE_93 k (by omega)) (fun q q0 q1 => hw_94.2 _ (by omega))
  refine g_aastPl C G (pos := ho + 1) (q := ho + 32) (by omega) hc_97 (by omega) hw_94.1.1 (by decide) (by decide) (by decide) dX2_init_36 (fun H locs G => ?_)
  obtain ⟨g_101, hg_102⟩ : ∃ g9, g9 = va_up g_92 (ho + 1) (aPl κ 14 (va_up (va_up (va_up (va_up (fun _ => none) (0 : Int).toNat (some (ad_91 (ho + 2)))) (1 : Int).toNat (some (ad_91 (ho + 12)))) (2 : Int).toNat (some (ad_91 (ho + 22)))) (3 : Int).toNat (some (ad_91 (ho + 32))))) := ⟨_, rfl⟩
  rw [← hg_102] at G
  have hc_103 : g_101 ho = .inr (2, [.ref (ad_91 (ho + 1)), .int (iz 0), .int (iz 0)]) := by rw [hg_102, gu_ne (by omega)]; exact hc_96
  have hc_104 : g_101 (ho + 1) = aPl κ 14 (va_up (va_up (va_up (va_up (fun _ => none) (0 : Int).toNat (some (ad_91 (ho + 2)))) (1 : Int).toNat (some (ad_91 (ho + 12)))) (2 : Int).toNat (some (ad_91 (ho + 22)))) (3 : Int).toNat (some (ad_91 (ho + 32)))) := by rw [hg_102]; exact gu_self _ _ _
  have hf_105 : isPl κ ad_91 g_101 (ho + 2) 0 v00 := hf_98.grow (fun k hk => rfl) (fun q q0 q1 => by rw [hg_102]; exact gu_ne (by omega))
  have hf_106 : isPl κ ad_91 g_101 (ho + 12) 0 v00 := hf_99.grow (fun k hk => rfl) (fun q q0 q1 => by rw [hg_102]; exact gu_ne (by omega))
  have hf_107 : isPl κ ad_91 g_101 (ho + 22) 0 v00 := hf_100.grow (fun k hk => rfl) (fun q q0 q1 => by rw [hg_102]; exact gu_ne (by omega))
  have hf_108 : isPl κ ad_91 g_101 (ho + 32) 0 v00 := hw_94.1.grow (fun k hk => rfl) (fun q q0 q1 => by rw [hg_102]; exact gu_ne (by omega))
  refine lv_iinc (v := iz 4) (lv' := [(1, .int (iz 4)), (0, .ref (ad_91 ho))]) C.1.1 C.1.2.1 dX2_init_37 hl (k := 0) rfl (g_inc (by omega)) (by decide) rfl (fun ls hl => ?_)
  refine g_goto (tgt := 15) C dX2_init_40 (by decide) ?_
  refine g_iload_n C dX2_init_15 rfl hl 0 rfl ?_
  refine g_aload_n C dX2_init_16 rfl hl 1 rfl ?_
  refine g_get C G (pos := ho) fX2_init_11 (by omega) hc_103 rfl dX2_init_17 ?_
  refine g_alenPl C G (pos := ho + 1) (by omega) hc_104 dX2_init_20 ?_
  show W p l e _ s m args below meth c _ _ _ _ _ (F0 m _ ls (.int (iz 14) :: _))
  refine g_icmp_ge (tgt := 43) C (by decide) (by decide) dX2_init_21 (by decide) (fun c9 => absurd c9 (by decide)) (fun _ => ?_)
  refine g_aload_n C dX2_init_24 rfl hl 1 rfl ?_
  refine g_get C G (pos := ho) fX2_init_11 (by omega) hc_103 rfl dX2_init_25 ?_
  refine g_iload_n C dX2_init_28 rfl hl 0 rfl ?_
  refine g_new C G (n := ho + 42) (fs := [.int (iz 0), .int (iz 0), .int (iz 0), .null, .null, .null]) (ty := tyX4) (rfl : vwCl[4]? = some (RX4, TX4, 6)) nwX2_init_4 tyX4_ok (by decide +kernel : Cond.classLink RX2 9 RX4 ∈ wsX2_init) (by decide +kernel : Cond.instantiable RX4 6 ∈ wsX2_init) (by decide +kernel : Cond.initialized RX4 ∈ wsX2_init) (fun j hj => by rcases j with _ | _ | _ | _ | _ | _ | j <;> first | rfl | omega) (Nat.le_of_ble_eq_true rfl) (Nat.le_of_ble_eq_true rfl) dX2_init_29 (fun (ad_109 : Nat → Nat) H hE_110 C G => ?_)
  replace C : gC p c cX2_init 2 s m args wsX2_init RX2 κ B (ho + 43) ad_109 := C
  obtain ⟨g_111, hg_112⟩ : ∃ g9, g9 = va_up g_101 (ho + 42) (.inr (4, [.int (iz 0), .int (iz 0), .int (iz 0), .null, .null, .null])) := ⟨_, rfl⟩
  rw [← hg_112] at G
  replace G := (show gG κ B (ho + 43) ad_109 s g_111 H _ from G)
  have hE0_113 : ∀ k, k < ho + 1 → ad_109 k = ad k := fun k hk => (hE_110 k (by omega)).trans (hE0_95 k hk)
  rw [← hE_110 ho (by omega)] at hl
  rw [← hE_110 (ho + 1) (by omega)]
  have hc_114 : g_111 ho = .inr (2, [.ref (ad_109 (ho + 1)), .int (iz 0), .int (iz 0)]) := by have q9 := hc_103; rw [← hE_110 (ho + 1) (by omega)] at q9; rw [hg_112, gu_ne (by omega)]; exact q9
  have hc_115 : g_111 (ho + 1) = aPl κ 14 (va_up (va_up (va_up (va_up (fun _ => none) (0 : Int).toNat (some (ad_109 (ho + 2)))) (1 : Int).toNat (some (ad_109 (ho + 12)))) (2 : Int).toNat (some (ad_109 (ho + 22)))) (3 : Int).toNat (some (ad_109 (ho + 32)))) := by have q9 := hc_104; rw [← hE_110 (ho + 2) (by omega), ← hE_110 (ho + 12) (by omega), ← hE_110 (ho + 22) (by omega), ← hE_110 (ho + 32) (by omega)] at q9; rw [hg_112, gu_ne (by omega)]; exact q9
  have hc_116 : g_111 (ho + 42) = .inr (4, [.int (iz 0), .int (iz 0), .int (iz 0), .null, .null, .null]) := by rw [hg_112]; exact gu_self _ _ _
  have hf_117 : isPl κ ad_109 g_111 (ho + 2) 0 v00 := hf_105.grow (fun k hk => hE_110 k (by omega)) (fun q q0 q1 => by rw [hg_112]; exact gu_ne (by omega))
  have hf_118 : isPl κ ad_109 g_111 (ho + 12) 0 v00 := hf_106.grow (fun k hk => hE_110 k (by omega)) (fun q q0 q1 => by rw [hg_112]; exact gu_ne (by omega))
  have hf_119 : isPl κ ad_109 g_111 (ho + 22) 0 v00 := hf_107.grow (fun k hk => hE_110 k (by omega)) (fun q q0 q1 => by rw [hg_112]; exact gu_ne (by omega))
  have hf_120 : isPl κ ad_109 g_111 (ho + 32) 0 v00 := hf_108.grow (fun k hk => hE_110 k (by omega)) (fun q q0 q1 => by rw [hg_112]; exact gu_ne (by omega))
  refine lv_dup C.1.1 C.1.2.1 dX2_init_32 rfl ?_
  refine g_cvG (n' := ho + 52) C G (g_runIA (As := []) (rest := [.ref (ad_109 (ho + 42)), .int (iz 4), .ref (ad_109 (ho + 1))]) (pos := ho + 42) C G AO (c_X4_init l κ B ad_109 g_111 (ho + 42) hc_116) (cwI 0 C.1.2.2.2.2 gX2_init_X4_init rfl rfl rfl (C.1.2.2.2.2 _ (by decide +kernel : Cond.initialized RX4 ∈ wsX2_init)) (C.1.2.2.2.2 _ (by decide +kernel : Cond.methodLink RX2 17 yX4_init ∈ wsX2_init)) (C.1.2.2.2.2 _ (by decide +kernel : Cond.instanceMethod yX4_init ∈ wsX2_init)) rfl (by decide +kernel) ⟨Nat.le_of_ble_eq_true rfl, Nat.le_of_ble_eq_true rfl⟩) rfl hl rfl (Nat.le_of_ble_eq_true rfl) dX2_init_33 ⟨Nat.le_of_ble_eq_true rfl, Nat.le_of_ble_eq_true rfl⟩) (fun ad_121 g_122 H locs hE_123 hw_124 C G => ?_)
  have hE0_125 : ∀ k, k < ho + 1 → ad_121 k = ad k := fun k hk => (hE_123 k (by omega)).trans (hE0_113 k hk)
  rw [← hE_123 ho (by omega)] at hl
  rw [← hE_123 (ho + 42) (by omega), ← hE_123 (ho + 1) (by omega)]
  have hc_126 : g_122 ho = .inr (2, [.ref (ad_121 (ho + 1)), .int (iz 0), .int (iz 0)]) := by have q9 := hc_114; rw [← hE_123 (ho + 1) (by omega)] at q9; exact (hw_124.2 _ (by omega)).trans q9
  have hc_127 : g_122 (ho + 1) = aPl κ 14 (va_up (va_up (va_up (va_up (fun _ => none) (0 : Int).toNat (some (ad_121 (ho + 2)))) (1 : Int).toNat (some (ad_121 (ho + 12)))) (2 : Int).toNat (some (ad_121 (ho + 22)))) (3 : Int).toNat (some (ad_121 (ho + 32)))) := by have q9 := hc_115; rw [← hE_123 (ho + 2) (by omega), ← hE_123 (ho + 12) (by omega), ← hE_123 (ho + 22) (by omega), ← hE_123 (ho + 32) (by omega)] at q9; exact (hw_124.2 _ (by omega)).trans q9
  have hf_128 : isPl κ ad_121 g_122 (ho + 2) 0 v00 := hf_117.grow (fun k hk => hE_123 k (by omega)) (fun q q0 q1 => hw_124.2 _ (by omega))
  have hf_129 : isPl κ ad_121 g_122 (ho + 12) 0 v00 := hf_118.grow (fun k hk => hE_123 k (by omega)) (fun q q0 q1 => hw_124.2 _ (by omega))
  have hf_130 : isPl κ ad_121 g_122 (ho + 22) 0 v00 := hf_119.grow (fun k hk => hE_123 k (by omega)) (fun q q0 q1 => hw_124.2 _ (by omega))
  have hf_131 : isPl κ ad_121 g_122 (ho + 32) 0 v00 := hf_120.grow (fun k hk => hE_123 k (by omega)) (fun q q0 q1 => hw_124.2 _ (by omega))
  refine g_aastPl C G (pos := ho + 1) (q := ho + 42) (by omega) hc_127 (by omega) hw_124.1.1 (by decide) (by decide) (by decide) dX2_init_36 (fun H locs G => ?_)
  obtain ⟨g_132, hg_133⟩ : ∃ g9, g9 = va_up g_122 (ho + 1) (aPl κ 14 (va_up (va_up (va_up (va_up (va_up (fun _ => none) (0 : Int).toNat (some (ad_121 (ho + 2)))) (1 : Int).toNat (some (ad_121 (ho + 12)))) (2 : Int).toNat (some (ad_121 (ho + 22)))) (3 : Int).toNat (some (ad_121 (ho + 32)))) (4 : Int).toNat (some (ad_121 (ho + 42))))) := ⟨_, rfl⟩
  rw [← hg_133] at G
  have hc_134 : g_132 ho = .inr (2, [.ref (ad_121 (ho + 1)), .int (iz 0), .int (iz 0)]) := by rw [hg_133, gu_ne (by omega)]; exact hc_126
  have hc_135 : g_132 (ho + 1) = aPl κ 14 (va_up (va_up (va_up (va_up (va_up (fun _ => none) (0 : Int).toNat (some (ad_121 (ho + 2)))) (1 : Int).toNat (some (ad_121 (ho + 12)))) (2 : Int).toNat (some (ad_121 (ho + 22)))) (3 : Int).toNat (some (ad_121 (ho + 32)))) (4 : Int).toNat (some (ad_121 (ho + 42)))) := by rw [hg_133]; exact gu_self _ _ _
  have hf_136 : isPl κ ad_121 g_132 (ho + 2) 0 v00 := hf_128.grow (fun k hk => rfl) (fun q q0 q1 => by rw [hg_133]; exact gu_ne (by omega))
  have hf_137 : isPl κ ad_121 g_132 (ho + 12) 0 v00 := hf_129.grow (fun k hk => rfl) (fun q q0 q1 => by rw [hg_133]; exact gu_ne (by omega))
  have hf_138 : isPl κ ad_121 g_132 (ho + 22) 0 v00 := hf_130.grow (fun k hk => rfl) (fun q q0 q1 => by rw [hg_133]; exact gu_ne (by omega))
  have hf_139 : isPl κ ad_121 g_132 (ho + 32) 0 v00 := hf_131.grow (fun k hk => rfl) (fun q q0 q1 => by rw [hg_133]; exact gu_ne (by omega))
  have hf_140 : isPl κ ad_121 g_132 (ho + 42) 0 v00 := hw_124.1.grow (fun k hk => rfl) (fun q q0 q1 => by rw [hg_133]; exact gu_ne (by omega))
  refine lv_iinc (v := iz 5) (lv' := [(1, .int (iz 5)), (0, .ref (ad_121 ho))]) C.1.1 C.1.2.1 dX2_init_37 hl (k := 0) rfl (g_inc (by omega)) (by decide) rfl (fun ls hl => ?_)
  refine g_goto (tgt := 15) C dX2_init_40 (by decide) ?_
  refine g_iload_n C dX2_init_15 rfl hl 0 rfl ?_
  refine g_aload_n C dX2_init_16 rfl hl 1 rfl ?_
  refine g_get C G (pos := ho) fX2_init_11 (by omega) hc_134 rfl dX2_init_17 ?_
  refine g_alenPl C G (pos := ho + 1) (by omega) hc_135 dX2_init_20 ?_
  show W p l e _ s m args below meth c _ _ _ _ _ (F0 m _ ls (.int (iz 14) :: _))
  refine g_icmp_ge (tgt := 43) C (by decide) (by decide) dX2_init_21 (by decide) (fun c9 => absurd c9 (by decide)) (fun _ => ?_)
  refine g_aload_n C dX2_init_24 rfl hl 1 rfl ?_
  refine g_get C G (pos := ho) fX2_init_11 (by omega) hc_134 rfl dX2_init_25 ?_
  refine g_iload_n C dX2_init_28 rfl hl 0 rfl ?_
  refine g_new C G (n := ho + 52) (fs := [.int (iz 0), .int (iz 0), .int (iz 0), .null, .null, .null]) (ty := tyX4) (rfl : vwCl[4]? = some (RX4, TX4, 6)) nwX2_init_4 tyX4_ok (by decide +kernel : Cond.classLink RX2 9 RX4 ∈ wsX2_init) (by decide +kernel : Cond.instantiable RX4 6 ∈ wsX2_init) (by decide +kernel : Cond.initialized RX4 ∈ wsX2_init) (fun j hj => by rcases j with _ | _ | _ | _ | _ | _ | j <;> first | rfl | omega) (Nat.le_of_ble_eq_true rfl) (Nat.le_of_ble_eq_true rfl) dX2_init_29 (fun (ad_141 : Nat → Nat) H hE_142 C G => ?_)
  replace C : gC p c cX2_init 2 s m args wsX2_init RX2 κ B (ho + 53) ad_141 := C
  obtain ⟨g_143, hg_144⟩ : ∃ g9, g9 = va_up g_132 (ho + 52) (.inr (4, [.int (iz 0), .int (iz 0), .int (iz 0), .null, .null, .null])) := ⟨_, rfl⟩
  rw [← hg_144] at G
  replace G := (show gG κ B (ho + 53) ad_141 s g_143 H _ from G)
  have hE0_145 : ∀ k, k < ho + 1 → ad_141 k = ad k := fun k hk => (hE_142 k (by omega)).trans (hE0_125 k hk)
  rw [← hE_142 ho (by omega)] at hl
  rw [← hE_142 (ho + 1) (by omega)]
  have hc_146 : g_143 ho = .inr (2, [.ref (ad_141 (ho + 1)), .int (iz 0), .int (iz 0)]) := by have q9 := hc_134; rw [← hE_142 (ho + 1) (by omega)] at q9; rw [hg_144, gu_ne (by omega)]; exact q9
  have hc_147 : g_143 (ho + 1) = aPl κ 14 (va_up (va_up (va_up (va_up (va_up (fun _ => none) (0 : Int).toNat (some (ad_141 (ho + 2)))) (1 : Int).toNat (some (ad_141 (ho + 12)))) (2 : Int).toNat (some (ad_141 (ho + 22)))) (3 : Int).toNat (some (ad_141 (ho + 32)))) (4 : Int).toNat (some (ad_141 (ho + 42)))) := by have q9 := hc_135; rw [← hE_142 (ho + 2) (by omega), ← hE_142 (ho + 12) (by omega), ← hE_142 (ho + 22) (by omega), ← hE_142 (ho + 32) (by omega), ← hE_142 (ho + 42) (by omega)] at q9; rw [hg_144, gu_ne (by omega)]; exact q9
  have hc_148 : g_143 (ho + 52) = .inr (4, [.int (iz 0), .int (iz 0), .int (iz 0), .null, .null, .null]) := by rw [hg_144]; exact gu_self _ _ _
  have hf_149 : isPl κ ad_141 g_143 (ho + 2) 0 v00 := hf_136.grow (fun k hk => hE_142 k (by omega)) (fun q q0 q1 => by rw [hg_144]; exact gu_ne (by omega))
  have hf_150 : isPl κ ad_141 g_143 (ho + 12) 0 v00 := hf_137.grow (fun k hk => hE_142 k (by omega)) (fun q q0 q1 => by rw [hg_144]; exact gu_ne (by omega))
  have hf_151 : isPl κ ad_141 g_143 (ho + 22) 0 v00 := hf_138.grow (fun k hk => hE_142 k (by omega)) (fun q q0 q1 => by rw [hg_144]; exact gu_ne (by omega))
  have hf_152 : isPl κ ad_141 g_143 (ho + 32) 0 v00 := hf_139.grow (fun k hk => hE_142 k (by omega)) (fun q q0 q1 => by rw [hg_144]; exact gu_ne (by omega))
  have hf_153 : isPl κ ad_141 g_143 (ho + 42) 0 v00 := hf_140.grow (fun k hk => hE_142 k (by omega)) (fun q q0 q1 => by rw [hg_144]; exact gu_ne (by omega))
  refine lv_dup C.1.1 C.1.2.1 dX2_init_32 rfl ?_
  refine g_cvG (n' := ho + 62) C G (g_runIA (As := []) (rest := [.ref (ad_141 (ho + 52)), .int (iz 5), .ref (ad_141 (ho + 1))]) (pos := ho + 52) C G AO (c_X4_init l κ B ad_141 g_143 (ho + 52) hc_148) (cwI 0 C.1.2.2.2.2 gX2_init_X4_init rfl rfl rfl (C.1.2.2.2.2 _ (by decide +kernel : Cond.initialized RX4 ∈ wsX2_init)) (C.1.2.2.2.2 _ (by decide +kernel : Cond.methodLink RX2 17 yX4_init ∈ wsX2_init)) (C.1.2.2.2.2 _ (by decide +kernel : Cond.instanceMethod yX4_init ∈ wsX2_init)) rfl (by decide +kernel) ⟨Nat.le_of_ble_eq_true rfl, Nat.le_of_ble_eq_true rfl⟩) rfl hl rfl (Nat.le_of_ble_eq_true rfl) dX2_init_33 ⟨Nat.le_of_ble_eq_true rfl, Nat.le_of_ble_eq_true rfl⟩) (fun ad_154 g_155 H locs hE_156 hw_157 C G => ?_)
  have hE0_158 : ∀ k, k < ho + 1 → ad_154 k = ad k := fun k hk => (hE_156 k (by omega)).trans (hE0_145 k hk)
  rw [← hE_156 ho (by omega)] at hl
  rw [← hE_156 (ho + 52) (by omega), ← hE_156 (ho + 1) (by omega)]
  have hc_159 : g_155 ho = .inr (2, [.ref (ad_154 (ho + 1)), .int (iz 0), .int (iz 0)]) := by have q9 := hc_146; rw [← hE_156 (ho + 1) (by omega)] at q9; exact (hw_157.2 _ (by omega)).trans q9
  have hc_160 : g_155 (ho + 1) = aPl κ 14 (va_up (va_up (va_up (va_up (va_up (fun _ => none) (0 : Int).toNat (some (ad_154 (ho + 2)))) (1 : Int).toNat (some (ad_154 (ho + 12)))) (2 : Int).toNat (some (ad_154 (ho + 22)))) (3 : Int).toNat (some (ad_154 (ho + 32)))) (4 : Int).toNat (some (ad_154 (ho + 42)))) := by have q9 := hc_147; rw [← hE_156 (ho + 2) (by omega), ← hE_156 (ho + 12) (by omega), ← hE_156 (ho + 22) (by omega), ← hE_156 (ho + 32) (by omega), ← hE_156 (ho + 42) (by omega)] at q9; exact (hw_157.2 _ (by omega)).trans q9
  have hf_161 : isPl κ ad_154 g_155 (ho + 2) 0 v00 := hf_149.grow (fun k hk => hE_156 k (by omega)) (fun q q0 q1 => hw_157.2 _ (by omega))
  have hf_162 : isPl κ ad_154 g_155 (ho + 12) 0 v00 := hf_150.grow (fun k hk => hE_156 k (by omega)) (fun q q0 q1 => hw_157.2 _ (by omega))
  have hf_163 : isPl κ ad_154 g_155 (ho + 22) 0 v00 := hf_151.grow (fun k hk => hE_156 k (by omega)) (fun q q0 q1 => hw_157.2 _ (by omega))
  have hf_164 : isPl κ ad_154 g_155 (ho + 32) 0 v00 := hf_152.grow (fun k hk => hE_156 k (by omega)) (fun q q0 q1 => hw_157.2 _ (by omega))
  have hf_165 : isPl κ ad_154 g_155 (ho + 42) 0 v00 := hf_153.grow (fun k hk => hE_156 k (by omega)) (fun q q0 q1 => hw_157.2 _ (by omega))
  refine g_aastPl C G (pos := ho + 1) (q := ho + 52) (by omega) hc_160 (by omega) hw_157.1.1 (by decide) (by decide) (by decide) dX2_init_36 (fun H locs G => ?_)
  obtain ⟨g_166, hg_167⟩ : ∃ g9, g9 = va_up g_155 (ho + 1) (aPl κ 14 (va_up (va_up (va_up (va_up (va_up (va_up (fun _ => none) (0 : Int).toNat (some (ad_154 (ho + 2)))) (1 : Int).toNat (some (ad_154 (ho + 12)))) (2 : Int).toNat (some (ad_154 (ho + 22)))) (3 : Int).toNat (some (ad_154 (ho + 32)))) (4 : Int).toNat (some (ad_154 (ho + 42)))) (5 : Int).toNat (some (ad_154 (ho + 52))))) := ⟨_, rfl⟩
  rw [← hg_167] at G
  have hc_168 : g_166 ho = .inr (2, [.ref (ad_154 (ho + 1)), .int (iz 0), .int (iz 0)]) := by rw [hg_167, gu_ne (by omega)]; exact hc_159
  have hc_169 : g_166 (ho + 1) = aPl κ 14 (va_up (va_up (va_up (va_up (va_up (va_up (fun _ => none) (0 : Int).toNat (some (ad_154 (ho + 2)))) (1 : Int).toNat (some (ad_154 (ho + 12)))) (2 : Int).toNat (some (ad_154 (ho + 22)))) (3 : Int).toNat (some (ad_154 (ho + 32)))) (4 : Int).toNat (some (ad_154 (ho + 42)))) (5 : Int).toNat (some (ad_154 (ho + 52)))) := by rw [hg_167]; exact gu_self _ _ _
  have hf_170 : isPl κ ad_154 g_166 (ho + 2) 0 v00 := hf_161.grow (fun k hk => rfl) (fun q q0 q1 => by rw [hg_167]; exact gu_ne (by omega))
  have hf_171 : isPl κ ad_154 g_166 (ho + 12) 0 v00 := hf_162.grow (fun k hk => rfl) (fun q q0 q1 => by rw [hg_167]; exact gu_ne (by omega))
  have hf_172 : isPl κ ad_154 g_166 (ho + 22) 0 v00 := hf_163.grow (fun k hk => rfl) (fun q q0 q1 => by rw [hg_167]; exact gu_ne (by omega))
  have hf_173 : isPl κ ad_154 g_166 (ho + 32) 0 v00 := hf_164.grow (fun k hk => rfl) (fun q q0 q1 => by rw [hg_167]; exact gu_ne (by omega))
  have hf_174 : isPl κ ad_154 g_166 (ho + 42) 0 v00 := hf_165.grow (fun k hk => rfl) (fun q q0 q1 => by rw [hg_167]; exact gu_ne (by omega))
  have hf_175 : isPl κ ad_154 g_166 (ho + 52) 0 v00 := hw_157.1.grow (fun k hk => rfl) (fun q q0 q1 => by rw [hg_167]; exact gu_ne (by omega))
  refine lv_iinc (v := iz 6) (lv' := [(1, .int (iz 6)), (0, .ref (ad_154 ho))]) C.1.1 C.1.2.1 dX2_init_37 hl (k := 0) rfl (g_inc (by omega)) (by decide) rfl (fun ls hl => ?_)
  refine g_goto (tgt := 15) C dX2_init_40 (by decide) ?_
  refine g_iload_n C dX2_init_15 rfl hl 0 rfl ?_
  refine g_aload_n C dX2_init_16 rfl hl 1 rfl ?_
  refine g_get C G (pos := ho) fX2_init_11 (by omega) hc_168 rfl dX2_init_17 ?_
  refine g_alenPl C G (pos := ho + 1) (by omega) hc_169 dX2_init_20 ?_
  show W p l e _ s m args below meth c _ _ _ _ _ (F0 m _ ls (.int (iz 14) :: _))
  refine g_icmp_ge (tgt := 43) C (by decide) (by decide) dX2_init_21 (by decide) (fun c9 => absurd c9 (by decide)) (fun _ => ?_)
  refine g_aload_n C dX2_init_24 rfl hl 1 rfl ?_
  refine g_get C G (pos := ho) fX2_init_11 (by omega) hc_168 rfl dX2_init_25 ?_
  refine g_iload_n C dX2_init_28 rfl hl 0 rfl ?_
  refine g_new C G (n := ho + 62) (fs := [.int (iz 0), .int (iz 0), .int (iz 0), .null, .null, .null]) (ty := tyX4) (rfl : vwCl[4]? = some (RX4, TX4, 6)) nwX2_init_4 tyX4_ok (by decide +kernel : Cond.classLink RX2 9 RX4 ∈ wsX2_init) (by decide +kernel : Cond.instantiable RX4 6 ∈ wsX2_init) (by decide +kernel : Cond.initialized RX4 ∈ wsX2_init) (fun j hj => by rcases j with _ | _ | _ | _ | _ | _ | j <;> first | rfl | omega) (Nat.le_of_ble_eq_true rfl) (Nat.le_of_ble_eq_true rfl) dX2_init_29 (fun (ad_176 : Nat → Nat) H hE_177 C G => ?_)
  replace C : gC p c cX2_init 2 s m args wsX2_init RX2 κ B (ho + 63) ad_176 := C
  obtain ⟨g_178, hg_179⟩ : ∃ g9, g9 = va_up g_166 (ho + 62) (.inr (4, [.int (iz 0), .int (iz 0), .int (iz 0), .null, .null, .null])) := ⟨_, rfl⟩
  rw [← hg_179] at G
  replace G := (show gG κ B (ho + 63) ad_176 s g_178 H _ from G)
  have hE0_180 : ∀ k, k < ho + 1 → ad_176 k = ad k := fun k hk => (hE_177 k (by omega)).trans (hE0_158 k hk)
  rw [← hE_177 ho (by omega)] at hl
  rw [← hE_177 (ho + 1) (by omega)]
  have hc_181 : g_178 ho = .inr (2, [.ref (ad_176 (ho + 1)), .int (iz 0), .int (iz 0)]) := by have q9 := hc_168; rw [← hE_177 (ho + 1) (by omega)] at q9; rw [hg_179, gu_ne (by omega)]; exact q9
  have hc_182 : g_178 (ho + 1) = aPl κ 14 (va_up (va_up (va_up (va_up (va_up (va_up (fun _ => none) (0 : Int).toNat (some (ad_176 (ho + 2)))) (1 : Int).toNat (some (ad_176 (ho + 12)))) (2 : Int).toNat (some (ad_176 (ho + 22)))) (3 : Int).toNat (some (ad_176 (ho + 32)))) (4 : Int).toNat (some (ad_176 (ho + 42)))) (5 : Int).toNat (some (ad_176 (ho + 52)))) := by have q9 := hc_169; rw [← hE_177 (ho + 2) (by omega), ← hE_177 (ho + 12) (by omega), ← hE_177 (ho + 22) (by omega), ← hE_177 (ho + 32) (by omega), ← hE_177 (ho + 42) (by omega), ← hE_177 (ho + 52) (by omega)] at q9; rw [hg_179, gu_ne (by omega)]; exact q9
  have hc_183 : g_178 (ho + 62) = .inr (4, [.int (iz 0), .int (iz 0), .int (iz 0), .null, .null, .null]) := by rw [hg_179]; exact gu_self _ _ _
  have hf_184 : isPl κ ad_176 g_178 (ho + 2) 0 v00 := hf_170.grow (fun k hk => hE_177 k (by omega)) (fun q q0 q1 => by rw [hg_179]; exact gu_ne (by omega))
  have hf_185 : isPl κ ad_176 g_178 (ho + 12) 0 v00 := hf_171.grow (fun k hk => hE_177 k (by omega)) (fun q q0 q1 => by rw [hg_179]; exact gu_ne (by omega))
  have hf_186 : isPl κ ad_176 g_178 (ho + 22) 0 v00 := hf_172.grow (fun k hk => hE_177 k (by omega)) (fun q q0 q1 => by rw [hg_179]; exact gu_ne (by omega))
  have hf_187 : isPl κ ad_176 g_178 (ho + 32) 0 v00 := hf_173.grow (fun k hk => hE_177 k (by omega)) (fun q q0 q1 => by rw [hg_179]; exact gu_ne (by omega))
  have hf_188 : isPl κ ad_176 g_178 (ho + 42) 0 v00 := hf_174.grow (fun k hk => hE_177 k (by omega)) (fun q q0 q1 => by rw [hg_179]; exact gu_ne (by omega))
  have hf_189 : isPl κ ad_176 g_178 (ho + 52) 0 v00 := hf_175.grow (fun k hk => hE_177 k (by omega)) (fun q q0 q1 => by rw [hg_179]; exact gu_ne (by omega))
  refine lv_dup C.1.1 C.1.2.1 dX2_init_32 rfl ?_
  refine g_cvG (n' := ho + 72) C G (g_runIA (As := []) (rest := [.ref (ad_176 (ho + 62)), .int (iz 6), .ref (ad_176 (ho + 1))]) (pos := ho + 62) C G AO (c_X4_init l κ B ad_176 g_178 (ho + 62) hc_183) (cwI 0 C.1.2.2.2.2 gX2_init_X4_init rfl rfl rfl (C.1.2.2.2.2 _ (by decide +kernel : Cond.initialized RX4 ∈ wsX2_init)) (C.1.2.2.2.2 _ (by decide +kernel : Cond.methodLink RX2 17 yX4_init ∈ wsX2_init)) (C.1.2.2.2.2 _ (by decide +kernel : Cond.instanceMethod yX4_init ∈ wsX2_init)) rfl (by decide +kernel) ⟨Nat.le_of_ble_eq_true rfl, Nat.le_of_ble_eq_true rfl⟩) rfl hl rfl (Nat.le_of_ble_eq_true rfl) dX2_init_33 ⟨Nat.le_of_ble_eq_true rfl, Nat.le_of_ble_eq_true rfl⟩) (fun ad_190 g_191 H locs hE_192 hw_193 C G => ?_)
  have hE0_194 : ∀ k, k < ho + 1 → ad_190 k = ad k := fun k hk => (hE_192 k (by omega)).trans (hE0_180 k hk)
  rw [← hE_192 ho (by omega)] at hl
  rw [← hE_192 (ho + 62) (by omega), ← hE_192 (ho + 1) (by omega)]
  have hc_195 : g_191 ho = .inr (2, [.ref (ad_190 (ho + 1)), .int (iz 0), .int (iz 0)]) := by have q9 := hc_181; rw [← hE_192 (ho + 1) (by omega)] at q9; exact (hw_193.2 _ (by omega)).trans q9
  have hc_196 : g_191 (ho + 1) = aPl κ 14 (va_up (va_up (va_up (va_up (va_up (va_up (fun _ => none) (0 : Int).toNat (some (ad_190 (ho + 2)))) (1 : Int).toNat (some (ad_190 (ho + 12)))) (2 : Int).toNat (some (ad_190 (ho + 22)))) (3 : Int).toNat (some (ad_190 (ho + 32)))) (4 : Int).toNat (some (ad_190 (ho + 42)))) (5 : Int).toNat (some (ad_190 (ho + 52)))) := by have q9 := hc_182; rw [← hE_192 (ho + 2) (by omega), ← hE_192 (ho + 12) (by omega), ← hE_192 (ho + 22) (by omega), ← hE_192 (ho + 32) (by omega), ← hE_192 (ho + 42) (by omega), ← hE_192 (ho + 52) (by omega)] at q9; exact (hw_193.2 _ (by omega)).trans q9
  have hf_197 : isPl κ ad_190 g_191 (ho + 2) 0 v00 := hf_184.grow (fun k hk => hE_192 k (by omega)) (fun q q0 q1 => hw_193.2 _ (by omega))
  have hf_198 : isPl κ ad_190 g_191 (ho + 12) 0 v00 := hf_185.grow (fun k hk => hE_192 k (by omega)) (fun q q0 q1 => hw_193.2 _ (by omega))
  have hf_199 : isPl κ ad_190 g_191 (ho + 22) 0 v00 := hf_186.grow (fun k hk => hE_192 k (by omega)) (fun q q0 q1 => hw_193.2 _ (by omega))
  have hf_200 : isPl κ ad_190 g_191 (ho + 32) 0 v00 := hf_187.grow (fun k hk => hE_192 k (by omega)) (fun q q0 q1 => hw_193.2 _ (by omega))
  have hf_201 : isPl κ ad_190 g_191 (ho + 42) 0 v00 := hf_188.grow (fun k hk => hE_192 k (by omega)) (fun q q0 q1 => hw_193.2 _ (by omega))
  have hf_202 : isPl κ ad_190 g_191 (ho + 52) 0 v00 := hf_189.grow (fun k hk => hE_192 k (by omega)) (fun q q0 q1 => hw_193.2 _ (by omega))
  refine g_aastPl C G (pos := ho + 1) (q := ho + 62) (by omega) hc_196 (by omega) hw_193.1.1 (by decide) (by decide) (by decide) dX2_init_36 (fun H locs G => ?_)
  obtain ⟨g_203, hg_204⟩ : ∃ g9, g9 = va_up g_191 (ho + 1) (aPl κ 14 (va_up (va_up (va_up (va_up (va_up (va_up (va_up (fun _ => none) (0 : Int).toNat (some (ad_190 (ho + 2)))) (1 : Int).toNat (some (ad_190 (ho + 12)))) (2 : Int).toNat (some (ad_190 (ho + 22)))) (3 : Int).toNat (some (ad_190 (ho + 32)))) (4 : Int).toNat (some (ad_190 (ho + 42)))) (5 : Int).toNat (some (ad_190 (ho + 52)))) (6 : Int).toNat (some (ad_190 (ho + 62))))) := ⟨_, rfl⟩
  rw [← hg_204] at G
  have hc_205 : g_203 ho = .inr (2, [.ref (ad_190 (ho + 1)), .int (iz 0), .int (iz 0)]) := by rw [hg_204, gu_ne (by omega)]; exact hc_195
  have hc_206 : g_203 (ho + 1) = aPl κ 14 (va_up (va_up (va_up (va_up (va_up (va_up (va_up (fun _ => none) (0 : Int).toNat (some (ad_190 (ho + 2)))) (1 : Int).toNat (some (ad_190 (ho + 12)))) (2 : Int).toNat (some (ad_190 (ho + 22)))) (3 : Int).toNat (some (ad_190 (ho + 32)))) (4 : Int).toNat (some (ad_190 (ho + 42)))) (5 : Int).toNat (some (ad_190 (ho + 52)))) (6 : Int).toNat (some (ad_190 (ho + 62)))) := by rw [hg_204]; exact gu_self _ _ _
  have hf_207 : isPl κ ad_190 g_203 (ho + 2) 0 v00 := hf_197.grow (fun k hk => rfl) (fun q q0 q1 => by rw [hg_204]; exact gu_ne (by omega))
  have hf_208 : isPl κ ad_190 g_203 (ho + 12) 0 v00 := hf_198.grow (fun k hk => rfl) (fun q q0 q1 => by rw [hg_204]; exact gu_ne (by omega))
  have hf_209 : isPl κ ad_190 g_203 (ho + 22) 0 v00 := hf_199.grow (fun k hk => rfl) (fun q q0 q1 => by rw [hg_204]; exact gu_ne (by omega))
  have hf_210 : isPl κ ad_190 g_203 (ho + 32) 0 v00 := hf_200.grow (fun k hk => rfl) (fun q q0 q1 => by rw [hg_204]; exact gu_ne (by omega))
  have hf_211 : isPl κ ad_190 g_203 (ho + 42) 0 v00 := hf_201.grow (fun k hk => rfl) (fun q q0 q1 => by rw [hg_204]; exact gu_ne (by omega))
  have hf_212 : isPl κ ad_190 g_203 (ho + 52) 0 v00 := hf_202.grow (fun k hk => rfl) (fun q q0 q1 => by rw [hg_204]; exact gu_ne (by omega))
  have hf_213 : isPl κ ad_190 g_203 (ho + 62) 0 v00 := hw_193.1.grow (fun k hk => rfl) (fun q q0 q1 => by rw [hg_204]; exact gu_ne (by omega))
  refine lv_iinc (v := iz 7) (lv' := [(1, .int (iz 7)), (0, .ref (ad_190 ho))]) C.1.1 C.1.2.1 dX2_init_37 hl (k := 0) rfl (g_inc (by omega)) (by decide) rfl (fun ls hl => ?_)
  refine g_goto (tgt := 15) C dX2_init_40 (by decide) ?_
  refine g_iload_n C dX2_init_15 rfl hl 0 rfl ?_
  refine g_aload_n C dX2_init_16 rfl hl 1 rfl ?_
  refine g_get C G (pos := ho) fX2_init_11 (by omega) hc_205 rfl dX2_init_17 ?_
  refine g_alenPl C G (pos := ho + 1) (by omega) hc_206 dX2_init_20 ?_
  show W p l e _ s m args below meth c _ _ _ _ _ (F0 m _ ls (.int (iz 14) :: _))
  refine g_icmp_ge (tgt := 43) C (by decide) (by decide) dX2_init_21 (by decide) (fun c9 => absurd c9 (by decide)) (fun _ => ?_)
  refine g_aload_n C dX2_init_24 rfl hl 1 rfl ?_
  refine g_get C G (pos := ho) fX2_init_11 (by omega) hc_205 rfl dX2_init_25 ?_
  refine g_iload_n C dX2_init_28 rfl hl 0 rfl ?_
  refine g_new C G (n := ho + 72) (fs := [.int (iz 0), .int (iz 0), .int (iz 0), .null, .null, .null]) (ty := tyX4) (rfl : vwCl[4]? = some (RX4, TX4, 6)) nwX2_init_4 tyX4_ok (by decide +kernel : Cond.classLink RX2 9 RX4 ∈ wsX2_init) (by decide +kernel : Cond.instantiable RX4 6 ∈ wsX2_init) (by decide +kernel : Cond.initialized RX4 ∈ wsX2_init) (fun j hj => by rcases j with _ | _ | _ | _ | _ | _ | j <;> first | rfl | omega) (Nat.le_of_ble_eq_true rfl) (Nat.le_of_ble_eq_true rfl) dX2_init_29 (fun (ad_214 : Nat → Nat) H hE_215 C G => ?_)
  replace C : gC p c cX2_init 2 s m args wsX2_init RX2 κ B (ho + 73) ad_214 := C
  obtain ⟨g_216, hg_217⟩ : ∃ g9, g9 = va_up g_203 (ho + 72) (.inr (4, [.int (iz 0), .int (iz 0), .int (iz 0), .null, .null, .null])) := ⟨_, rfl⟩
  rw [← hg_217] at G
  replace G := (show gG κ B (ho + 73) ad_214 s g_216 H _ from G)
  have hE0_218 : ∀ k, k < ho + 1 → ad_214 k = ad k := fun k hk => (hE_215 k (by omega)).trans (hE0_194 k hk)
  rw [← hE_215 ho (by omega)] at hl
  rw [← hE_215 (ho + 1) (by omega)]
  have hc_219 : g_216 ho = .inr (2, [.ref (ad_214 (ho + 1)), .int (iz 0), .int (iz 0)]) := by have q9 := hc_205; rw [← hE_215 (ho + 1) (by omega)] at q9; rw [hg_217, gu_ne (by omega)]; exact q9
  have hc_220 : g_216 (ho + 1) = aPl κ 14 (va_up (va_up (va_up (va_up (va_up (va_up (va_up (fun _ => none) (0 : Int).toNat (some (ad_214 (ho + 2)))) (1 : Int).toNat (some (ad_214 (ho + 12)))) (2 : Int).toNat (some (ad_214 (ho + 22)))) (3 : Int).toNat (some (ad_214 (ho + 32)))) (4 : Int).toNat (some (ad_214 (ho + 42)))) (5 : Int).toNat (some (ad_214 (ho + 52)))) (6 : Int).toNat (some (ad_214 (ho + 62)))) := by have q9 := hc_206; rw [← hE_215 (ho + 2) (by omega), ← hE_215 (ho + 12) (by omega), ← hE_215 (ho + 22) (by omega), ← hE_215 (ho + 32) (by omega), ← hE_215 (ho + 42) (by omega), ← hE_215 (ho + 52) (by omega), ← hE_215 (ho + 62) (by omega)] at q9; rw [hg_217, gu_ne (by omega)]; exact q9
  have hc_221 : g_216 (ho + 72) = .inr (4, [.int (iz 0), .int (iz 0), .int (iz 0), .null, .null, .null]) := by rw [hg_217]; exact gu_self _ _ _
  have hf_222 : isPl κ ad_214 g_216 (ho + 2) 0 v00 := hf_207.grow (fun k hk => hE_215 k (by omega)) (fun q q0 q1 => by rw [hg_217]; exact gu_ne (by omega))
  have hf_223 : isPl κ ad_214 g_216 (ho + 12) 0 v00 := hf_208.grow (fun k hk => hE_215 k (by omega)) (fun q q0 q1 => by rw [hg_217]; exact gu_ne (by omega))
  have hf_224 : isPl κ ad_214 g_216 (ho + 22) 0 v00 := hf_209.grow (fun k hk => hE_215 k (by omega)) (fun q q0 q1 => by rw [hg_217]; exact gu_ne (by omega))
  have hf_225 : isPl κ ad_214 g_216 (ho + 32) 0 v00 := hf_210.grow (fun k hk => hE_215 k (by omega)) (fun q q0 q1 => by rw [hg_217]; exact gu_ne (by omega))
  have hf_226 : isPl κ ad_214 g_216 (ho + 42) 0 v00 := hf_211.grow (fun k hk => hE_215 k (by omega)) (fun q q0 q1 => by rw [hg_217]; exact gu_ne (by omega))
  have hf_227 : isPl κ ad_214 g_216 (ho + 52) 0 v00 := hf_212.grow (fun k hk => hE_215 k (by omega)) (fun q q0 q1 => by rw [hg_217]; exact gu_ne (by omega))
  have hf_228 : isPl κ ad_214 g_216 (ho + 62) 0 v00 := hf_213.grow (fun k hk => hE_215 k (by omega)) (fun q q0 q1 => by rw [hg_217]; exact gu_ne (by omega))
  refine lv_dup C.1.1 C.1.2.1 dX2_init_32 rfl ?_
  refine g_cvG (n' := ho + 82) C G (g_runIA (As := []) (rest := [.ref (ad_214 (ho + 72)), .int (iz 7), .ref (ad_214 (ho + 1))]) (pos := ho + 72) C G AO (c_X4_init l κ B ad_214 g_216 (ho + 72) hc_221) (cwI 0 C.1.2.2.2.2 gX2_init_X4_init rfl rfl rfl (C.1.2.2.2.2 _ (by decide +kernel : Cond.initialized RX4 ∈ wsX2_init)) (C.1.2.2.2.2 _ (by decide +kernel : Cond.methodLink RX2 17 yX4_init ∈ wsX2_init)) (C.1.2.2.2.2 _ (by decide +kernel : Cond.instanceMethod yX4_init ∈ wsX2_init)) rfl (by decide +kernel) ⟨Nat.le_of_ble_eq_true rfl, Nat.le_of_ble_eq_true rfl⟩) rfl hl rfl (Nat.le_of_ble_eq_true rfl) dX2_init_33 ⟨Nat.le_of_ble_eq_true rfl, Nat.le_of_ble_eq_true rfl⟩) (fun ad_229 g_230 H locs hE_231 hw_232 C G => ?_)
  have hE0_233 : ∀ k, k < ho + 1 → ad_229 k = ad k := fun k hk => (hE_231 k (by omega)).trans (hE0_218 k hk)
  rw [← hE_231 ho (by omega)] at hl
  rw [← hE_231 (ho + 72) (by omega), ← hE_231 (ho + 1) (by omega)]
  have hc_234 : g_230 ho = .inr (2, [.ref (ad_229 (ho + 1)), .int (iz 0), .int (iz 0)]) := by have q9 := hc_219; rw [← hE_231 (ho + 1) (by omega)] at q9; exact (hw_232.2 _ (by omega)).trans q9
  have hc_235 : g_230 (ho + 1) = aPl κ 14 (va_up (va_up (va_up (va_up (va_up (va_up (va_up (fun _ => none) (0 : Int).toNat (some (ad_229 (ho + 2)))) (1 : Int).toNat (some (ad_229 (ho + 12)))) (2 : Int).toNat (some (ad_229 (ho + 22)))) (3 : Int).toNat (some (ad_229 (ho + 32)))) (4 : Int).toNat (some (ad_229 (ho + 42)))) (5 : Int).toNat (some (ad_229 (ho + 52)))) (6 : Int).toNat (some (ad_229 (ho + 62)))) := by have q9 := hc_220; rw [← hE_231 (ho + 2) (by omega), ← hE_231 (ho + 12) (by omega), ← hE_231 (ho + 22) (by omega), ← hE_231 (ho + 32) (by omega), ← hE_231 (ho + 42) (by omega), ← hE_231 (ho + 52) (by omega), ← hE_231 (ho + 62) (by omega)] at q9; exact (hw_232.2 _ (by omega)).trans q9
  have hf_236 : isPl κ ad_229 g_230 (ho + 2) 0 v00 := hf_222.grow (fun k hk => hE_231 k (by omega)) (fun q q0 q1 => hw_232.2 _ (by omega))
  have hf_237 : isPl κ ad_229 g_230 (ho + 12) 0 v00 := hf_223.grow (fun k hk => hE_231 k (by omega)) (fun q q0 q1 => hw_232.2 _ (by omega))
  have hf_238 : isPl κ ad_229 g_230 (ho + 22) 0 v00 := hf_224.grow (fun k hk => hE_231 k (by omega)) (fun q q0 q1 => hw_232.2 _ (by omega))
  have hf_239 : isPl κ ad_229 g_230 (ho + 32) 0 v00 := hf_225.grow (fun k hk => hE_231 k (by omega)) (fun q q0 q1 => hw_232.2 _ (by omega))
  have hf_240 : isPl κ ad_229 g_230 (ho + 42) 0 v00 := hf_226.grow (fun k hk => hE_231 k (by omega)) (fun q q0 q1 => hw_232.2 _ (by omega))
  have hf_241 : isPl κ ad_229 g_230 (ho + 52) 0 v00 := hf_227.grow (fun k hk => hE_231 k (by omega)) (fun q q0 q1 => hw_232.2 _ (by omega))
  have hf_242 : isPl κ ad_229 g_230 (ho + 62) 0 v00 := hf_228.grow (fun k hk => hE_231 k (by omega)) (fun q q0 q1 => hw_232.2 _ (by omega))
  refine g_aastPl C G (pos := ho + 1) (q := ho + 72) (by omega) hc_235 (by omega) hw_232.1.1 (by decide) (by decide) (by decide) dX2_init_36 (fun H locs G => ?_)
  obtain ⟨g_243, hg_244⟩ : ∃ g9, g9 = va_up g_230 (ho + 1) (aPl κ 14 (va_up (va_up (va_up (va_up (va_up (va_up (va_up (va_up (fun _ => none) (0 : Int).toNat (some (ad_229 (ho + 2)))) (1 : Int).toNat (some (ad_229 (ho + 12)))) (2 : Int).toNat (some (ad_229 (ho + 22)))) (3 : Int).toNat (some (ad_229 (ho + 32)))) (4 : Int).toNat (some (ad_229 (ho + 42)))) (5 : Int).toNat (some (ad_229 (ho + 52)))) (6 : Int).toNat (some (ad_229 (ho + 62)))) (7 : Int).toNat (some (ad_229 (ho + 72))))) := ⟨_, rfl⟩
  rw [← hg_244] at G
  have hc_245 : g_243 ho = .inr (2, [.ref (ad_229 (ho + 1)), .int (iz 0), .int (iz 0)]) := by rw [hg_244, gu_ne (by omega)]; exact hc_234
  have hc_246 : g_243 (ho + 1) = aPl κ 14 (va_up (va_up (va_up (va_up (va_up (va_up (va_up (va_up (fun _ => none) (0 : Int).toNat (some (ad_229 (ho + 2)))) (1 : Int).toNat (some (ad_229 (ho + 12)))) (2 : Int).toNat (some (ad_229 (ho + 22)))) (3 : Int).toNat (some (ad_229 (ho + 32)))) (4 : Int).toNat (some (ad_229 (ho + 42)))) (5 : Int).toNat (some (ad_229 (ho + 52)))) (6 : Int).toNat (some (ad_229 (ho + 62)))) (7 : Int).toNat (some (ad_229 (ho + 72)))) := by rw [hg_244]; exact gu_self _ _ _
  have hf_247 : isPl κ ad_229 g_243 (ho + 2) 0 v00 := hf_236.grow (fun k hk => rfl) (fun q q0 q1 => by rw [hg_244]; exact gu_ne (by omega))
  have hf_248 : isPl κ ad_229 g_243 (ho + 12) 0 v00 := hf_237.grow (fun k hk => rfl) (fun q q0 q1 => by rw [hg_244]; exact gu_ne (by omega))
  have hf_249 : isPl κ ad_229 g_243 (ho + 22) 0 v00 := hf_238.grow (fun k hk => rfl) (fun q q0 q1 => by rw [hg_244]; exact gu_ne (by omega))
  have hf_250 : isPl κ ad_229 g_243 (ho + 32) 0 v00 := hf_239.grow (fun k hk => rfl) (fun q q0 q1 => by rw [hg_244]; exact gu_ne (by omega))
  have hf_251 : isPl κ ad_229 g_243 (ho + 42) 0 v00 := hf_240.grow (fun k hk => rfl) (fun q q0 q1 => by rw [hg_244]; exact gu_ne (by omega))
  have hf_252 : isPl κ ad_229 g_243 (ho + 52) 0 v00 := hf_241.grow (fun k hk => rfl) (fun q q0 q1 => by rw [hg_244]; exact gu_ne (by omega))
  have hf_253 : isPl κ ad_229 g_243 (ho + 62) 0 v00 := hf_242.grow (fun k hk => rfl) (fun q q0 q1 => by rw [hg_244]; exact gu_ne (by omega))
  have hf_254 : isPl κ ad_229 g_243 (ho + 72) 0 v00 := hw_232.1.grow (fun k hk => rfl) (fun q q0 q1 => by rw [hg_244]; exact gu_ne (by omega))
  refine lv_iinc (v := iz 8) (lv' := [(1, .int (iz 8)), (0, .ref (ad_229 ho))]) C.1.1 C.1.2.1 dX2_init_37 hl (k := 0) rfl (g_inc (by omega)) (by decide) rfl (fun ls hl => ?_)
  refine g_goto (tgt := 15) C dX2_init_40 (by decide) ?_
  refine g_iload_n C dX2_init_15 rfl hl 0 rfl ?_
  refine g_aload_n C dX2_init_16 rfl hl 1 rfl ?_
  refine g_get C G (pos := ho) fX2_init_11 (by omega) hc_245 rfl dX2_init_17 ?_
  refine g_alenPl C G (pos := ho + 1) (by omega) hc_246 dX2_init_20 ?_
  show W p l e _ s m args below meth c _ _ _ _ _ (F0 m _ ls (.int (iz 14) :: _))
  refine g_icmp_ge (tgt := 43) C (by decide) (by decide) dX2_init_21 (by decide) (fun c9 => absurd c9 (by decide)) (fun _ => ?_)
  refine g_aload_n C dX2_init_24 rfl hl 1 rfl ?_
  refine g_get C G (pos := ho) fX2_init_11 (by omega) hc_245 rfl dX2_init_25 ?_
  refine g_iload_n C dX2_init_28 rfl hl 0 rfl ?_
  refine g_new C G (n := ho + 82) (fs := [.int (iz 0), .int (iz 0), .int (iz 0), .null, .null, .null]) (ty := tyX4) (rfl : vwCl[4]? = some (RX4, TX4, 6)) nwX2_init_4 tyX4_ok (by decide +kernel : Cond.classLink RX2 9 RX4 ∈ wsX2_init) (by decide +kernel : Cond.instantiable RX4 6 ∈ wsX2_init) (by decide +kernel : Cond.initialized RX4 ∈ wsX2_init) (fun j hj => by rcases j with _ | _ | _ | _ | _ | _ | j <;> first | rfl | omega) (Nat.le_of_ble_eq_true rfl) (Nat.le_of_ble_eq_true rfl) dX2_init_29 (fun (ad_255 : Nat → Nat) H hE_256 C G => ?_)
  replace C : gC p c cX2_init 2 s m args wsX2_init RX2 κ B (ho + 83) ad_255 := C
  obtain ⟨g_257, hg_258⟩ : ∃ g9, g9 = va_up g_243 (ho + 82) (.inr (4, [.int (iz 0), .int (iz 0), .int (iz 0), .null, .null, .null])) := ⟨_, rfl⟩
  rw [← hg_258] at G
  replace G := (show gG κ B (ho + 83) ad_255 s g_257 H _ from G)
  have hE0_259 : ∀ k, k < ho + 1 → ad_255 k = ad k := fun k hk => (hE_256 k (by omega)).trans (hE0_233 k hk)
  rw [← hE_256 ho (by omega)] at hl
  rw [← hE_256 (ho + 1) (by omega)]
  have hc_260 : g_257 ho = .inr (2, [.ref (ad_255 (ho + 1)), .int (iz 0), .int (iz 0)]) := by have q9 := hc_245; rw [← hE_256 (ho + 1) (by omega)] at q9; rw [hg_258, gu_ne (by omega)]; exact q9
  have hc_261 : g_257 (ho + 1) = aPl κ 14 (va_up (va_up (va_up (va_up (va_up (va_up (va_up (va_up (fun _ => none) (0 : Int).toNat (some (ad_255 (ho + 2)))) (1 : Int).toNat (some (ad_255 (ho + 12)))) (2 : Int).toNat (some (ad_255 (ho + 22)))) (3 : Int).toNat (some (ad_255 (ho + 32)))) (4 : Int).toNat (some (ad_255 (ho + 42)))) (5 : Int).toNat (some (ad_255 (ho + 52)))) (6 : Int).toNat (some (ad_255 (ho + 62)))) (7 : Int).toNat (some (ad_255 (ho + 72)))) := by have q9 := hc_246; rw [← hE_256 (ho + 2) (by omega), ← hE_256 (ho + 12) (by omega), ← hE_256 (ho + 22) (by omega), ← hE_256 (ho + 32) (by omega), ← hE_256 (ho + 42) (by omega), ← hE_256 (ho + 52) (by omega), ← hE_256 (ho + 62) (by omega), ← hE_256 (ho + 72) (by omega)] at q9; rw [hg_258, gu_ne (by omega)]; exact q9
  have hc_262 : g_257 (ho + 82) = .inr (4, [.int (iz 0), .int (iz 0), .int (iz 0), .null, .null, .null]) := by rw [hg_258]; exact gu_self _ _ _
  have hf_263 : isPl κ ad_255 g_257 (ho + 2) 0 v00 := hf_247.grow (fun k hk => hE_256 k (by omega)) (fun q q0 q1 => by rw [hg_258]; exact gu_ne (by omega))
  have hf_264 : isPl κ ad_255 g_257 (ho + 12) 0 v00 := hf_248.grow (fun k hk => hE_256 k (by omega)) (fun q q0 q1 => by rw [hg_258]; exact gu_ne (by omega))
  have hf_265 : isPl κ ad_255 g_257 (ho + 22) 0 v00 := hf_249.grow (fun k hk => hE_256 k (by omega)) (fun q q0 q1 => by rw [hg_258]; exact gu_ne (by omega))
  have hf_266 : isPl κ ad_255 g_257 (ho + 32) 0 v00 := hf_250.grow (fun k hk => hE_256 k (by omega)) (fun q q0 q1 => by rw [hg_258]; exact gu_ne (by omega))
  have hf_267 : isPl κ ad_255 g_257 (ho + 42) 0 v00 := hf_251.grow (fun k hk => hE_256 k (by omega)) (fun q q0 q1 => by rw [hg_258]; exact gu_ne (by omega))
  have hf_268 : isPl κ ad_255 g_257 (ho + 52) 0 v00 := hf_252.grow (fun k hk => hE_256 k (by omega)) (fun q q0 q1 => by rw [hg_258]; exact gu_ne (by omega))
  have hf_269 : isPl κ ad_255 g_257 (ho + 62) 0 v00 := hf_253.grow (fun k hk => hE_256 k (by omega)) (fun q q0 q1 => by rw [hg_258]; exact gu_ne (by omega))
  have hf_270 : isPl κ ad_255 g_257 (ho + 72) 0 v00 := hf_254.grow (fun k hk => hE_256 k (by omega)) (fun q q0 q1 => by rw [hg_258]; exact gu_ne (by omega))
  refine lv_dup C.1.1 C.1.2.1 dX2_init_32 rfl ?_
  refine g_cvG (n' := ho + 92) C G (g_runIA (As := []) (rest := [.ref (ad_255 (ho + 82)), .int (iz 8), .ref (ad_255 (ho + 1))]) (pos := ho + 82) C G AO (c_X4_init l κ B ad_255 g_257 (ho + 82) hc_262) (cwI 0 C.1.2.2.2.2 gX2_init_X4_init rfl rfl rfl (C.1.2.2.2.2 _ (by decide +kernel : Cond.initialized RX4 ∈ wsX2_init)) (C.1.2.2.2.2 _ (by decide +kernel : Cond.methodLink RX2 17 yX4_init ∈ wsX2_init)) (C.1.2.2.2.2 _ (by decide +kernel : Cond.instanceMethod yX4_init ∈ wsX2_init)) rfl (by decide +kernel) ⟨Nat.le_of_ble_eq_true rfl, Nat.le_of_ble_eq_true rfl⟩) rfl hl rfl (Nat.le_of_ble_eq_true rfl) dX2_init_33 ⟨Nat.le_of_ble_eq_true rfl, Nat.le_of_ble_eq_true rfl⟩) (fun ad_271 g_272 H locs hE_273 hw_274 C G => ?_)
  have hE0_275 : ∀ k, k < ho + 1 → ad_271 k = ad k := fun k hk => (hE_273 k (by omega)).trans (hE0_259 k hk)
  rw [← hE_273 ho (by omega)] at hl
  rw [← hE_273 (ho + 82) (by omega), ← hE_273 (ho + 1) (by omega)]
  have hc_276 : g_272 ho = .inr (2, [.ref (ad_271 (ho + 1)), .int (iz 0), .int (iz 0)]) := by have q9 := hc_260; rw [← hE_273 (ho + 1) (by omega)] at q9; exact (hw_274.2 _ (by omega)).trans q9
  have hc_277 : g_272 (ho + 1) = aPl κ 14 (va_up (va_up (va_up (va_up (va_up (va_up (va_up (va_up (fun _ => none) (0 : Int).toNat (some (ad_271 (ho + 2)))) (1 : Int).toNat (some (ad_271 (ho + 12)))) (2 : Int).toNat (some (ad_271 (ho + 22)))) (3 : Int).toNat (some (ad_271 (ho + 32)))) (4 : Int).toNat (some (ad_271 (ho + 42)))) (5 : Int).toNat (some (ad_271 (ho + 52)))) (6 : Int).toNat (some (ad_271 (ho + 62)))) (7 : Int).toNat (some (ad_271 (ho + 72)))) := by have q9 := hc_261; rw [← hE_273 (ho + 2) (by omega), ← hE_273 (ho + 12) (by omega), ← hE_273 (ho + 22) (by omega), ← hE_273 (ho + 32) (by omega), ← hE_273 (ho + 42) (by omega), ← hE_273 (ho + 52) (by omega), ← hE_273 (ho + 62) (by omega), ← hE_273 (ho + 72) (by omega)] at q9; exact (hw_274.2 _ (by omega)).trans q9
  have hf_278 : isPl κ ad_271 g_272 (ho + 2) 0 v00 := hf_263.grow (fun k hk => hE_273 k (by omega)) (fun q q0 q1 => hw_274.2 _ (by omega))
  have hf_279 : isPl κ ad_271 g_272 (ho + 12) 0 v00 := hf_264.grow (fun k hk => hE_273 k (by omega)) (fun q q0 q1 => hw_274.2 _ (by omega))
  have hf_280 : isPl κ ad_271 g_272 (ho + 22) 0 v00 := hf_265.grow (fun k hk => hE_273 k (by omega)) (fun q q0 q1 => hw_274.2 _ (by omega))
  have hf_281 : isPl κ ad_271 g_272 (ho + 32) 0 v00 := hf_266.grow (fun k hk => hE_273 k (by omega)) (fun q q0 q1 => hw_274.2 _ (by omega))
  have hf_282 : isPl κ ad_271 g_272 (ho + 42) 0 v00 := hf_267.grow (fun k hk => hE_273 k (by omega)) (fun q q0 q1 => hw_274.2 _ (by omega))
  have hf_283 : isPl κ ad_271 g_272 (ho + 52) 0 v00 := hf_268.grow (fun k hk => hE_273 k (by omega)) (fun q q0 q1 => hw_274.2 _ (by omega))
  have hf_284 : isPl κ ad_271 g_272 (ho + 62) 0 v00 := hf_269.grow (fun k hk => hE_273 k (by omega)) (fun q q0 q1 => hw_274.2 _ (by omega))
  have hf_285 : isPl κ ad_271 g_272 (ho + 72) 0 v00 := hf_270.grow (fun k hk => hE_273 k (by omega)) (fun q q0 q1 => hw_274.2 _ (by omega))
  refine g_aastPl C G (pos := ho + 1) (q := ho + 82) (by omega) hc_277 (by omega) hw_274.1.1 (by decide) (by decide) (by decide) dX2_init_36 (fun H locs G => ?_)
  obtain ⟨g_286, hg_287⟩ : ∃ g9, g9 = va_up g_272 (ho + 1) (aPl κ 14 (va_up (va_up (va_up (va_up (va_up (va_up (va_up (va_up (va_up (fun _ => none) (0 : Int).toNat (some (ad_271 (ho + 2)))) (1 : Int).toNat (some (ad_271 (ho + 12)))) (2 : Int).toNat (some (ad_271 (ho + 22)))) (3 : Int).toNat (some (ad_271 (ho + 32)))) (4 : Int).toNat (some (ad_271 (ho + 42)))) (5 : Int).toNat (some (ad_271 (ho + 52)))) (6 : Int).toNat (some (ad_271 (ho + 62)))) (7 : Int).toNat (some (ad_271 (ho + 72)))) (8 : Int).toNat (some (ad_271 (ho + 82))))) := ⟨_, rfl⟩
  rw [← hg_287] at G
  have hc_288 : g_286 ho = .inr (2, [.ref (ad_271 (ho + 1)), .int (iz 0), .int (iz 0)]) := by rw [hg_287, gu_ne (by omega)]; exact hc_276
  have hc_289 : g_286 (ho + 1) = aPl κ 14 (va_up (va_up (va_up (va_up (va_up (va_up (va_up (va_up (va_up (fun _ => none) (0 : Int).toNat (some (ad_271 (ho + 2)))) (1 : Int).toNat (some (ad_271 (ho + 12)))) (2 : Int).toNat (some (ad_271 (ho + 22)))) (3 : Int).toNat (some (ad_271 (ho + 32)))) (4 : Int).toNat (some (ad_271 (ho + 42)))) (5 : Int).toNat (some (ad_271 (ho + 52)))) (6 : Int).toNat (some (ad_271 (ho + 62)))) (7 : Int).toNat (some (ad_271 (ho + 72)))) (8 : Int).toNat (some (ad_271 (ho + 82)))) := by rw [hg_287]; exact gu_self _ _ _
  have hf_290 : isPl κ ad_271 g_286 (ho + 2) 0 v00 := hf_278.grow (fun k hk => rfl) (fun q q0 q1 => by rw [hg_287]; exact gu_ne (by omega))
  have hf_291 : isPl κ ad_271 g_286 (ho + 12) 0 v00 := hf_279.grow (fun k hk => rfl) (fun q q0 q1 => by rw [hg_287]; exact gu_ne (by omega))
  have hf_292 : isPl κ ad_271 g_286 (ho + 22) 0 v00 := hf_280.grow (fun k hk => rfl) (fun q q0 q1 => by rw [hg_287]; exact gu_ne (by omega))
  have hf_293 : isPl κ ad_271 g_286 (ho + 32) 0 v00 := hf_281.grow (fun k hk => rfl) (fun q q0 q1 => by rw [hg_287]; exact gu_ne (by omega))
  have hf_294 : isPl κ ad_271 g_286 (ho + 42) 0 v00 := hf_282.grow (fun k hk => rfl) (fun q q0 q1 => by rw [hg_287]; exact gu_ne (by omega))
  have hf_295 : isPl κ ad_271 g_286 (ho + 52) 0 v00 := hf_283.grow (fun k hk => rfl) (fun q q0 q1 => by rw [hg_287]; exact gu_ne (by omega))
  have hf_296 : isPl κ ad_271 g_286 (ho + 62) 0 v00 := hf_284.grow (fun k hk => rfl) (fun q q0 q1 => by rw [hg_287]; exact gu_ne (by omega))
  have hf_297 : isPl κ ad_271 g_286 (ho + 72) 0 v00 := hf_285.grow (fun k hk => rfl) (fun q q0 q1 => by rw [hg_287]; exact gu_ne (by omega))
  have hf_298 : isPl κ ad_271 g_286 (ho + 82) 0 v00 := hw_274.1.grow (fun k hk => rfl) (fun q q0 q1 => by rw [hg_287]; exact gu_ne (by omega))
  refine lv_iinc (v := iz 9) (lv' := [(1, .int (iz 9)), (0, .ref (ad_271 ho))]) C.1.1 C.1.2.1 dX2_init_37 hl (k := 0) rfl (g_inc (by omega)) (by decide) rfl (fun ls hl => ?_)
  refine g_goto (tgt := 15) C dX2_init_40 (by decide) ?_
  refine g_iload_n C dX2_init_15 rfl hl 0 rfl ?_
  refine g_aload_n C dX2_init_16 rfl hl 1 rfl ?_
  refine g_get C G (pos := ho) fX2_init_11 (by omega) hc_288 rfl dX2_init_17 ?_
  refine g_alenPl C G (pos := ho + 1) (by omega) hc_289 dX2_init_20 ?_
  show W p l e _ s m args below meth c _ _ _ _ _ (F0 m _ ls (.int (iz 14) :: _))
  refine g_icmp_ge (tgt := 43) C (by decide) (by decide) dX2_init_21 (by decide) (fun c9 => absurd c9 (by decide)) (fun _ => ?_)
  refine g_aload_n C dX2_init_24 rfl hl 1 rfl ?_
  refine g_get C G (pos := ho) fX2_init_11 (by omega) hc_288 rfl dX2_init_25 ?_
  refine g_iload_n C dX2_init_28 rfl hl 0 rfl ?_
  refine g_new C G (n := ho + 92) (fs := [.int (iz 0), .int (iz 0), .int (iz 0), .null, .null, .null]) (ty := tyX4) (rfl : vwCl[4]? = some (RX4, TX4, 6)) nwX2_init_4 tyX4_ok (by decide +kernel : Cond.classLink RX2 9 RX4 ∈ wsX2_init) (by decide +kernel : Cond.instantiable RX4 6 ∈ wsX2_init) (by decide +kernel : Cond.initialized RX4 ∈ wsX2_init) (fun j hj => by rcases j with _ | _ | _ | _ | _ | _ | j <;> first | rfl | omega) (Nat.le_of_ble_eq_true rfl) (Nat.le_of_ble_eq_true rfl) dX2_init_29 (fun (ad_299 : Nat → Nat) H hE_300 C G => ?_)
  replace C : gC p c cX2_init 2 s m args wsX2_init RX2 κ B (ho + 93) ad_299 := C
  obtain ⟨g_301, hg_302⟩ : ∃ g9, g9 = va_up g_286 (ho + 92) (.inr (4, [.int (iz 0), .int (iz 0), .int (iz 0), .null, .null, .null])) := ⟨_, rfl⟩
  rw [← hg_302] at G
  replace G := (show gG κ B (ho + 93) ad_299 s g_301 H _ from G)
  have hE0_303 : ∀ k, k < ho + 1 → ad_299 k = ad k := fun k hk => (hE_300 k (by omega)).trans (hE0_275 k hk)
  rw [← hE_300 ho (by omega)] at hl
  rw [← hE_300 (ho + 1) (by omega)]
  have hc_304 : g_301 ho = .inr (2, [.ref (ad_299 (ho + 1)), .int (iz 0), .int (iz 0)]) := by have q9 := hc_288; rw [← hE_300 (ho + 1) (by omega)] at q9; rw [hg_302, gu_ne (by omega)]; exact q9
  have hc_305 : g_301 (ho + 1) = aPl κ 14 (va_up (va_up (va_up (va_up (va_up (va_up (va_up (va_up (va_up (fun _ => none) (0 : Int).toNat (some (ad_299 (ho + 2)))) (1 : Int).toNat (some (ad_299 (ho + 12)))) (2 : Int).toNat (some (ad_299 (ho + 22)))) (3 : Int).toNat (some (ad_299 (ho + 32)))) (4 : Int).toNat (some (ad_299 (ho + 42)))) (5 : Int).toNat (some (ad_299 (ho + 52)))) (6 : Int).toNat (some (ad_299 (ho + 62)))) (7 : Int).toNat (some (ad_299 (ho + 72)))) (8 : Int).toNat (some (ad_299 (ho + 82)))) := by have q9 := hc_289; rw [← hE_300 (ho + 2) (by omega), ← hE_300 (ho + 12) (by omega), ← hE_300 (ho + 22) (by omega), ← hE_300 (ho + 32) (by omega), ← hE_300 (ho + 42) (by omega), ← hE_300 (ho + 52) (by omega), ← hE_300 (ho + 62) (by omega), ← hE_300 (ho + 72) (by omega), ← hE_300 (ho + 82) (by omega)] at q9; rw [hg_302, gu_ne (by omega)]; exact q9
  have hc_306 : g_301 (ho + 92) = .inr (4, [.int (iz 0), .int (iz 0), .int (iz 0), .null, .null, .null]) := by rw [hg_302]; exact gu_self _ _ _
  have hf_307 : isPl κ ad_299 g_301 (ho + 2) 0 v00 := hf_290.grow (fun k hk => hE_300 k (by omega)) (fun q q0 q1 => by rw [hg_302]; exact gu_ne (by omega))
  have hf_308 : isPl κ ad_299 g_301 (ho + 12) 0 v00 := hf_291.grow (fun k hk => hE_300 k (by omega)) (fun q q0 q1 => by rw [hg_302]; exact gu_ne (by omega))
  have hf_309 : isPl κ ad_299 g_301 (ho + 22) 0 v00 := hf_292.grow (fun k hk => hE_300 k (by omega)) (fun q q0 q1 => by rw [hg_302]; exact gu_ne (by omega))
  have hf_310 : isPl κ ad_299 g_301 (ho + 32) 0 v00 := hf_293.grow (fun k hk => hE_300 k (by omega)) (fun q q0 q1 => by rw [hg_302]; exact gu_ne (by omega))
  have hf_311 : isPl κ ad_299 g_301 (ho + 42) 0 v00 := hf_294.grow (fun k hk => hE_300 k (by omega)) (fun q q0 q1 => by rw [hg_302]; exact gu_ne (by omega))
  have hf_312 : isPl κ ad_299 g_301 (ho + 52) 0 v00 := hf_295.grow (fun k hk => hE_300 k (by omega)) (fun q q0 q1 => by rw [hg_302]; exact gu_ne (by omega))
  have hf_313 : isPl κ ad_299 g_301 (ho + 62) 0 v00 := hf_296.grow (fun k hk => hE_300 k (by omega)) (fun q q0 q1 => by rw [hg_302]; exact gu_ne (by omega))
  have hf_314 : isPl κ ad_299 g_301 (ho + 72) 0 v00 := hf_297.grow (fun k hk => hE_300 k (by omega)) (fun q q0 q1 => by rw [hg_302]; exact gu_ne (by omega))
  have hf_315 : isPl κ ad_299 g_301 (ho + 82) 0 v00 := hf_298.grow (fun k hk => hE_300 k (by omega)) (fun q q0 q1 => by rw [hg_302]; exact gu_ne (by omega))
  refine lv_dup C.1.1 C.1.2.1 dX2_init_32 rfl ?_
  refine g_cvG (n' := ho + 102) C G (g_runIA (As := []) (rest := [.ref (ad_299 (ho + 92)), .int (iz 9), .ref (ad_299 (ho + 1))]) (pos := ho + 92) C G AO (c_X4_init l κ B ad_299 g_301 (ho + 92) hc_306) (cwI 0 C.1.2.2.2.2 gX2_init_X4_init rfl rfl rfl (C.1.2.2.2.2 _ (by decide +kernel : Cond.initialized RX4 ∈ wsX2_init)) (C.1.2.2.2.2 _ (by decide +kernel : Cond.methodLink RX2 17 yX4_init ∈ wsX2_init)) (C.1.2.2.2.2 _ (by decide +kernel : Cond.instanceMethod yX4_init ∈ wsX2_init)) rfl (by decide +kernel) ⟨Nat.le_of_ble_eq_true rfl, Nat.le_of_ble_eq_true rfl⟩) rfl hl rfl (Nat.le_of_ble_eq_true rfl) dX2_init_33 ⟨Nat.le_of_ble_eq_true rfl, Nat.le_of_ble_eq_true rfl⟩) (fun ad_316 g_317 H locs hE_318 hw_319 C G => ?_)
  have hE0_320 : ∀ k, k < ho + 1 → ad_316 k = ad k := fun k hk => (hE_318 k (by omega)).trans (hE0_303 k hk)
  rw [← hE_318 ho (by omega)] at hl
  rw [← hE_318 (ho + 92) (by omega), ← hE_318 (ho + 1) (by omega)]
  have hc_321 : g_317 ho = .inr (2, [.ref (ad_316 (ho + 1)), .int (iz 0), .int (iz 0)]) := by have q9 := hc_304; rw [← hE_318 (ho + 1) (by omega)] at q9; exact (hw_319.2 _ (by omega)).trans q9
  have hc_322 : g_317 (ho + 1) = aPl κ 14 (va_up (va_up (va_up (va_up (va_up (va_up (va_up (va_up (va_up (fun _ => none) (0 : Int).toNat (some (ad_316 (ho + 2)))) (1 : Int).toNat (some (ad_316 (ho + 12)))) (2 : Int).toNat (some (ad_316 (ho + 22)))) (3 : Int).toNat (some (ad_316 (ho + 32)))) (4 : Int).toNat (some (ad_316 (ho + 42)))) (5 : Int).toNat (some (ad_316 (ho + 52)))) (6 : Int).toNat (some (ad_316 (ho + 62)))) (7 : Int).toNat (some (ad_316 (ho + 72)))) (8 : Int).toNat (some (ad_316 (ho + 82)))) := by have q9 := hc_305; rw [← hE_318 (ho + 2) (by omega), ← hE_318 (ho + 12) (by omega), ← hE_318 (ho + 22) (by omega), ← hE_318 (ho + 32) (by omega), ← hE_318 (ho + 42) (by omega), ← hE_318 (ho + 52) (by omega), ← hE_318 (ho + 62) (by omega), ← hE_318 (ho + 72) (by omega), ← hE_318 (ho + 82) (by omega)] at q9; exact (hw_319.2 _ (by omega)).trans q9
  have hf_323 : isPl κ ad_316 g_317 (ho + 2) 0 v00 := hf_307.grow (fun k hk => hE_318 k (by omega)) (fun q q0 q1 => hw_319.2 _ (by omega))
  have hf_324 : isPl κ ad_316 g_317 (ho + 12) 0 v00 := hf_308.grow (fun k hk => hE_318 k (by omega)) (fun q q0 q1 => hw_319.2 _ (by omega))
  have hf_325 : isPl κ ad_316 g_317 (ho + 22) 0 v00 := hf_309.grow (fun k hk => hE_318 k (by omega)) (fun q q0 q1 => hw_319.2 _ (by omega))
  have hf_326 : isPl κ ad_316 g_317 (ho + 32) 0 v00 := hf_310.grow (fun k hk => hE_318 k (by omega)) (fun q q0 q1 => hw_319.2 _ (by omega))
  have hf_327 : isPl κ ad_316 g_317 (ho + 42) 0 v00 := hf_311.grow (fun k hk => hE_318 k (by omega)) (fun q q0 q1 => hw_319.2 _ (by omega))
  have hf_328 : isPl κ ad_316 g_317 (ho + 52) 0 v00 := hf_312.grow (fun k hk => hE_318 k (by omega)) (fun q q0 q1 => hw_319.2 _ (by omega))
  have hf_329 : isPl κ ad_316 g_317 (ho + 62) 0 v00 := hf_313.grow (fun k hk => hE_318 k (by omega)) (fun q q0 q1 => hw_319.2 _ (by omega))
  have hf_330 : isPl κ ad_316 g_317 (ho + 72) 0 v00 := hf_314.grow (fun k hk => hE_318 k (by omega)) (fun q q0 q1 => hw_319.2 _ (by omega))
  have hf_331 : isPl κ ad_316 g_317 (ho + 82) 0 v00 := hf_315.grow (fun k hk => hE_318 k (by omega)) (fun q q0 q1 => hw_319.2 _ (by omega))
  refine g_aastPl C G (pos := ho + 1) (q := ho + 92) (by omega) hc_322 (by omega) hw_319.1.1 (by decide) (by decide) (by decide) dX2_init_36 (fun H locs G => ?_)
  obtain ⟨g_332, hg_333⟩ : ∃ g9, g9 = va_up g_317 (ho + 1) (aPl κ 14 (va_up (va_up (va_up (va_up (va_up (va_up (va_up (va_up (va_up (va_up (fun _ => none) (0 : Int).toNat (some (ad_316 (ho + 2)))) (1 : Int).toNat (some (ad_316 (ho + 12)))) (2 : Int).toNat (some (ad_316 (ho + 22)))) (3 : Int).toNat (some (ad_316 (ho + 32)))) (4 : Int).toNat (some (ad_316 (ho + 42)))) (5 : Int).toNat (some (ad_316 (ho + 52)))) (6 : Int).toNat (some (ad_316 (ho + 62)))) (7 : Int).toNat (some (ad_316 (ho + 72)))) (8 : Int).toNat (some (ad_316 (ho + 82)))) (9 : Int).toNat (some (ad_316 (ho + 92))))) := ⟨_, rfl⟩
  rw [← hg_333] at G
  have hc_334 : g_332 ho = .inr (2, [.ref (ad_316 (ho + 1)), .int (iz 0), .int (iz 0)]) := by rw [hg_333, gu_ne (by omega)]; exact hc_321
  have hc_335 : g_332 (ho + 1) = aPl κ 14 (va_up (va_up (va_up (va_up (va_up (va_up (va_up (va_up (va_up (va_up (fun _ => none) (0 : Int).toNat (some (ad_316 (ho + 2)))) (1 : Int).toNat (some (ad_316 (ho + 12)))) (2 : Int).toNat (some (ad_316 (ho + 22)))) (3 : Int).toNat (some (ad_316 (ho + 32)))) (4 : Int).toNat (some (ad_316 (ho + 42)))) (5 : Int).toNat (some (ad_316 (ho + 52)))) (6 : Int).toNat (some (ad_316 (ho + 62)))) (7 : Int).toNat (some (ad_316 (ho + 72)))) (8 : Int).toNat (some (ad_316 (ho + 82)))) (9 : Int).toNat (some (ad_316 (ho + 92)))) := by rw [hg_333]; exact gu_self _ _ _
  have hf_336 : isPl κ ad_316 g_332 (ho + 2) 0 v00 := hf_323.grow (fun k hk => rfl) (fun q q0 q1 => by rw [hg_333]; exact gu_ne (by omega))
  have hf_337 : isPl κ ad_316 g_332 (ho + 12) 0 v00 := hf_324.grow (fun k hk => rfl) (fun q q0 q1 => by rw [hg_333]; exact gu_ne (by omega))
  have hf_338 : isPl κ ad_316 g_332 (ho + 22) 0 v00 := hf_325.grow (fun k hk => rfl) (fun q q0 q1 => by rw [hg_333]; exact gu_ne (by omega))
  have hf_339 : isPl κ ad_316 g_332 (ho + 32) 0 v00 := hf_326.grow (fun k hk => rfl) (fun q q0 q1 => by rw [hg_333]; exact gu_ne (by omega))
  have hf_340 : isPl κ ad_316 g_332 (ho + 42) 0 v00 := hf_327.grow (fun k hk => rfl) (fun q q0 q1 => by rw [hg_333]; exact gu_ne (by omega))
  have hf_341 : isPl κ ad_316 g_332 (ho + 52) 0 v00 := hf_328.grow (fun k hk => rfl) (fun q q0 q1 => by rw [hg_333]; exact gu_ne (by omega))
  have hf_342 : isPl κ ad_316 g_332 (ho + 62) 0 v00 := hf_329.grow (fun k hk => rfl) (fun q q0 q1 => by rw [hg_333]; exact gu_ne (by omega))
  have hf_343 : isPl κ ad_316 g_332 (ho + 72) 0 v00 := hf_330.grow (fun k hk => rfl) (fun q q0 q1 => by rw [hg_333]; exact gu_ne (by omega))
  have hf_344 : isPl κ ad_316 g_332 (ho + 82) 0 v00 := hf_331.grow (fun k hk => rfl) (fun q q0 q1 => by rw [hg_333]; exact gu_ne (by omega))
  have hf_345 : isPl κ ad_316 g_332 (ho + 92) 0 v00 := hw_319.1.grow (fun k hk => rfl) (fun q q0 q1 => by rw [hg_333]; exact gu_ne (by omega))
  refine lv_iinc (v := iz 10) (lv' := [(1, .int (iz 10)), (0, .ref (ad_316 ho))]) C.1.1 C.1.2.1 dX2_init_37 hl (k := 0) rfl (g_inc (by omega)) (by decide) rfl (fun ls hl => ?_)
  refine g_goto (tgt := 15) C dX2_init_40 (by decide) ?_
  refine g_iload_n C dX2_init_15 rfl hl 0 rfl ?_
  refine g_aload_n C dX2_init_16 rfl hl 1 rfl ?_
  refine g_get C G (pos := ho) fX2_init_11 (by omega) hc_334 rfl dX2_init_17 ?_
  refine g_alenPl C G (pos := ho + 1) (by omega) hc_335 dX2_init_20 ?_
  show W p l e _ s m args below meth c _ _ _ _ _ (F0 m _ ls (.int (iz 14) :: _))
  refine g_icmp_ge (tgt := 43) C (by decide) (by decide) dX2_init_21 (by decide) (fun c9 => absurd c9 (by decide)) (fun _ => ?_)
  refine g_aload_n C dX2_init_24 rfl hl 1 rfl ?_
  refine g_get C G (pos := ho) fX2_init_11 (by omega) hc_334 rfl dX2_init_25 ?_
  refine g_iload_n C dX2_init_28 rfl hl 0 rfl ?_
  refine g_new C G (n := ho + 102) (fs := [.int (iz 0), .int (iz 0), .int (iz 0), .null, .null, .null]) (ty := tyX4) (rfl : vwCl[4]? = some (RX4, TX4, 6)) nwX2_init_4 tyX4_ok (by decide +kernel : Cond.classLink RX2 9 RX4 ∈ wsX2_init) (by decide +kernel : Cond.instantiable RX4 6 ∈ wsX2_init) (by decide +kernel : Cond.initialized RX4 ∈ wsX2_init) (fun j hj => by rcases j with _ | _ | _ | _ | _ | _ | j <;> first | rfl | omega) (Nat.le_of_ble_eq_true rfl) (Nat.le_of_ble_eq_true rfl) dX2_init_29 (fun (ad_346 : Nat → Nat) H hE_347 C G => ?_)
  replace C : gC p c cX2_init 2 s m args wsX2_init RX2 κ B (ho + 103) ad_346 := C
  obtain ⟨g_348, hg_349⟩ : ∃ g9, g9 = va_up g_332 (ho + 102) (.inr (4, [.int (iz 0), .int (iz 0), .int (iz 0), .null, .null, .null])) := ⟨_, rfl⟩
  rw [← hg_349] at G
  replace G := (show gG κ B (ho + 103) ad_346 s g_348 H _ from G)
  have hE0_350 : ∀ k, k < ho + 1 → ad_346 k = ad k := fun k hk => (hE_347 k (by omega)).trans (hE0_320 k hk)
  rw [← hE_347 ho (by omega)] at hl
  rw [← hE_347 (ho + 1) (by omega)]
  have hc_351 : g_348 ho = .inr (2, [.ref (ad_346 (ho + 1)), .int (iz 0), .int (iz 0)]) := by have q9 := hc_334; rw [← hE_347 (ho + 1) (by omega)] at q9; rw [hg_349, gu_ne (by omega)]; exact q9
  have hc_352 : g_348 (ho + 1) = aPl κ 14 (va_up (va_up (va_up (va_up (va_up (va_up (va_up (va_up (va_up (va_up (fun _ => none) (0 : Int).toNat (some (ad_346 (ho + 2)))) (1 : Int).toNat (some (ad_346 (ho + 12)))) (2 : Int).toNat (some (ad_346 (ho + 22)))) (3 : Int).toNat (some (ad_346 (ho + 32)))) (4 : Int).toNat (some (ad_346 (ho + 42)))) (5 : Int).toNat (some (ad_346 (ho + 52)))) (6 : Int).toNat (some (ad_346 (ho + 62)))) (7 : Int).toNat (some (ad_346 (ho + 72)))) (8 : Int).toNat (some (ad_346 (ho + 82)))) (9 : Int).toNat (some (ad_346 (ho + 92)))) := by have q9 := hc_335; rw [← hE_347 (ho + 2) (by omega), ← hE_347 (ho + 12) (by omega), ← hE_347 (ho + 22) (by omega), ← hE_347 (ho + 32) (by omega), ← hE_347 (ho + 42) (by omega), ← hE_347 (ho + 52) (by omega), ← hE_347 (ho + 62) (by omega), ← hE_347 (ho + 72) (by omega), ← hE_347 (ho + 82) (by omega), ← hE_347 (ho + 92) (by omega)] at q9; rw [hg_349, gu_ne (by omega)]; exact q9
  have hc_353 : g_348 (ho + 102) = .inr (4, [.int (iz 0), .int (iz 0), .int (iz 0), .null, .null, .null]) := by rw [hg_349]; exact gu_self _ _ _
  have hf_354 : isPl κ ad_346 g_348 (ho + 2) 0 v00 := hf_336.grow (fun k hk => hE_347 k (by omega)) (fun q q0 q1 => by rw [hg_349]; exact gu_ne (by omega))
  have hf_355 : isPl κ ad_346 g_348 (ho + 12) 0 v00 := hf_337.grow (fun k hk => hE_347 k (by omega)) (fun q q0 q1 => by rw [hg_349]; exact gu_ne (by omega))
  have hf_356 : isPl κ ad_346 g_348 (ho + 22) 0 v00 := hf_338.grow (fun k hk => hE_347 k (by omega)) (fun q q0 q1 => by rw [hg_349]; exact gu_ne (by omega))
  have hf_357 : isPl κ ad_346 g_348 (ho + 32) 0 v00 := hf_339.grow (fun k hk => hE_347 k (by omega)) (fun q q0 q1 => by rw [hg_349]; exact gu_ne (by omega))
  have hf_358 : isPl κ ad_346 g_348 (ho + 42) 0 v00 := hf_340.grow (fun k hk => hE_347 k (by omega)) (fun q q0 q1 => by rw [hg_349]; exact gu_ne (by omega))
  have hf_359 : isPl κ ad_346 g_348 (ho + 52) 0 v00 := hf_341.grow (fun k hk => hE_347 k (by omega)) (fun q q0 q1 => by rw [hg_349]; exact gu_ne (by omega))
  have hf_360 : isPl κ ad_346 g_348 (ho + 62) 0 v00 := hf_342.grow (fun k hk => hE_347 k (by omega)) (fun q q0 q1 => by rw [hg_349]; exact gu_ne (by omega))
  have hf_361 : isPl κ ad_346 g_348 (ho + 72) 0 v00 := hf_343.grow (fun k hk => hE_347 k (by omega)) (fun q q0 q1 => by rw [hg_349]; exact gu_ne (by omega))
  have hf_362 : isPl κ ad_346 g_348 (ho + 82) 0 v00 := hf_344.grow (fun k hk => hE_347 k (by omega)) (fun q q0 q1 => by rw [hg_349]; exact gu_ne (by omega))
  have hf_363 : isPl κ ad_346 g_348 (ho + 92) 0 v00 := hf_345.grow (fun k hk => hE_347 k (by omega)) (fun q q0 q1 => by rw [hg_349]; exact gu_ne (by omega))
  refine lv_dup C.1.1 C.1.2.1 dX2_init_32 rfl ?_
  refine g_cvG (n' := ho + 112) C G (g_runIA (As := []) (rest := [.ref (ad_346 (ho + 102)), .int (iz 10), .ref (ad_346 (ho + 1))]) (pos := ho + 102) C G AO (c_X4_init l κ B ad_346 g_348 (ho + 102) hc_353) (cwI 0 C.1.2.2.2.2 gX2_init_X4_init rfl rfl rfl (C.1.2.2.2.2 _ (by decide +kernel : Cond.initialized RX4 ∈ wsX2_init)) (C.1.2.2.2.2 _ (by decide +kernel : Cond.methodLink RX2 17 yX4_init ∈ wsX2_init)) (C.1.2.2.2.2 _ (by decide +kernel : Cond.instanceMethod yX4_init ∈ wsX2_init)) rfl (by decide +kernel) ⟨Nat.le_of_ble_eq_true rfl, Nat.le_of_ble_eq_true rfl⟩) rfl hl rfl (Nat.le_of_ble_eq_true rfl) dX2_init_33 ⟨Nat.le_of_ble_eq_true rfl, Nat.le_of_ble_eq_true rfl⟩) (fun ad_364 g_365 H locs hE_366 hw_367 C G => ?_)
  have hE0_368 : ∀ k, k < ho + 1 → ad_364 k = ad k := fun k hk => (hE_366 k (by omega)).trans (hE0_350 k hk)
  rw [← hE_366 ho (by omega)] at hl
  rw [← hE_366 (ho + 102) (by omega), ← hE_366 (ho + 1) (by omega)]
  have hc_369 : g_365 ho = .inr (2, [.ref (ad_364 (ho + 1)), .int (iz 0), .int (iz 0)]) := by have q9 := hc_351; rw [← hE_366 (ho + 1) (by omega)] at q9; exact (hw_367.2 _ (by omega)).trans q9
  have hc_370 : g_365 (ho + 1) = aPl κ 14 (va_up (va_up (va_up (va_up (va_up (va_up (va_up (va_up (va_up (va_up (fun _ => none) (0 : Int).toNat (some (ad_364 (ho + 2)))) (1 : Int).toNat (some (ad_364 (ho + 12)))) (2 : Int).toNat (some (ad_364 (ho + 22)))) (3 : Int).toNat (some (ad_364 (ho + 32)))) (4 : Int).toNat (some (ad_364 (ho + 42)))) (5 : Int).toNat (some (ad_364 (ho + 52)))) (6 : Int).toNat (some (ad_364 (ho + 62)))) (7 : Int).toNat (some (ad_364 (ho + 72)))) (8 : Int).toNat (some (ad_364 (ho + 82)))) (9 : Int).toNat (some (ad_364 (ho + 92)))) := by have q9 := hc_352; rw [← hE_366 (ho + 2) (by omega), ← hE_366 (ho + 12) (by omega), ← hE_366 (ho + 22) (by omega), ← hE_366 (ho + 32) (by omega), ← hE_366 (ho + 42) (by omega), ← hE_366 (ho + 52) (by omega), ← hE_366 (ho + 62) (by omega), ← hE_366 (ho + 72) (by omega), ← hE_366 (ho + 82) (by omega), ← hE_366 (ho + 92) (by omega)] at q9; exact (hw_367.2 _ (by omega)).trans q9
  have hf_371 : isPl κ ad_364 g_365 (ho + 2) 0 v00 := hf_354.grow (fun k hk => hE_366 k (by omega)) (fun q q0 q1 => hw_367.2 _ (by omega))
  have hf_372 : isPl κ ad_364 g_365 (ho + 12) 0 v00 := hf_355.grow (fun k hk => hE_366 k (by omega)) (fun q q0 q1 => hw_367.2 _ (by omega))
  have hf_373 : isPl κ ad_364 g_365 (ho + 22) 0 v00 := hf_356.grow (fun k hk => hE_366 k (by omega)) (fun q q0 q1 => hw_367.2 _ (by omega))
  have hf_374 : isPl κ ad_364 g_365 (ho + 32) 0 v00 := hf_357.grow (fun k hk => hE_366 k (by omega)) (fun q q0 q1 => hw_367.2 _ (by omega))
  have hf_375 : isPl κ ad_364 g_365 (ho + 42) 0 v00 := hf_358.grow (fun k hk => hE_366 k (by omega)) (fun q q0 q1 => hw_367.2 _ (by omega))
  have hf_376 : isPl κ ad_364 g_365 (ho + 52) 0 v00 := hf_359.grow (fun k hk => hE_366 k (by omega)) (fun q q0 q1 => hw_367.2 _ (by omega))
  have hf_377 : isPl κ ad_364 g_365 (ho + 62) 0 v00 := hf_360.grow (fun k hk => hE_366 k (by omega)) (fun q q0 q1 => hw_367.2 _ (by omega))
  have hf_378 : isPl κ ad_364 g_365 (ho + 72) 0 v00 := hf_361.grow (fun k hk => hE_366 k (by omega)) (fun q q0 q1 => hw_367.2 _ (by omega))
  have hf_379 : isPl κ ad_364 g_365 (ho + 82) 0 v00 := hf_362.grow (fun k hk => hE_366 k (by omega)) (fun q q0 q1 => hw_367.2 _ (by omega))
  have hf_380 : isPl κ ad_364 g_365 (ho + 92) 0 v00 := hf_363.grow (fun k hk => hE_366 k (by omega)) (fun q q0 q1 => hw_367.2 _ (by omega))
  refine g_aastPl C G (pos := ho + 1) (q := ho + 102) (by omega) hc_370 (by omega) hw_367.1.1 (by decide) (by decide) (by decide) dX2_init_36 (fun H locs G => ?_)
  obtain ⟨g_381, hg_382⟩ : ∃ g9, g9 = va_up g_365 (ho + 1) (aPl κ 14 (va_up (va_up (va_up (va_up (va_up (va_up (va_up (va_up (va_up (va_up (va_up (fun _ => none) (0 : Int).toNat (some (ad_364 (ho + 2)))) (1 : Int).toNat (some (ad_364 (ho + 12)))) (2 : Int).toNat (some (ad_364 (ho + 22)))) (3 : Int).toNat (some (ad_364 (ho + 32)))) (4 : Int).toNat (some (ad_364 (ho + 42)))) (5 : Int).toNat (some (ad_364 (ho + 52)))) (6 : Int).toNat (some (ad_364 (ho + 62)))) (7 : Int).toNat (some (ad_364 (ho + 72)))) (8 : Int).toNat (some (ad_364 (ho + 82)))) (9 : Int).toNat (some (ad_364 (ho + 92)))) (10 : Int).toNat (some (ad_364 (ho + 102))))) := ⟨_, rfl⟩
  rw [← hg_382] at G
  have hc_383 : g_381 ho = .inr (2, [.ref (ad_364 (ho + 1)), .int (iz 0), .int (iz 0)]) := by rw [hg_382, gu_ne (by omega)]; exact hc_369
  have hc_384 : g_381 (ho + 1) = aPl κ 14 (va_up (va_up (va_up (va_up (va_up (va_up (va_up (va_up (va_up (va_up (va_up (fun _ => none) (0 : Int).toNat (some (ad_364 (ho + 2)))) (1 : Int).toNat (some (ad_364 (ho + 12)))) (2 : Int).toNat (some (ad_364 (ho + 22)))) (3 : Int).toNat (some (ad_364 (ho + 32)))) (4 : Int).toNat (some (ad_364 (ho + 42)))) (5 : Int).toNat (some (ad_364 (ho + 52)))) (6 : Int).toNat (some (ad_364 (ho + 62)))) (7 : Int).toNat (some (ad_364 (ho + 72)))) (8 : Int).toNat (some (ad_364 (ho + 82)))) (9 : Int).toNat (some (ad_364 (ho + 92)))) (10 : Int).toNat (some (ad_364 (ho + 102)))) := by rw [hg_382]; exact gu_self _ _ _
  have hf_385 : isPl κ ad_364 g_381 (ho + 2) 0 v00 := hf_371.grow (fun k hk => rfl) (fun q q0 q1 => by rw [hg_382]; exact gu_ne (by omega))
  have hf_386 : isPl κ ad_364 g_381 (ho + 12) 0 v00 := hf_372.grow (fun k hk => rfl) (fun q q0 q1 => by rw [hg_382]; exact gu_ne (by omega))
  have hf_387 : isPl κ ad_364 g_381 (ho + 22) 0 v00 := hf_373.grow (fun k hk => rfl) (fun q q0 q1 => by rw [hg_382]; exact gu_ne (by omega))
  have hf_388 : isPl κ ad_364 g_381 (ho + 32) 0 v00 := hf_374.grow (fun k hk => rfl) (fun q q0 q1 => by rw [hg_382]; exact gu_ne (by omega))
  have hf_389 : isPl κ ad_364 g_381 (ho + 42) 0 v00 := hf_375.grow (fun k hk => rfl) (fun q q0 q1 => by rw [hg_382]; exact gu_ne (by omega))
  have hf_390 : isPl κ ad_364 g_381 (ho + 52) 0 v00 := hf_376.grow (fun k hk => rfl) (fun q q0 q1 => by rw [hg_382]; exact gu_ne (by omega))
  have hf_391 : isPl κ ad_364 g_381 (ho + 62) 0 v00 := hf_377.grow (fun k hk => rfl) (fun q q0 q1 => by rw [hg_382]; exact gu_ne (by omega))
  have hf_392 : isPl κ ad_364 g_381 (ho + 72) 0 v00 := hf_378.grow (fun k hk => rfl) (fun q q0 q1 => by rw [hg_382]; exact gu_ne (by omega))
  have hf_393 : isPl κ ad_364 g_381 (ho + 82) 0 v00 := hf_379.grow (fun k hk => rfl) (fun q q0 q1 => by rw [hg_382]; exact gu_ne (by omega))
  have hf_394 : isPl κ ad_364 g_381 (ho + 92) 0 v00 := hf_380.grow (fun k hk => rfl) (fun q q0 q1 => by rw [hg_382]; exact gu_ne (by omega))
  have hf_395 : isPl κ ad_364 g_381 (ho + 102) 0 v00 := hw_367.1.grow (fun k hk => rfl) (fun q q0 q1 => by rw [hg_382]; exact gu_ne (by omega))
  refine lv_iinc (v := iz 11) (lv' := [(1, .int (iz 11)), (0, .ref (ad_364 ho))]) C.1.1 C.1.2.1 dX2_init_37 hl (k := 0) rfl (g_inc (by omega)) (by decide) rfl (fun ls hl => ?_)
  refine g_goto (tgt := 15) C dX2_init_40 (by decide) ?_
  refine g_iload_n C dX2_init_15 rfl hl 0 rfl ?_
  refine g_aload_n C dX2_init_16 rfl hl 1 rfl ?_
  refine g_get C G (pos := ho) fX2_init_11 (by omega) hc_383 rfl dX2_init_17 ?_
  refine g_alenPl C G (pos := ho + 1) (by omega) hc_384 dX2_init_20 ?_
  show W p l e _ s m args below meth c _ _ _ _ _ (F0 m _ ls (.int (iz 14) :: _))
  refine g_icmp_ge (tgt := 43) C (by decide) (by decide) dX2_init_21 (by decide) (fun c9 => absurd c9 (by decide)) (fun _ => ?_)
  refine g_aload_n C dX2_init_24 rfl hl 1 rfl ?_
  refine g_get C G (pos := ho) fX2_init_11 (by omega) hc_383 rfl dX2_init_25 ?_
  refine g_iload_n C dX2_init_28 rfl hl 0 rfl ?_
  refine g_new C G (n := ho + 112) (fs := [.int (iz 0), .int (iz 0), .int (iz 0), .null, .null, .null]) (ty := tyX4) (rfl : vwCl[4]? = some (RX4, TX4, 6)) nwX2_init_4 tyX4_ok (by decide +kernel : Cond.classLink RX2 9 RX4 ∈ wsX2_init) (by decide +kernel : Cond.instantiable RX4 6 ∈ wsX2_init) (by decide +kernel : Cond.initialized RX4 ∈ wsX2_init) (fun j hj => by rcases j with _ | _ | _ | _ | _ | _ | j <;> first | rfl | omega) (Nat.le_of_ble_eq_true rfl) (Nat.le_of_ble_eq_true rfl) dX2_init_29 (fun (ad_396 : Nat → Nat) H hE_397 C G => ?_)
  replace C : gC p c cX2_init 2 s m args wsX2_init RX2 κ B (ho + 113) ad_396 := C
  obtain ⟨g_398, hg_399⟩ : ∃ g9, g9 = va_up g_381 (ho + 112) (.inr (4, [.int (iz 0), .int (iz 0), .int (iz 0), .null, .null, .null])) := ⟨_, rfl⟩
  rw [← hg_399] at G
  replace G := (show gG κ B (ho + 113) ad_396 s g_398 H _ from G)
  have hE0_400 : ∀ k, k < ho + 1 → ad_396 k = ad k := fun k hk => (hE_397 k (by omega)).trans (hE0_368 k hk)
  rw [← hE_397 ho (by omega)] at hl
  rw [← hE_397 (ho + 1) (by omega)]
  have hc_401 : g_398 ho = .inr (2, [.ref (ad_396 (ho + 1)), .int (iz 0), .int (iz 0)]) := by have q9 := hc_383; rw [← hE_397 (ho + 1) (by omega)] at q9; rw [hg_399, gu_ne (by omega)]; exact q9
  have hc_402 : g_398 (ho + 1) = aPl κ 14 (va_up (va_up (va_up (va_up (va_up (va_up (va_up (va_up (va_up (va_up (va_up (fun _ => none) (0 : Int).toNat (some (ad_396 (ho + 2)))) (1 : Int).toNat (some (ad_396 (ho + 12)))) (2 : Int).toNat (some (ad_396 (ho + 22)))) (3 : Int).toNat (some (ad_396 (ho + 32)))) (4 : Int).toNat (some (ad_396 (ho + 42)))) (5 : Int).toNat (some (ad_396 (ho + 52)))) (6 : Int).toNat (some (ad_396 (ho + 62)))) (7 : Int).toNat (some (ad_396 (ho + 72)))) (8 : Int).toNat (some (ad_396 (ho + 82)))) (9 : Int).toNat (some (ad_396 (ho + 92)))) (10 : Int).toNat (some (ad_396 (ho + 102)))) := by have q9 := hc_384; rw [← hE_397 (ho + 2) (by omega), ← hE_397 (ho + 12) (by omega), ← hE_397 (ho + 22) (by omega), ← hE_397 (ho + 32) (by omega), ← hE_397 (ho + 42) (by omega), ← hE_397 (ho + 52) (by omega), ← hE_397 (ho + 62) (by omega), ← hE_397 (ho + 72) (by omega), ← hE_397 (ho + 82) (by omega), ← hE_397 (ho + 92) (by omega), ← hE_397 (ho + 102) (by omega)] at q9; rw [hg_399, gu_ne (by omega)]; exact q9
  have hc_403 : g_398 (ho + 112) = .inr (4, [.int (iz 0), .int (iz 0), .int (iz 0), .null, .null, .null]) := by rw [hg_399]; exact gu_self _ _ _
  have hf_404 : isPl κ ad_396 g_398 (ho + 2) 0 v00 := hf_385.grow (fun k hk => hE_397 k (by omega)) (fun q q0 q1 => by rw [hg_399]; exact gu_ne (by omega))
  have hf_405 : isPl κ ad_396 g_398 (ho + 12) 0 v00 := hf_386.grow (fun k hk => hE_397 k (by omega)) (fun q q0 q1 => by rw [hg_399]; exact gu_ne (by omega))
  have hf_406 : isPl κ ad_396 g_398 (ho + 22) 0 v00 := hf_387.grow (fun k hk => hE_397 k (by omega)) (fun q q0 q1 => by rw [hg_399]; exact gu_ne (by omega))
  have hf_407 : isPl κ ad_396 g_398 (ho + 32) 0 v00 := hf_388.grow (fun k hk => hE_397 k (by omega)) (fun q q0 q1 => by rw [hg_399]; exact gu_ne (by omega))
  have hf_408 : isPl κ ad_396 g_398 (ho + 42) 0 v00 := hf_389.grow (fun k hk => hE_397 k (by omega)) (fun q q0 q1 => by rw [hg_399]; exact gu_ne (by omega))
  have hf_409 : isPl κ ad_396 g_398 (ho + 52) 0 v00 := hf_390.grow (fun k hk => hE_397 k (by omega)) (fun q q0 q1 => by rw [hg_399]; exact gu_ne (by omega))
  have hf_410 : isPl κ ad_396 g_398 (ho + 62) 0 v00 := hf_391.grow (fun k hk => hE_397 k (by omega)) (fun q q0 q1 => by rw [hg_399]; exact gu_ne (by omega))
  have hf_411 : isPl κ ad_396 g_398 (ho + 72) 0 v00 := hf_392.grow (fun k hk => hE_397 k (by omega)) (fun q q0 q1 => by rw [hg_399]; exact gu_ne (by omega))
  have hf_412 : isPl κ ad_396 g_398 (ho + 82) 0 v00 := hf_393.grow (fun k hk => hE_397 k (by omega)) (fun q q0 q1 => by rw [hg_399]; exact gu_ne (by omega))
  have hf_413 : isPl κ ad_396 g_398 (ho + 92) 0 v00 := hf_394.grow (fun k hk => hE_397 k (by omega)) (fun q q0 q1 => by rw [hg_399]; exact gu_ne (by omega))
  have hf_414 : isPl κ ad_396 g_398 (ho + 102) 0 v00 := hf_395.grow (fun k hk => hE_397 k (by omega)) (fun q q0 q1 => by rw [hg_399]; exact gu_ne (by omega))
  refine lv_dup C.1.1 C.1.2.1 dX2_init_32 rfl ?_
  refine g_cvG (n' := ho + 122) C G (g_runIA (As := []) (rest := [.ref (ad_396 (ho + 112)), .int (iz 11), .ref (ad_396 (ho + 1))]) (pos := ho + 112) C G AO (c_X4_init l κ B ad_396 g_398 (ho + 112) hc_403) (cwI 0 C.1.2.2.2.2 gX2_init_X4_init rfl rfl rfl (C.1.2.2.2.2 _ (by decide +kernel : Cond.initialized RX4 ∈ wsX2_init)) (C.1.2.2.2.2 _ (by decide +kernel : Cond.methodLink RX2 17 yX4_init ∈ wsX2_init)) (C.1.2.2.2.2 _ (by decide +kernel : Cond.instanceMethod yX4_init ∈ wsX2_init)) rfl (by decide +kernel) ⟨Nat.le_of_ble_eq_true rfl, Nat.le_of_ble_eq_true rfl⟩) rfl hl rfl (Nat.le_of_ble_eq_true rfl) dX2_init_33 ⟨Nat.le_of_ble_eq_true rfl, Nat.le_of_ble_eq_true rfl⟩) (fun ad_415 g_416 H locs hE_417 hw_418 C G => ?_)
  have hE0_419 : ∀ k, k < ho + 1 → ad_415 k = ad k := fun k hk => (hE_417 k (by omega)).trans (hE0_400 k hk)
  rw [← hE_417 ho (by omega)] at hl
  rw [← hE_417 (ho + 112) (by omega), ← hE_417 (ho + 1) (by omega)]
  have hc_420 : g_416 ho = .inr (2, [.ref (ad_415 (ho + 1)), .int (iz 0), .int (iz 0)]) := by have q9 := hc_401; rw [← hE_417 (ho + 1) (by omega)] at q9; exact (hw_418.2 _ (by omega)).trans q9
  have hc_421 : g_416 (ho + 1) = aPl κ 14 (va_up (va_up (va_up (va_up (va_up (va_up (va_up (va_up (va_up (va_up (va_up (fun _ => none) (0 : Int).toNat (some (ad_415 (ho + 2)))) (1 : Int).toNat (some (ad_415 (ho + 12)))) (2 : Int).toNat (some (ad_415 (ho + 22)))) (3 : Int).toNat (some (ad_415 (ho + 32)))) (4 : Int).toNat (some (ad_415 (ho + 42)))) (5 : Int).toNat (some (ad_415 (ho + 52)))) (6 : Int).toNat (some (ad_415 (ho + 62)))) (7 : Int).toNat (some (ad_415 (ho + 72)))) (8 : Int).toNat (some (ad_415 (ho + 82)))) (9 : Int).toNat (some (ad_415 (ho + 92)))) (10 : Int).toNat (some (ad_415 (ho + 102)))) := by have q9 := hc_402; rw [← hE_417 (ho + 2) (by omega), ← hE_417 (ho + 12) (by omega), ← hE_417 (ho + 22) (by omega), ← hE_417 (ho + 32) (by omega), ← hE_417 (ho + 42) (by omega), ← hE_417 (ho + 52) (by omega), ← hE_417 (ho + 62) (by omega), ← hE_417 (ho + 72) (by omega), ← hE_417 (ho + 82) (by omega), ← hE_417 (ho + 92) (by omega), ← hE_417 (ho + 102) (by omega)] at q9; exact (hw_418.2 _ (by omega)).trans q9
  have hf_422 : isPl κ ad_415 g_416 (ho + 2) 0 v00 := hf_404.grow (fun k hk => hE_417 k (by omega)) (fun q q0 q1 => hw_418.2 _ (by omega))
  have hf_423 : isPl κ ad_415 g_416 (ho + 12) 0 v00 := hf_405.grow (fun k hk => hE_417 k (by omega)) (fun q q0 q1 => hw_418.2 _ (by omega))
  have hf_424 : isPl κ ad_415 g_416 (ho + 22) 0 v00 := hf_406.grow (fun k hk => hE_417 k (by omega)) (fun q q0 q1 => hw_418.2 _ (by omega))
  have hf_425 : isPl κ ad_415 g_416 (ho + 32) 0 v00 := hf_407.grow (fun k hk => hE_417 k (by omega)) (fun q q0 q1 => hw_418.2 _ (by omega))
  have hf_426 : isPl κ ad_415 g_416 (ho + 42) 0 v00 := hf_408.grow (fun k hk => hE_417 k (by omega)) (fun q q0 q1 => hw_418.2 _ (by omega))
  have hf_427 : isPl κ ad_415 g_416 (ho + 52) 0 v00 := hf_409.grow (fun k hk => hE_417 k (by omega)) (fun q q0 q1 => hw_418.2 _ (by omega))
  have hf_428 : isPl κ ad_415 g_416 (ho + 62) 0 v00 := hf_410.grow (fun k hk => hE_417 k (by omega)) (fun q q0 q1 => hw_418.2 _ (by omega))
  have hf_429 : isPl κ ad_415 g_416 (ho + 72) 0 v00 := hf_411.grow (fun k hk => hE_417 k (by omega)) (fun q q0 q1 => hw_418.2 _ (by omega))
  have hf_430 : isPl κ ad_415 g_416 (ho + 82) 0 v00 := hf_412.grow (fun k hk => hE_417 k (by omega)) (fun q q0 q1 => hw_418.2 _ (by omega))
  have hf_431 : isPl κ ad_415 g_416 (ho + 92) 0 v00 := hf_413.grow (fun k hk => hE_417 k (by omega)) (fun q q0 q1 => hw_418.2 _ (by omega))
  have hf_432 : isPl κ ad_415 g_416 (ho + 102) 0 v00 := hf_414.grow (fun k hk => hE_417 k (by omega)) (fun q q0 q1 => hw_418.2 _ (by omega))
  refine g_aastPl C G (pos := ho + 1) (q := ho + 112) (by omega) hc_421 (by omega) hw_418.1.1 (by decide) (by decide) (by decide) dX2_init_36 (fun H locs G => ?_)
  obtain ⟨g_433, hg_434⟩ : ∃ g9, g9 = va_up g_416 (ho + 1) (aPl κ 14 (va_up (va_up (va_up (va_up (va_up (va_up (va_up (va_up (va_up (va_up (va_up (va_up (fun _ => none) (0 : Int).toNat (some (ad_415 (ho + 2)))) (1 : Int).toNat (some (ad_415 (ho + 12)))) (2 : Int).toNat (some (ad_415 (ho + 22)))) (3 : Int).toNat (some (ad_415 (ho + 32)))) (4 : Int).toNat (some (ad_415 (ho + 42)))) (5 : Int).toNat (some (ad_415 (ho + 52)))) (6 : Int).toNat (some (ad_415 (ho + 62)))) (7 : Int).toNat (some (ad_415 (ho + 72)))) (8 : Int).toNat (some (ad_415 (ho + 82)))) (9 : Int).toNat (some (ad_415 (ho + 92)))) (10 : Int).toNat (some (ad_415 (ho + 102)))) (11 : Int).toNat (some (ad_415 (ho + 112))))) := ⟨_, rfl⟩
  rw [← hg_434] at G
  have hc_435 : g_433 ho = .inr (2, [.ref (ad_415 (ho + 1)), .int (iz 0), .int (iz 0)]) := by rw [hg_434, gu_ne (by omega)]; exact hc_420
  have hc_436 : g_433 (ho + 1) = aPl κ 14 (va_up (va_up (va_up (va_up (va_up (va_up (va_up (va_up (va_up (va_up (va_up (va_up (fun _ => none) (0 : Int).toNat (some (ad_415 (ho + 2)))) (1 : Int).toNat (some (ad_415 (ho + 12)))) (2 : Int).toNat (some (ad_415 (ho + 22)))) (3 : Int).toNat (some (ad_415 (ho + 32)))) (4 : Int).toNat (some (ad_415 (ho + 42)))) (5 : Int).toNat (some (ad_415 (ho + 52)))) (6 : Int).toNat (some (ad_415 (ho + 62)))) (7 : Int).toNat (some (ad_415 (ho + 72)))) (8 : Int).toNat (some (ad_415 (ho + 82)))) (9 : Int).toNat (some (ad_415 (ho + 92)))) (10 : Int).toNat (some (ad_415 (ho + 102)))) (11 : Int).toNat (some (ad_415 (ho + 112)))) := by rw [hg_434]; exact gu_self _ _ _
  have hf_437 : isPl κ ad_415 g_433 (ho + 2) 0 v00 := hf_422.grow (fun k hk => rfl) (fun q q0 q1 => by rw [hg_434]; exact gu_ne (by omega))
  have hf_438 : isPl κ ad_415 g_433 (ho + 12) 0 v00 := hf_423.grow (fun k hk => rfl) (fun q q0 q1 => by rw [hg_434]; exact gu_ne (by omega))
  have hf_439 : isPl κ ad_415 g_433 (ho + 22) 0 v00 := hf_424.grow (fun k hk => rfl) (fun q q0 q1 => by rw [hg_434]; exact gu_ne (by omega))
  have hf_440 : isPl κ ad_415 g_433 (ho + 32) 0 v00 := hf_425.grow (fun k hk => rfl) (fun q q0 q1 => by rw [hg_434]; exact gu_ne (by omega))
  have hf_441 : isPl κ ad_415 g_433 (ho + 42) 0 v00 := hf_426.grow (fun k hk => rfl) (fun q q0 q1 => by rw [hg_434]; exact gu_ne (by omega))
  have hf_442 : isPl κ ad_415 g_433 (ho + 52) 0 v00 := hf_427.grow (fun k hk => rfl) (fun q q0 q1 => by rw [hg_434]; exact gu_ne (by omega))
  have hf_443 : isPl κ ad_415 g_433 (ho + 62) 0 v00 := hf_428.grow (fun k hk => rfl) (fun q q0 q1 => by rw [hg_434]; exact gu_ne (by omega))
  have hf_444 : isPl κ ad_415 g_433 (ho + 72) 0 v00 := hf_429.grow (fun k hk => rfl) (fun q q0 q1 => by rw [hg_434]; exact gu_ne (by omega))
  have hf_445 : isPl κ ad_415 g_433 (ho + 82) 0 v00 := hf_430.grow (fun k hk => rfl) (fun q q0 q1 => by rw [hg_434]; exact gu_ne (by omega))
  have hf_446 : isPl κ ad_415 g_433 (ho + 92) 0 v00 := hf_431.grow (fun k hk => rfl) (fun q q0 q1 => by rw [hg_434]; exact gu_ne (by omega))
  have hf_447 : isPl κ ad_415 g_433 (ho + 102) 0 v00 := hf_432.grow (fun k hk => rfl) (fun q q0 q1 => by rw [hg_434]; exact gu_ne (by omega))
  have hf_448 : isPl κ ad_415 g_433 (ho + 112) 0 v00 := hw_418.1.grow (fun k hk => rfl) (fun q q0 q1 => by rw [hg_434]; exact gu_ne (by omega))
  refine lv_iinc (v := iz 12) (lv' := [(1, .int (iz 12)), (0, .ref (ad_415 ho))]) C.1.1 C.1.2.1 dX2_init_37 hl (k := 0) rfl (g_inc (by omega)) (by decide) rfl (fun ls hl => ?_)
  refine g_goto (tgt := 15) C dX2_init_40 (by decide) ?_
  refine g_iload_n C dX2_init_15 rfl hl 0 rfl ?_
  refine g_aload_n C dX2_init_16 rfl hl 1 rfl ?_
  refine g_get C G (pos := ho) fX2_init_11 (by omega) hc_435 rfl dX2_init_17 ?_
  refine g_alenPl C G (pos := ho + 1) (by omega) hc_436 dX2_init_20 ?_
  show W p l e _ s m args below meth c _ _ _ _ _ (F0 m _ ls (.int (iz 14) :: _))
  refine g_icmp_ge (tgt := 43) C (by decide) (by decide) dX2_init_21 (by decide) (fun c9 => absurd c9 (by decide)) (fun _ => ?_)
  refine g_aload_n C dX2_init_24 rfl hl 1 rfl ?_
  refine g_get C G (pos := ho) fX2_init_11 (by omega) hc_435 rfl dX2_init_25 ?_
  refine g_iload_n C dX2_init_28 rfl hl 0 rfl ?_
  refine g_new C G (n := ho + 122) (fs := [.int (iz 0), .int (iz 0), .int (iz 0), .null, .null, .null]) (ty := tyX4) (rfl : vwCl[4]? = some (RX4, TX4, 6)) nwX2_init_4 tyX4_ok (by decide +kernel : Cond.classLink RX2 9 RX4 ∈ wsX2_init) (by decide +kernel : Cond.instantiable RX4 6 ∈ wsX2_init) (by decide +kernel : Cond.initialized RX4 ∈ wsX2_init) (fun j hj => by rcases j with _ | _ | _ | _ | _ | _ | j <;> first | rfl | omega) (Nat.le_of_ble_eq_true rfl) (Nat.le_of_ble_eq_true rfl) dX2_init_29 (fun (ad_449 : Nat → Nat) H hE_450 C G => ?_)
  replace C : gC p c cX2_init 2 s m args wsX2_init RX2 κ B (ho + 123) ad_449 := C
  obtain ⟨g_451, hg_452⟩ : ∃ g9, g9 = va_up g_433 (ho + 122) (.inr (4, [.int (iz 0), .int (iz 0), .int (iz 0), .null, .null, .null])) := ⟨_, rfl⟩
  rw [← hg_452] at G
  replace G := (show gG κ B (ho + 123) ad_449 s g_451 H _ from G)
  have hE0_453 : ∀ k, k < ho + 1 → ad_449 k = ad k := fun k hk => (hE_450 k (by omega)).trans (hE0_419 k hk)
  rw [← hE_450 ho (by omega)] at hl
  rw [← hE_450 (ho + 1) (by omega)]
  have hc_454 : g_451 ho = .inr (2, [.ref (ad_449 (ho + 1)), .int (iz 0), .int (iz 0)]) := by have q9 := hc_435; rw [← hE_450 (ho + 1) (by omega)] at q9; rw [hg_452, gu_ne (by omega)]; exact q9
  have hc_455 : g_451 (ho + 1) = aPl κ 14 (va_up (va_up (va_up (va_up (va_up (va_up (va_up (va_up (va_up (va_up (va_up (va_up (fun _ => none) (0 : Int).toNat (some (ad_449 (ho + 2)))) (1 : Int).toNat (some (ad_449 (ho + 12)))) (2 : Int).toNat (some (ad_449 (ho + 22)))) (3 : Int).toNat (some (ad_449 (ho + 32)))) (4 : Int).toNat (some (ad_449 (ho + 42)))) (5 : Int).toNat (some (ad_449 (ho + 52)))) (6 : Int).toNat (some (ad_449 (ho + 62)))) (7 : Int).toNat (some (ad_449 (ho + 72)))) (8 : Int).toNat (some (ad_449 (ho + 82)))) (9 : Int).toNat (some (ad_449 (ho + 92)))) (10 : Int).toNat (some (ad_449 (ho + 102)))) (11 : Int).toNat (some (ad_449 (ho + 112)))) := by have q9 := hc_436; rw [← hE_450 (ho + 2) (by omega), ← hE_450 (ho + 12) (by omega), ← hE_450 (ho + 22) (by omega), ← hE_450 (ho + 32) (by omega), ← hE_450 (ho + 42) (by omega), ← hE_450 (ho + 52) (by omega), ← hE_450 (ho + 62) (by omega), ← hE_450 (ho + 72) (by omega), ← hE_450 (ho + 82) (by omega), ← hE_450 (ho + 92) (by omega), ← hE_450 (ho + 102) (by omega), ← hE_450 (ho + 112) (by omega)] at q9; rw [hg_452, gu_ne (by omega)]; exact q9
  have hc_456 : g_451 (ho + 122) = .inr (4, [.int (iz 0), .int (iz 0), .int (iz 0), .null, .null, .null]) := by rw [hg_452]; exact gu_self _ _ _
  have hf_457 : isPl κ ad_449 g_451 (ho + 2) 0 v00 := hf_437.grow (fun k hk => hE_450 k (by omega)) (fun q q0 q1 => by rw [hg_452]; exact gu_ne (by omega))
  have hf_458 : isPl κ ad_449 g_451 (ho + 12) 0 v00 := hf_438.grow (fun k hk => hE_450 k (by omega)) (fun q q0 q1 => by rw [hg_452]; exact gu_ne (by omega))
  have hf_459 : isPl κ ad_449 g_451 (ho + 22) 0 v00 := hf_439.grow (fun k hk => hE_450 k (by omega)) (fun q q0 q1 => by rw [hg_452]; exact gu_ne (by omega))
  have hf_460 : isPl κ ad_449 g_451 (ho + 32) 0 v00 := hf_440.grow (fun k hk => hE_450 k (by omega)) (fun q q0 q1 => by rw [hg_452]; exact gu_ne (by omega))
  have hf_461 : isPl κ ad_449 g_451 (ho + 42) 0 v00 := hf_441.grow (fun k hk => hE_450 k (by omega)) (fun q q0 q1 => by rw [hg_452]; exact gu_ne (by omega))
  have hf_462 : isPl κ ad_449 g_451 (ho + 52) 0 v00 := hf_442.grow (fun k hk => hE_450 k (by omega)) (fun q q0 q1 => by rw [hg_452]; exact gu_ne (by omega))
  have hf_463 : isPl κ ad_449 g_451 (ho + 62) 0 v00 := hf_443.grow (fun k hk => hE_450 k (by omega)) (fun q q0 q1 => by rw [hg_452]; exact gu_ne (by omega))
  have hf_464 : isPl κ ad_449 g_451 (ho + 72) 0 v00 := hf_444.grow (fun k hk => hE_450 k (by omega)) (fun q q0 q1 => by rw [hg_452]; exact gu_ne (by omega))
  have hf_465 : isPl κ ad_449 g_451 (ho + 82) 0 v00 := hf_445.grow (fun k hk => hE_450 k (by omega)) (fun q q0 q1 => by rw [hg_452]; exact gu_ne (by omega))
  have hf_466 : isPl κ ad_449 g_451 (ho + 92) 0 v00 := hf_446.grow (fun k hk => hE_450 k (by omega)) (fun q q0 q1 => by rw [hg_452]; exact gu_ne (by omega))
  have hf_467 : isPl κ ad_449 g_451 (ho + 102) 0 v00 := hf_447.grow (fun k hk => hE_450 k (by omega)) (fun q q0 q1 => by rw [hg_452]; exact gu_ne (by omega))
  have hf_468 : isPl κ ad_449 g_451 (ho + 112) 0 v00 := hf_448.grow (fun k hk => hE_450 k (by omega)) (fun q q0 q1 => by rw [hg_452]; exact gu_ne (by omega))
  refine lv_dup C.1.1 C.1.2.1 dX2_init_32 rfl ?_
  refine g_cvG (n' := ho + 132) C G (g_runIA (As := []) (rest := [.ref (ad_449 (ho + 122)), .int (iz 12), .ref (ad_449 (ho + 1))]) (pos := ho + 122) C G AO (c_X4_init l κ B ad_449 g_451 (ho + 122) hc_456) (cwI 0 C.1.2.2.2.2 gX2_init_X4_init rfl rfl rfl (C.1.2.2.2.2 _ (by decide +kernel : Cond.initialized RX4 ∈ wsX2_init)) (C.1.2.2.2.2 _ (by decide +kernel : Cond.methodLink RX2 17 yX4_init ∈ wsX2_init)) (C.1.2.2.2.2 _ (by decide +kernel : Cond.instanceMethod yX4_init ∈ wsX2_init)) rfl (by decide +kernel) ⟨Nat.le_of_ble_eq_true rfl, Nat.le_of_ble_eq_true rfl⟩) rfl hl rfl (Nat.le_of_ble_eq_true rfl) dX2_init_33 ⟨Nat.le_of_ble_eq_true rfl, Nat.le_of_ble_eq_true rfl⟩) (fun ad_469 g_470 H locs hE_471 hw_472 C G => ?_)
  have hE0_473 : ∀ k, k < ho + 1 → ad_469 k = ad k := fun k hk => (hE_471 k (by omega)).trans (hE0_453 k hk)
  rw [← hE_471 ho (by omega)] at hl
  rw [← hE_471 (ho + 122) (by omega), ← hE_471 (ho + 1) (by omega)]
  have hc_474 : g_470 ho = .inr (2, [.ref (ad_469 (ho + 1)), .int (iz 0), .int (iz 0)]) := by have q9 := hc_454; rw [← hE_471 (ho + 1) (by omega)] at q9; exact (hw_472.2 _ (by omega)).trans q9
  have hc_475 : g_470 (ho + 1) = aPl κ 14 (va_up (va_up (va_up (va_up (va_up (va_up (va_up (va_up (va_up (va_up (va_up (va_up (fun _ => none) (0 : Int).toNat (some (ad_469 (ho + 2)))) (1 : Int).toNat (some (ad_469 (ho + 12)))) (2 : Int).toNat (some (ad_469 (ho + 22)))) (3 : Int).toNat (some (ad_469 (ho + 32)))) (4 : Int).toNat (some (ad_469 (ho + 42)))) (5 : Int).toNat (some (ad_469 (ho + 52)))) (6 : Int).toNat (some (ad_469 (ho + 62)))) (7 : Int).toNat (some (ad_469 (ho + 72)))) (8 : Int).toNat (some (ad_469 (ho + 82)))) (9 : Int).toNat (some (ad_469 (ho + 92)))) (10 : Int).toNat (some (ad_469 (ho + 102)))) (11 : Int).toNat (some (ad_469 (ho + 112)))) := by have q9 := hc_455; rw [← hE_471 (ho + 2) (by omega), ← hE_471 (ho + 12) (by omega), ← hE_471 (ho + 22) (by omega), ← hE_471 (ho + 32) (by omega), ← hE_471 (ho + 42) (by omega), ← hE_471 (ho + 52) (by omega), ← hE_471 (ho + 62) (by omega), ← hE_471 (ho + 72) (by omega), ← hE_471 (ho + 82) (by omega), ← hE_471 (ho + 92) (by omega), ← hE_471 (ho + 102) (by omega), ← hE_471 (ho + 112) (by omega)] at q9; exact (hw_472.2 _ (by omega)).trans q9
  have hf_476 : isPl κ ad_469 g_470 (ho + 2) 0 v00 := hf_457.grow (fun k hk => hE_471 k (by omega)) (fun q q0 q1 => hw_472.2 _ (by omega))
  have hf_477 : isPl κ ad_469 g_470 (ho + 12) 0 v00 := hf_458.grow (fun k hk => hE_471 k (by omega)) (fun q q0 q1 => hw_472.2 _ (by omega))
  have hf_478 : isPl κ ad_469 g_470 (ho + 22) 0 v00 := hf_459.grow (fun k hk => hE_471 k (by omega)) (fun q q0 q1 => hw_472.2 _ (by omega))
  have hf_479 : isPl κ ad_469 g_470 (ho + 32) 0 v00 := hf_460.grow (fun k hk => hE_471 k (by omega)) (fun q q0 q1 => hw_472.2 _ (by omega))
  have hf_480 : isPl κ ad_469 g_470 (ho + 42) 0 v00 := hf_461.grow (fun k hk => hE_471 k (by omega)) (fun q q0 q1 => hw_472.2 _ (by omega))
  have hf_481 : isPl κ ad_469 g_470 (ho + 52) 0 v00 := hf_462.grow (fun k hk => hE_471 k (by omega)) (fun q q0 q1 => hw_472.2 _ (by omega))
  have hf_482 : isPl κ ad_469 g_470 (ho + 62) 0 v00 := hf_463.grow (fun k hk => hE_471 k (by omega)) (fun q q0 q1 => hw_472.2 _ (by omega))
  have hf_483 : isPl κ ad_469 g_470 (ho + 72) 0 v00 := hf_464.grow (fun k hk => hE_471 k (by omega)) (fun q q0 q1 => hw_472.2 _ (by omega))
  have hf_484 : isPl κ ad_469 g_470 (ho + 82) 0 v00 := hf_465.grow (fun k hk => hE_471 k (by omega)) (fun q q0 q1 => hw_472.2 _ (by omega))
  have hf_485 : isPl κ ad_469 g_470 (ho + 92) 0 v00 := hf_466.grow (fun k hk => hE_471 k (by omega)) (fun q q0 q1 => hw_472.2 _ (by omega))
  have hf_486 : isPl κ ad_469 g_470 (ho + 102) 0 v00 := hf_467.grow (fun k hk => hE_471 k (by omega)) (fun q q0 q1 => hw_472.2 _ (by omega))
  have hf_487 : isPl κ ad_469 g_470 (ho + 112) 0 v00 := hf_468.grow (fun k hk => hE_471 k (by omega)) (fun q q0 q1 => hw_472.2 _ (by omega))
  refine g_aastPl C G (pos := ho + 1) (q := ho + 122) (by omega) hc_475 (by omega) hw_472.1.1 (by decide) (by decide) (by decide) dX2_init_36 (fun H locs G => ?_)
  obtain ⟨g_488, hg_489⟩ : ∃ g9, g9 = va_up g_470 (ho + 1) (aPl κ 14 (va_up (va_up (va_up (va_up (va_up (va_up (va_up (va_up (va_up (va_up (va_up (va_up (va_up (fun _ => none) (0 : Int).toNat (some (ad_469 (ho + 2)))) (1 : Int).toNat (some (ad_469 (ho + 12)))) (2 : Int).toNat (some (ad_469 (ho + 22)))) (3 : Int).toNat (some (ad_469 (ho + 32)))) (4 : Int).toNat (some (ad_469 (ho + 42)))) (5 : Int).toNat (some (ad_469 (ho + 52)))) (6 : Int).toNat (some (ad_469 (ho + 62)))) (7 : Int).toNat (some (ad_469 (ho + 72)))) (8 : Int).toNat (some (ad_469 (ho + 82)))) (9 : Int).toNat (some (ad_469 (ho + 92)))) (10 : Int).toNat (some (ad_469 (ho + 102)))) (11 : Int).toNat (some (ad_469 (ho + 112)))) (12 : Int).toNat (some (ad_469 (ho + 122))))) := ⟨_, rfl⟩
  rw [← hg_489] at G
  have hc_490 : g_488 ho = .inr (2, [.ref (ad_469 (ho + 1)), .int (iz 0), .int (iz 0)]) := by rw [hg_489, gu_ne (by omega)]; exact hc_474
  have hc_491 : g_488 (ho + 1) = aPl κ 14 (va_up (va_up (va_up (va_up (va_up (va_up (va_up (va_up (va_up (va_up (va_up (va_up (va_up (fun _ => none) (0 : Int).toNat (some (ad_469 (ho + 2)))) (1 : Int).toNat (some (ad_469 (ho + 12)))) (2 : Int).toNat (some (ad_469 (ho + 22)))) (3 : Int).toNat (some (ad_469 (ho + 32)))) (4 : Int).toNat (some (ad_469 (ho + 42)))) (5 : Int).toNat (some (ad_469 (ho + 52)))) (6 : Int).toNat (some (ad_469 (ho + 62)))) (7 : Int).toNat (some (ad_469 (ho + 72)))) (8 : Int).toNat (some (ad_469 (ho + 82)))) (9 : Int).toNat (some (ad_469 (ho + 92)))) (10 : Int).toNat (some (ad_469 (ho + 102)))) (11 : Int).toNat (some (ad_469 (ho + 112)))) (12 : Int).toNat (some (ad_469 (ho + 122)))) := by rw [hg_489]; exact gu_self _ _ _
  have hf_492 : isPl κ ad_469 g_488 (ho + 2) 0 v00 := hf_476.grow (fun k hk => rfl) (fun q q0 q1 => by rw [hg_489]; exact gu_ne (by omega))
  have hf_493 : isPl κ ad_469 g_488 (ho + 12) 0 v00 := hf_477.grow (fun k hk => rfl) (fun q q0 q1 => by rw [hg_489]; exact gu_ne (by omega))
  have hf_494 : isPl κ ad_469 g_488 (ho + 22) 0 v00 := hf_478.grow (fun k hk => rfl) (fun q q0 q1 => by rw [hg_489]; exact gu_ne (by omega))
  have hf_495 : isPl κ ad_469 g_488 (ho + 32) 0 v00 := hf_479.grow (fun k hk => rfl) (fun q q0 q1 => by rw [hg_489]; exact gu_ne (by omega))
  have hf_496 : isPl κ ad_469 g_488 (ho + 42) 0 v00 := hf_480.grow (fun k hk => rfl) (fun q q0 q1 => by rw [hg_489]; exact gu_ne (by omega))
  have hf_497 : isPl κ ad_469 g_488 (ho + 52) 0 v00 := hf_481.grow (fun k hk => rfl) (fun q q0 q1 => by rw [hg_489]; exact gu_ne (by omega))
  have hf_498 : isPl κ ad_469 g_488 (ho + 62) 0 v00 := hf_482.grow (fun k hk => rfl) (fun q q0 q1 => by rw [hg_489]; exact gu_ne (by omega))
  have hf_499 : isPl κ ad_469 g_488 (ho + 72) 0 v00 := hf_483.grow (fun k hk => rfl) (fun q q0 q1 => by rw [hg_489]; exact gu_ne (by omega))
  have hf_500 : isPl κ ad_469 g_488 (ho + 82) 0 v00 := hf_484.grow (fun k hk => rfl) (fun q q0 q1 => by rw [hg_489]; exact gu_ne (by omega))
  have hf_501 : isPl κ ad_469 g_488 (ho + 92) 0 v00 := hf_485.grow (fun k hk => rfl) (fun q q0 q1 => by rw [hg_489]; exact gu_ne (by omega))
  have hf_502 : isPl κ ad_469 g_488 (ho + 102) 0 v00 := hf_486.grow (fun k hk => rfl) (fun q q0 q1 => by rw [hg_489]; exact gu_ne (by omega))
  have hf_503 : isPl κ ad_469 g_488 (ho + 112) 0 v00 := hf_487.grow (fun k hk => rfl) (fun q q0 q1 => by rw [hg_489]; exact gu_ne (by omega))
  have hf_504 : isPl κ ad_469 g_488 (ho + 122) 0 v00 := hw_472.1.grow (fun k hk => rfl) (fun q q0 q1 => by rw [hg_489]; exact gu_ne (by omega))
  refine lv_iinc (v := iz 13) (lv' := [(1, .int (iz 13)), (0, .ref (ad_469 ho))]) C.1.1 C.1.2.1 dX2_init_37 hl (k := 0) rfl (g_inc (by omega)) (by decide) rfl (fun ls hl => ?_)
  refine g_goto (tgt := 15) C dX2_init_40 (by decide) ?_
  refine g_iload_n C dX2_init_15 rfl hl 0 rfl ?_
  refine g_aload_n C dX2_init_16 rfl hl 1 rfl ?_
  refine g_get C G (pos := ho) fX2_init_11 (by omega) hc_490 rfl dX2_init_17 ?_
  refine g_alenPl C G (pos := ho + 1) (by omega) hc_491 dX2_init_20 ?_
  show W p l e _ s m args below meth c _ _ _ _ _ (F0 m _ ls (.int (iz 14) :: _))
  refine g_icmp_ge (tgt := 43) C (by decide) (by decide) dX2_init_21 (by decide) (fun c9 => absurd c9 (by decide)) (fun _ => ?_)
  refine g_aload_n C dX2_init_24 rfl hl 1 rfl ?_
  refine g_get C G (pos := ho) fX2_init_11 (by omega) hc_490 rfl dX2_init_25 ?_
  refine g_iload_n C dX2_init_28 rfl hl 0 rfl ?_
  refine g_new C G (n := ho + 132) (fs := [.int (iz 0), .int (iz 0), .int (iz 0), .null, .null, .null]) (ty := tyX4) (rfl : vwCl[4]? = some (RX4, TX4, 6)) nwX2_init_4 tyX4_ok (by decide +kernel : Cond.classLink RX2 9 RX4 ∈ wsX2_init) (by decide +kernel : Cond.instantiable RX4 6 ∈ wsX2_init) (by decide +kernel : Cond.initialized RX4 ∈ wsX2_init) (fun j hj => by rcases j with _ | _ | _ | _ | _ | _ | j <;> first | rfl | omega) (Nat.le_of_ble_eq_true rfl) (Nat.le_of_ble_eq_true rfl) dX2_init_29 (fun (ad_505 : Nat → Nat) H hE_506 C G => ?_)
  replace C : gC p c cX2_init 2 s m args wsX2_init RX2 κ B (ho + 133) ad_505 := C
  obtain ⟨g_507, hg_508⟩ : ∃ g9, g9 = va_up g_488 (ho + 132) (.inr (4, [.int (iz 0), .int (iz 0), .int (iz 0), .null, .null, .null])) := ⟨_, rfl⟩
  rw [← hg_508] at G
  replace G := (show gG κ B (ho + 133) ad_505 s g_507 H _ from G)
  have hE0_509 : ∀ k, k < ho + 1 → ad_505 k = ad k := fun k hk => (hE_506 k (by omega)).trans (hE0_473 k hk)
  rw [← hE_506 ho (by omega)] at hl
  rw [← hE_506 (ho + 1) (by omega)]
  have hc_510 : g_507 ho = .inr (2, [.ref (ad_505 (ho + 1)), .int (iz 0), .int (iz 0)]) := by have q9 := hc_490; rw [← hE_506 (ho + 1) (by omega)] at q9; rw [hg_508, gu_ne (by omega)]; exact q9
  have hc_511 : g_507 (ho + 1) = aPl κ 14 (va_up (va_up (va_up (va_up (va_up (va_up (va_up (va_up (va_up (va_up (va_up (va_up (va_up (fun _ => none) (0 : Int).toNat (some (ad_505 (ho + 2)))) (1 : Int).toNat (some (ad_505 (ho + 12)))) (2 : Int).toNat (some (ad_505 (ho + 22)))) (3 : Int).toNat (some (ad_505 (ho + 32)))) (4 : Int).toNat (some (ad_505 (ho + 42)))) (5 : Int).toNat (some (ad_505 (ho + 52)))) (6 : Int).toNat (some (ad_505 (ho + 62)))) (7 : Int).toNat (some (ad_505 (ho + 72)))) (8 : Int).toNat (some (ad_505 (ho + 82)))) (9 : Int).toNat (some (ad_505 (ho + 92)))) (10 : Int).toNat (some (ad_505 (ho + 102)))) (11 : Int).toNat (some (ad_505 (ho + 112)))) (12 : Int).toNat (some (ad_505 (ho + 122)))) := by have q9 := hc_491; rw [← hE_506 (ho + 2) (by omega), ← hE_506 (ho + 12) (by omega), ← hE_506 (ho + 22) (by omega), ← hE_506 (ho + 32) (by omega), ← hE_506 (ho + 42) (by omega), ← hE_506 (ho + 52) (by omega), ← hE_506 (ho + 62) (by omega), ← hE_506 (ho + 72) (by omega), ← hE_506 (ho + 82) (by omega), ← hE_506 (ho + 92) (by omega), ← hE_506 (ho + 102) (by omega), ← hE_506 (ho + 112) (by omega), ← hE_506 (ho + 122) (by omega)] at q9; rw [hg_508, gu_ne (by omega)]; exact q9
  have hc_512 : g_507 (ho + 132) = .inr (4, [.int (iz 0), .int (iz 0), .int (iz 0), .null, .null, .null]) := by rw [hg_508]; exact gu_self _ _ _
  have hf_513 : isPl κ ad_505 g_507 (ho + 2) 0 v00 := hf_492.grow (fun k hk => hE_506 k (by omega)) (fun q q0 q1 => by rw [hg_508]; exact gu_ne (by omega))
  have hf_514 : isPl κ ad_505 g_507 (ho + 12) 0 v00 := hf_493.grow (fun k hk => hE_506 k (by omega)) (fun q q0 q1 => by rw [hg_508]; exact gu_ne (by omega))
  have hf_515 : isPl κ ad_505 g_507 (ho + 22) 0 v00 := hf_494.grow (fun k hk => hE_506 k (by omega)) (fun q q0 q1 => by rw [hg_508]; exact gu_ne (by omega))
  have hf_516 : isPl κ ad_505 g_507 (ho + 32) 0 v00 := hf_495.grow (fun k hk => hE_506 k (by omega)) (fun q q0 q1 => by rw [hg_508]; exact gu_ne (by omega))
  have hf_517 : isPl κ ad_505 g_507 (ho + 42) 0 v00 := hf_496.grow (fun k hk => hE_506 k (by omega)) (fun q q0 q1 => by rw [hg_508]; exact gu_ne (by omega))
  have hf_518 : isPl κ ad_505 g_507 (ho + 52) 0 v00 := hf_497.grow (fun k hk => hE_506 k (by omega)) (fun q q0 q1 => by rw [hg_508]; exact gu_ne (by omega))
  have hf_519 : isPl κ ad_505 g_507 (ho + 62) 0 v00 := hf_498.grow (fun k hk => hE_506 k (by omega)) (fun q q0 q1 => by rw [hg_508]; exact gu_ne (by omega))
  have hf_520 : isPl κ ad_505 g_507 (ho + 72) 0 v00 := hf_499.grow (fun k hk => hE_506 k (by omega)) (fun q q0 q1 => by rw [hg_508]; exact gu_ne (by omega))
  have hf_521 : isPl κ ad_505 g_507 (ho + 82) 0 v00 := hf_500.grow (fun k hk => hE_506 k (by omega)) (fun q q0 q1 => by rw [hg_508]; exact gu_ne (by omega))
  have hf_522 : isPl κ ad_505 g_507 (ho + 92) 0 v00 := hf_501.grow (fun k hk => hE_506 k (by omega)) (fun q q0 q1 => by rw [hg_508]; exact gu_ne (by omega))
  have hf_523 : isPl κ ad_505 g_507 (ho + 102) 0 v00 := hf_502.grow (fun k hk => hE_506 k (by omega)) (fun q q0 q1 => by rw [hg_508]; exact gu_ne (by omega))
  have hf_524 : isPl κ ad_505 g_507 (ho + 112) 0 v00 := hf_503.grow (fun k hk => hE_506 k (by omega)) (fun q q0 q1 => by rw [hg_508]; exact gu_ne (by omega))
  have hf_525 : isPl κ ad_505 g_507 (ho + 122) 0 v00 := hf_504.grow (fun k hk => hE_506 k (by omega)) (fun q q0 q1 => by rw [hg_508]; exact gu_ne (by omega))
  refine lv_dup C.1.1 C.1.2.1 dX2_init_32 rfl ?_
  refine g_cvG (n' := ho + 142) C G (g_runIA (As := []) (rest := [.ref (ad_505 (ho + 132)), .int (iz 13), .ref (ad_505 (ho + 1))]) (pos := ho + 132) C G AO (c_X4_init l κ B ad_505 g_507 (ho + 132) hc_512) (cwI 0 C.1.2.2.2.2 gX2_init_X4_init rfl rfl rfl (C.1.2.2.2.2 _ (by decide +kernel : Cond.initialized RX4 ∈ wsX2_init)) (C.1.2.2.2.2 _ (by decide +kernel : Cond.methodLink RX2 17 yX4_init ∈ wsX2_init)) (C.1.2.2.2.2 _ (by decide +kernel : Cond.instanceMethod yX4_init ∈ wsX2_init)) rfl (by decide +kernel) ⟨Nat.le_of_ble_eq_true rfl, Nat.le_of_ble_eq_true rfl⟩) rfl hl rfl (Nat.le_of_ble_eq_true rfl) dX2_init_33 ⟨Nat.le_of_ble_eq_true rfl, Nat.le_of_ble_eq_true rfl⟩) (fun ad_526 g_527 H locs hE_528 hw_529 C G => ?_)
  have hE0_530 : ∀ k, k < ho + 1 → ad_526 k = ad k := fun k hk => (hE_528 k (by omega)).trans (hE0_509 k hk)
  rw [← hE_528 ho (by omega)] at hl
  rw [← hE_528 (ho + 132) (by omega), ← hE_528 (ho + 1) (by omega)]
  have hc_531 : g_527 ho = .inr (2, [.ref (ad_526 (ho + 1)), .int (iz 0), .int (iz 0)]) := by have q9 := hc_510; rw [← hE_528 (ho + 1) (by omega)] at q9; exact (hw_529.2 _ (by omega)).trans q9
  have hc_532 : g_527 (ho + 1) = aPl κ 14 (va_up (va_up (va_up (va_up (va_up (va_up (va_up (va_up (va_up (va_up (va_up (va_up (va_up (fun _ => none) (0 : Int).toNat (some (ad_526 (ho + 2)))) (1 : Int).toNat (some (ad_526 (ho + 12)))) (2 : Int).toNat (some (ad_526 (ho + 22)))) (3 : Int).toNat (some (ad_526 (ho + 32)))) (4 : Int).toNat (some (ad_526 (ho + 42)))) (5 : Int).toNat (some (ad_526 (ho + 52)))) (6 : Int).toNat (some (ad_526 (ho + 62)))) (7 : Int).toNat (some (ad_526 (ho + 72)))) (8 : Int).toNat (some (ad_526 (ho + 82)))) (9 : Int).toNat (some (ad_526 (ho + 92)))) (10 : Int).toNat (some (ad_526 (ho + 102)))) (11 : Int).toNat (some (ad_526 (ho + 112)))) (12 : Int).toNat (some (ad_526 (ho + 122)))) := by have q9 := hc_511; rw [← hE_528 (ho + 2) (by omega), ← hE_528 (ho + 12) (by omega), ← hE_528 (ho + 22) (by omega), ← hE_528 (ho + 32) (by omega), ← hE_528 (ho + 42) (by omega), ← hE_528 (ho + 52) (by omega), ← hE_528 (ho + 62) (by omega), ← hE_528 (ho + 72) (by omega), ← hE_528 (ho + 82) (by omega), ← hE_528 (ho + 92) (by omega), ← hE_528 (ho + 102) (by omega), ← hE_528 (ho + 112) (by omega), ← hE_528 (ho + 122) (by omega)] at q9; exact (hw_529.2 _ (by omega)).trans q9
  have hf_533 : isPl κ ad_526 g_527 (ho + 2) 0 v00 := hf_513.grow (fun k hk => hE_528 k (by omega)) (fun q q0 q1 => hw_529.2 _ (by omega))
  have hf_534 : isPl κ ad_526 g_527 (ho + 12) 0 v00 := hf_514.grow (fun k hk => hE_528 k (by omega)) (fun q q0 q1 => hw_529.2 _ (by omega))
  have hf_535 : isPl κ ad_526 g_527 (ho + 22) 0 v00 := hf_515.grow (fun k hk => hE_528 k (by omega)) (fun q q0 q1 => hw_529.2 _ (by omega))
  have hf_536 : isPl κ ad_526 g_527 (ho + 32) 0 v00 := hf_516.grow (fun k hk => hE_528 k (by omega)) (fun q q0 q1 => hw_529.2 _ (by omega))
  have hf_537 : isPl κ ad_526 g_527 (ho + 42) 0 v00 := hf_517.grow (fun k hk => hE_528 k (by omega)) (fun q q0 q1 => hw_529.2 _ (by omega))
  have hf_538 : isPl κ ad_526 g_527 (ho + 52) 0 v00 := hf_518.grow (fun k hk => hE_528 k (by omega)) (fun q q0 q1 => hw_529.2 _ (by omega))
  have hf_539 : isPl κ ad_526 g_527 (ho + 62) 0 v00 := hf_519.grow (fun k hk => hE_528 k (by omega)) (fun q q0 q1 => hw_529.2 _ (by omega))
  have hf_540 : isPl κ ad_526 g_527 (ho + 72) 0 v00 := hf_520.grow (fun k hk => hE_528 k (by omega)) (fun q q0 q1 => hw_529.2 _ (by omega))
  have hf_541 : isPl κ ad_526 g_527 (ho + 82) 0 v00 := hf_521.grow (fun k hk => hE_528 k (by omega)) (fun q q0 q1 => hw_529.2 _ (by omega))
  have hf_542 : isPl κ ad_526 g_527 (ho + 92) 0 v00 := hf_522.grow (fun k hk => hE_528 k (by omega)) (fun q q0 q1 => hw_529.2 _ (by omega))
  have hf_543 : isPl κ ad_526 g_527 (ho + 102) 0 v00 := hf_523.grow (fun k hk => hE_528 k (by omega)) (fun q q0 q1 => hw_529.2 _ (by omega))
  have hf_544 : isPl κ ad_526 g_527 (ho + 112) 0 v00 := hf_524.grow (fun k hk => hE_528 k (by omega)) (fun q q0 q1 => hw_529.2 _ (by omega))
  have hf_545 : isPl κ ad_526 g_527 (ho + 122) 0 v00 := hf_525.grow (fun k hk => hE_528 k (by omega)) (fun q q0 q1 => hw_529.2 _ (by omega))
  refine g_aastPl C G (pos := ho + 1) (q := ho + 132) (by omega) hc_532 (by omega) hw_529.1.1 (by decide) (by decide) (by decide) dX2_init_36 (fun H locs G => ?_)
  obtain ⟨g_546, hg_547⟩ : ∃ g9, g9 = va_up g_527 (ho + 1) (aPl κ 14 (va_up (va_up (va_up (va_up (va_up (va_up (va_up (va_up (va_up (va_up (va_up (va_up (va_up (va_up (fun _ => none) (0 : Int).toNat (some (ad_526 (ho + 2)))) (1 : Int).toNat (some (ad_526 (ho + 12)))) (2 : Int).toNat (some (ad_526 (ho + 22)))) (3 : Int).toNat (some (ad_526 (ho + 32)))) (4 : Int).toNat (some (ad_526 (ho + 42)))) (5 : Int).toNat (some (ad_526 (ho + 52)))) (6 : Int).toNat (some (ad_526 (ho + 62)))) (7 : Int).toNat (some (ad_526 (ho + 72)))) (8 : Int).toNat (some (ad_526 (ho + 82)))) (9 : Int).toNat (some (ad_526 (ho + 92)))) (10 : Int).toNat (some (ad_526 (ho + 102)))) (11 : Int).toNat (some (ad_526 (ho + 112)))) (12 : Int).toNat (some (ad_526 (ho + 122)))) (13 : Int).toNat (some (ad_526 (ho + 132))))) := ⟨_, rfl⟩
  rw [← hg_547] at G
  have hc_548 : g_546 ho = .inr (2, [.ref (ad_526 (ho + 1)), .int (iz 0), .int (iz 0)]) := by rw [hg_547, gu_ne (by omega)]; exact hc_531
  have hc_549 : g_546 (ho + 1) = aPl κ 14 (va_up (va_up (va_up (va_up (va_up (va_up (va_up (va_up (va_up (va_up (va_up (va_up (va_up (va_up (fun _ => none) (0 : Int).toNat (some (ad_526 (ho + 2)))) (1 : Int).toNat (some (ad_526 (ho + 12)))) (2 : Int).toNat (some (ad_526 (ho + 22)))) (3 : Int).toNat (some (ad_526 (ho + 32)))) (4 : Int).toNat (some (ad_526 (ho + 42)))) (5 : Int).toNat (some (ad_526 (ho + 52)))) (6 : Int).toNat (some (ad_526 (ho + 62)))) (7 : Int).toNat (some (ad_526 (ho + 72)))) (8 : Int).toNat (some (ad_526 (ho + 82)))) (9 : Int).toNat (some (ad_526 (ho + 92)))) (10 : Int).toNat (some (ad_526 (ho + 102)))) (11 : Int).toNat (some (ad_526 (ho + 112)))) (12 : Int).toNat (some (ad_526 (ho + 122)))) (13 : Int).toNat (some (ad_526 (ho + 132)))) := by rw [hg_547]; exact gu_self _ _ _
  have hf_550 : isPl κ ad_526 g_546 (ho + 2) 0 v00 := hf_533.grow (fun k hk => rfl) (fun q q0 q1 => by rw [hg_547]; exact gu_ne (by omega))
  have hf_551 : isPl κ ad_526 g_546 (ho + 12) 0 v00 := hf_534.grow (fun k hk => rfl) (fun q q0 q1 => by rw [hg_547]; exact gu_ne (by omega))
  have hf_552 : isPl κ ad_526 g_546 (ho + 22) 0 v00 := hf_535.grow (fun k hk => rfl) (fun q q0 q1 => by rw [hg_547]; exact gu_ne (by omega))
  have hf_553 : isPl κ ad_526 g_546 (ho + 32) 0 v00 := hf_536.grow (fun k hk => rfl) (fun q q0 q1 => by rw [hg_547]; exact gu_ne (by omega))
  have hf_554 : isPl κ ad_526 g_546 (ho + 42) 0 v00 := hf_537.grow (fun k hk => rfl) (fun q q0 q1 => by rw [hg_547]; exact gu_ne (by omega))
  have hf_555 : isPl κ ad_526 g_546 (ho + 52) 0 v00 := hf_538.grow (fun k hk => rfl) (fun q q0 q1 => by rw [hg_547]; exact gu_ne (by omega))
  have hf_556 : isPl κ ad_526 g_546 (ho + 62) 0 v00 := hf_539.grow (fun k hk => rfl) (fun q q0 q1 => by rw [hg_547]; exact gu_ne (by omega))
  have hf_557 : isPl κ ad_526 g_546 (ho + 72) 0 v00 := hf_540.grow (fun k hk => rfl) (fun q q0 q1 => by rw [hg_547]; exact gu_ne (by omega))
  have hf_558 : isPl κ ad_526 g_546 (ho + 82) 0 v00 := hf_541.grow (fun k hk => rfl) (fun q q0 q1 => by rw [hg_547]; exact gu_ne (by omega))
  have hf_559 : isPl κ ad_526 g_546 (ho + 92) 0 v00 := hf_542.grow (fun k hk => rfl) (fun q q0 q1 => by rw [hg_547]; exact gu_ne (by omega))
  have hf_560 : isPl κ ad_526 g_546 (ho + 102) 0 v00 := hf_543.grow (fun k hk => rfl) (fun q q0 q1 => by rw [hg_547]; exact gu_ne (by omega))
  have hf_561 : isPl κ ad_526 g_546 (ho + 112) 0 v00 := hf_544.grow (fun k hk => rfl) (fun q q0 q1 => by rw [hg_547]; exact gu_ne (by omega))
  have hf_562 : isPl κ ad_526 g_546 (ho + 122) 0 v00 := hf_545.grow (fun k hk => rfl) (fun q q0 q1 => by rw [hg_547]; exact gu_ne (by omega))
  have hf_563 : isPl κ ad_526 g_546 (ho + 132) 0 v00 := hw_529.1.grow (fun k hk => rfl) (fun q q0 q1 => by rw [hg_547]; exact gu_ne (by omega))
  refine lv_iinc (v := iz 14) (lv' := [(1, .int (iz 14)), (0, .ref (ad_526 ho))]) C.1.1 C.1.2.1 dX2_init_37 hl (k := 0) rfl (g_inc (by omega)) (by decide) rfl (fun ls hl => ?_)
  refine g_goto (tgt := 15) C dX2_init_40 (by decide) ?_
  refine g_iload_n C dX2_init_15 rfl hl 0 rfl ?_
  refine g_aload_n C dX2_init_16 rfl hl 1 rfl ?_
  refine g_get C G (pos := ho) fX2_init_11 (by omega) hc_548 rfl dX2_init_17 ?_
  refine g_alenPl C G (pos := ho + 1) (by omega) hc_549 dX2_init_20 ?_
  show W p l e _ s m args below meth c _ _ _ _ _ (F0 m _ ls (.int (iz 14) :: _))
  refine g_icmp_ge (tgt := 43) C (by decide) (by decide) dX2_init_21 (by decide) (fun _ => ?_) (fun c9 => absurd c9 (by decide))
  refine g_vretG C G hr hlk (Nat.le_of_ble_eq_true rfl) (Nat.le_of_ble_eq_true rfl) dX2_init_43 hE0_530 ?_
  refine ⟨⟨hc_548, ?_, fun j hj => ?_⟩, fun q hq => by
      rw [hg_547, gu_ne (by omega)]
      refine (hw_529.2 _ (by omega)).trans ?_
      rw [hg_508, gu_ne (by omega)]
      rw [hg_489, gu_ne (by omega)]
      refine (hw_472.2 _ (by omega)).trans ?_
      rw [hg_452, gu_ne (by omega)]
      rw [hg_434, gu_ne (by omega)]
      refine (hw_418.2 _ (by omega)).trans ?_
      rw [hg_399, gu_ne (by omega)]
      rw [hg_382, gu_ne (by omega)]
      refine (hw_367.2 _ (by omega)).trans ?_
      rw [hg_349, gu_ne (by omega)]
      rw [hg_333, gu_ne (by omega)]
      refine (hw_319.2 _ (by omega)).trans ?_
      rw [hg_302, gu_ne (by omega)]
      rw [hg_287, gu_ne (by omega)]
      refine (hw_274.2 _ (by omega)).trans ?_
      rw [hg_258, gu_ne (by omega)]
      rw [hg_244, gu_ne (by omega)]
      refine (hw_232.2 _ (by omega)).trans ?_
      rw [hg_217, gu_ne (by omega)]
      rw [hg_204, gu_ne (by omega)]
      refine (hw_193.2 _ (by omega)).trans ?_
      rw [hg_179, gu_ne (by omega)]
      rw [hg_167, gu_ne (by omega)]
      refine (hw_157.2 _ (by omega)).trans ?_
      rw [hg_144, gu_ne (by omega)]
      rw [hg_133, gu_ne (by omega)]
      refine (hw_124.2 _ (by omega)).trans ?_
      rw [hg_112, gu_ne (by omega)]
      rw [hg_102, gu_ne (by omega)]
      refine (hw_94.2 _ (by omega)).trans ?_
      rw [hg_83, gu_ne (by omega)]
      rw [hg_74, gu_ne (by omega)]
      refine (hw_67.2 _ (by omega)).trans ?_
      rw [hg_57, gu_ne (by omega)]
      rw [hg_49, gu_ne (by omega)]
      refine (hw_43.2 _ (by omega)).trans ?_
      rw [hg_34, gu_ne (by omega)]
      rw [hg_27, gu_ne (by omega)]
      refine (hw_22.2 _ (by omega)).trans ?_
      rw [hg_14, gu_ne (by omega)]
      rw [hg_8, gu_ne (by omega)]
      rw [hg_4, gu_ne (by omega)]
      try rfl⟩
  · exact hc_549.trans (congrArg (aPl κ 14) (row14 ad_526 ho))
  · have h9 : j = 0 ∨ j = 1 ∨ j = 2 ∨ j = 3 ∨ j = 4 ∨ j = 5 ∨ j = 6 ∨ j = 7 ∨ j = 8 ∨ j = 9 ∨ j = 10 ∨ j = 11 ∨ j = 12 ∨ j = 13 := by omega
    rcases h9 with rfl | rfl | rfl | rfl | rfl | rfl | rfl | rfl | rfl | rfl | rfl | rfl | rfl | rfl
    · exact hf_550
    · exact hf_551
    · exact hf_552
    · exact hf_553
    · exact hf_554
    · exact hf_555
    · exact hf_556
    · exact hf_557
    · exact hf_558
    · exact hf_559
    · exact hf_560
    · exact hf_561
    · exact hf_562
    · exact hf_563
theorem fwX7_init_9 : gFldW wsX7_init RX7 9 7 0 (.array .char) true := ⟨RX7, TX7, 8, tyX7, rfl, by decide, by decide +kernel, by decide +kernel, tyX7_ok, nmX7, rfl, by decide +kernel, by decide +kernel⟩
theorem nwX7_init_4 : ∀ w ∈ u_ws RX4 TX4 6, w ∈ wsX7_init := by decide +kernel
theorem fwX7_init_16 : gFldW wsX7_init RX7 16 7 2 (.object "RosettePlate$Plate") true := ⟨RX7, TX7, 8, tyX7, rfl, by decide, by decide +kernel, by decide +kernel, tyX7_ok, nmX7, rfl, by decide +kernel, by decide +kernel⟩
theorem fwX7_init_20 : gFldW wsX7_init RX7 20 7 3 (.object "RosettePlate$Plate") true := ⟨RX7, TX7, 8, tyX7, rfl, by decide, by decide +kernel, by decide +kernel, tyX7_ok, nmX7, rfl, by decide +kernel, by decide +kernel⟩
theorem nwX7_init_2 : ∀ w ∈ u_ws RX2 TX2 3, w ∈ wsX7_init := by decide +kernel
theorem fwX7_init_26 : gFldW wsX7_init RX7 26 7 4 (.object "RosettePlate$History") true := ⟨RX7, TX7, 8, tyX7, rfl, by decide, by decide +kernel, by decide +kernel, tyX7_ok, nmX7, rfl, by decide +kernel, by decide +kernel⟩
theorem fwX7_init_30 : gFldW wsX7_init RX7 30 7 5 (.array (.object "RosettePlate$Plate")) true := ⟨RX7, TX7, 8, tyX7, rfl, by decide, by decide +kernel, by decide +kernel, tyX7_ok, nmX7, rfl, by decide +kernel, by decide +kernel⟩
theorem fwX7_init_34 : gFldW wsX7_init RX7 34 7 6 (.array .boolean) true := ⟨RX7, TX7, 8, tyX7, rfl, by decide, by decide +kernel, by decide +kernel, tyX7_ok, nmX7, rfl, by decide +kernel, by decide +kernel⟩
theorem fX7_init_30 : gFld wsX7_init RX7 30 7 5 := ⟨RX7, TX7, 8, rfl, by decide, by decide +kernel, by decide +kernel⟩
theorem nwX7_init_0 : ∀ w ∈ u_ws RX0 TX0 3, w ∈ wsX7_init := by decide +kernel
theorem fwX7_init_41 : gFldW wsX7_init RX7 41 7 7 (.object "RosettePlate$Bench") true := ⟨RX7, TX7, 8, tyX7, rfl, by decide, by decide +kernel, by decide +kernel, tyX7_ok, nmX7, rfl, by decide +kernel, by decide +kernel⟩
set_option maxHeartbeats 4000000 in
set_option maxRecDepth 100000 in
theorem c_X7_init (l : Launch) (κ : gKap) (B : Nat) (ad : Nat → Nat) (g : Nat → va_E) (he : g 0 = .inr (7, [.null, .int (iz 0), .null, .null, .null, .null, .null, .null])) : Met l yX7_init wsX7_init ({ frames := 4, cells := 191, slots := 2270, locals := 74 }) (gPreA κ B 1 ad g [.ref (ad 0)]) (gQg κ B 1 192 ad (fun a9 g' => isX κ a9 g' 0 ∧ g' 1 = aCh κ 100 (fun _ => 0) ∧ isPl κ a9 g' 2 0 v00 ∧ isPl κ a9 g' 12 0 v00 ∧ isHi κ a9 g' 22 0 0 (fun _ => (0, v00)) ∧ g' 165 = aZ κ 2 (fun _ => 0) ∧ isPl κ a9 g' 166 0 v00 ∧ isPl κ a9 g' 176 0 v00 ∧ isBn κ a9 g' 186)) 191 2270 (gFree B) := by
  refine g_metA RX7 (cc := cX7_init) (maxL := 2) (ret := none) (by decide) rfl rfl (Nat.le_of_ble_eq_true rfl) ?_
  intro p e s m args below meth c C hr hlk hnm AO G ls hl
  have hl : lv_has ls 2 [(0, .ref (ad 0))] := hl
  refine g_aload_n C dX7_init_0 rfl hl 0 rfl ?_
  refine W.objInit C.1.1 C.1.2.1 C.1.2.2.2.1 (C.1.2.2.2.2 _ (by decide +kernel : Cond.methodLink RX7 1 objectInit ∈ wsX7_init)) (C.1.2.2.2.2 _ (by decide +kernel : Cond.instanceMethod objectInit ∈ wsX7_init)) (C.1.2.2.2.2 _ (by decide +kernel : Cond.code objectInit ⟨#[0xb1]⟩ 1 none ∈ wsX7_init)) rfl (by rw [C.1.2.2.1]; exact hl.1) rfl dX7_init_1 (Nat.le_of_ble_eq_true rfl) (Nat.le_of_ble_eq_true rfl) ?_
  refine W.eq (g2 := F0 m 4 ls []) rfl ?_
  refine g_aload_n C dX7_init_4 rfl hl 0 rfl ?_
  refine g_bipush (a := 100) C dX7_init_5 (by decide) ?_
  refine g_newC C G (n := 1) 100 rfl (Nat.le_of_ble_eq_true rfl) (by decide +kernel : Cond.arrayClass .char ∈ wsX7_init) (Nat.le_of_ble_eq_true rfl) (Nat.le_of_ble_eq_true rfl) dX7_init_7 (fun (ad_1 : Nat → Nat) H hE_2 C G => ?_)
  replace C : gC p c cX7_init 2 s m args wsX7_init RX7 κ B 2 ad_1 := C
  obtain ⟨g_3, hg_4⟩ : ∃ g9, g9 = va_up g 1 (aCh κ 100 (fun _ => 0)) := ⟨_, rfl⟩
  rw [← hg_4] at G
  replace G := (show gG κ B 2 ad_1 s g_3 H _ from G)
  rw [← hE_2 0 (by omega)] at hl
  rw [← hE_2 0 (by omega)]
  have hc_5 : g_3 0 = .inr (7, [.null, .int (iz 0), .null, .null, .null, .null, .null, .null]) := by have q9 := he; rw [hg_4, gu_ne (by omega)]; exact q9
  have hc_6 : g_3 1 = aCh κ 100 (fun _ => 0) := by rw [hg_4]; exact gu_self _ _ _
  refine g_putF C G hnm (pos := 0) (fs' := [.ref (ad_1 1), .int (iz 0), .null, .null, .null, .null, .null, .null]) fwX7_init_9 (by omega) hc_5 (Nat.le_of_ble_eq_true rfl) rfl rfl rfl dX7_init_9 (fun H locs G => ?_)
  obtain ⟨g_7, hg_8⟩ : ∃ g9, g9 = va_up g_3 0 (.inr (7, [.ref (ad_1 1), .int (iz 0), .null, .null, .null, .null, .null, .null])) := ⟨_, rfl⟩
  rw [← hg_8] at G
  have hc_9 : g_7 0 = .inr (7, [.ref (ad_1 1), .int (iz 0), .null, .null, .null, .null, .null, .null]) := by rw [hg_8]; exact gu_self _ _ _
  have hc_10 : g_7 1 = aCh κ 100 (fun _ => 0) := by rw [hg_8, gu_ne (by decide)]; exact hc_6
  refine g_aload_n C dX7_init_12 rfl hl 0 rfl ?_
  refine g_new C G (n := 2) (fs := [.int (iz 0), .int (iz 0), .int (iz 0), .null, .null, .null]) (ty := tyX4) (rfl : vwCl[4]? = some (RX4, TX4, 6)) nwX7_init_4 tyX4_ok (by decide +kernel : Cond.classLink RX7 13 RX4 ∈ wsX7_init) (by decide +kernel : Cond.instantiable RX4 6 ∈ wsX7_init) (by decide +kernel : Cond.initialized RX4 ∈ wsX7_init) (fun j hj => by rcases j with _ | _ | _ | _ | _ | _ | j <;> first | rfl | omega) (Nat.le_of_ble_eq_true rfl) (Nat.le_of_ble_eq_true rfl) dX7_init_13 (fun (ad_11 : Nat → Nat) H hE_12 C G => ?_)
  replace C : gC p c cX7_init 2 s m args wsX7_init RX7 κ B 3 ad_11 := C
  obtain ⟨g_13, hg_14⟩ : ∃ g9, g9 = va_up g_7 2 (.inr (4, [.int (iz 0), .int (iz 0), .int (iz 0), .null, .null, .null])) := ⟨_, rfl⟩
  rw [← hg_14] at G
  replace G := (show gG κ B 3 ad_11 s g_13 H _ from G)
  have hE0_15 : ∀ k, k < 1 → ad_11 k = ad k := fun k hk => (hE_12 k (by omega)).trans (hE_2 k hk)
  rw [← hE_12 0 (by omega)] at hl
  rw [← hE_12 0 (by omega)]
  have hc_16 : g_13 0 = .inr (7, [.ref (ad_11 1), .int (iz 0), .null, .null, .null, .null, .null, .null]) := by have q9 := hc_9; rw [← hE_12 1 (by omega)] at q9; rw [hg_14, gu_ne (by omega)]; exact q9
  have hc_17 : g_13 1 = aCh κ 100 (fun _ => 0) := by have q9 := hc_10; rw [hg_14, gu_ne (by omega)]; exact q9
  have hc_18 : g_13 2 = .inr (4, [.int (iz 0), .int (iz 0), .int (iz 0), .null, .null, .null]) := by rw [hg_14]; exact gu_self _ _ _
  refine lv_dup C.1.1 C.1.2.1 dX7_init_16 rfl ?_
  refine g_cvG (n' := 12) C G (g_runIA (As := []) (rest := [.ref (ad_11 2), .ref (ad_11 0)]) (pos := 2) C G AO (c_X4_init l κ B ad_11 g_13 2 hc_18) (cwI 0 C.1.2.2.2.2 gX7_init_X4_init rfl rfl rfl (C.1.2.2.2.2 _ (by decide +kernel : Cond.initialized RX4 ∈ wsX7_init)) (C.1.2.2.2.2 _ (by decide +kernel : Cond.methodLink RX7 15 yX4_init ∈ wsX7_init)) (C.1.2.2.2.2 _ (by decide +kernel : Cond.instanceMethod yX4_init ∈ wsX7_init)) rfl (by decide +kernel) ⟨Nat.le_of_ble_eq_true rfl, Nat.le_of_ble_eq_true rfl⟩) rfl hl rfl (Nat.le_of_ble_eq_true rfl) dX7_init_17 ⟨Nat.le_of_ble_eq_true rfl, Nat.le_of_ble_eq_true rfl⟩) (fun ad_19 g_20 H locs hE_21 hw_22 C G => ?_)
  have hE0_23 : ∀ k, k < 1 → ad_19 k = ad k := fun k hk => (hE_21 k (by omega)).trans (hE0_15 k hk)
  rw [← hE_21 0 (by omega)] at hl
  rw [← hE_21 2 (by omega), ← hE_21 0 (by omega)]
  have hc_24 : g_20 0 = .inr (7, [.ref (ad_19 1), .int (iz 0), .null, .null, .null, .null, .null, .null]) := by have q9 := hc_16; rw [← hE_21 1 (by omega)] at q9; exact (hw_22.2 _ (by omega)).trans q9
  have hc_25 : g_20 1 = aCh κ 100 (fun _ => 0) := by have q9 := hc_17; exact (hw_22.2 _ (by omega)).trans q9
  refine g_putF C G hnm (pos := 0) (fs' := [.ref (ad_19 1), .int (iz 0), .ref (ad_19 2), .null, .null, .null, .null, .null]) fwX7_init_16 (by omega) hc_24 (Nat.le_of_ble_eq_true rfl) rfl rfl rfl dX7_init_20 (fun H locs G => ?_)
  obtain ⟨g_26, hg_27⟩ : ∃ g9, g9 = va_up g_20 0 (.inr (7, [.ref (ad_19 1), .int (iz 0), .ref (ad_19 2), .null, .null, .null, .null, .null])) := ⟨_, rfl⟩
  rw [← hg_27] at G
  have hc_28 : g_26 0 = .inr (7, [.ref (ad_19 1), .int (iz 0), .ref (ad_19 2), .null, .null, .null, .null, .null]) := by rw [hg_27]; exact gu_self _ _ _
  have hc_29 : g_26 1 = aCh κ 100 (fun _ => 0) := by rw [hg_27, gu_ne (by decide)]; exact hc_25
  have hf_30 : isPl κ ad_19 g_26 2 0 v00 := hw_22.1.grow (fun k hk => rfl) (fun q q0 q1 => by rw [hg_27]; exact gu_ne (by omega))
  refine g_aload_n C dX7_init_23 rfl hl 0 rfl ?_
  refine g_new C G (n := 12) (fs := [.int (iz 0), .int (iz 0), .int (iz 0), .null, .null, .null]) (ty := tyX4) (rfl : vwCl[4]? = some (RX4, TX4, 6)) nwX7_init_4 tyX4_ok (by decide +kernel : Cond.classLink RX7 13 RX4 ∈ wsX7_init) (by decide +kernel : Cond.instantiable RX4 6 ∈ wsX7_init) (by decide +kernel : Cond.initialized RX4 ∈ wsX7_init) (fun j hj => by rcases j with _ | _ | _ | _ | _ | _ | j <;> first | rfl | omega) (Nat.le_of_ble_eq_true rfl) (Nat.le_of_ble_eq_true rfl) dX7_init_24 (fun (ad_31 : Nat → Nat) H hE_32 C G => ?_)
  replace C : gC p c cX7_init 2 s m args wsX7_init RX7 κ B 13 ad_31 := C
  obtain ⟨g_33, hg_34⟩ : ∃ g9, g9 = va_up g_26 12 (.inr (4, [.int (iz 0), .int (iz 0), .int (iz 0), .null, .null, .null])) := ⟨_, rfl⟩
  rw [← hg_34] at G
  replace G := (show gG κ B 13 ad_31 s g_33 H _ from G)
  have hE0_35 : ∀ k, k < 1 → ad_31 k = ad k := fun k hk => (hE_32 k (by omega)).trans (hE0_23 k hk)
  rw [← hE_32 0 (by omega)] at hl
  rw [← hE_32 0 (by omega)]
  have hc_36 : g_33 0 = .inr (7, [.ref (ad_31 1), .int (iz 0), .ref (ad_31 2), .null, .null, .null, .null, .null]) := by have q9 := hc_28; rw [← hE_32 1 (by omega), ← hE_32 2 (by omega)] at q9; rw [hg_34, gu_ne (by omega)]; exact q9
  have hc_37 : g_33 1 = aCh κ 100 (fun _ => 0) := by have q9 := hc_29; rw [hg_34, gu_ne (by omega)]; exact q9
  have hc_38 : g_33 12 = .inr (4, [.int (iz 0), .int (iz 0), .int (iz 0), .null, .null, .null]) := by rw [hg_34]; exact gu_self _ _ _
  have hf_39 : isPl κ ad_31 g_33 2 0 v00 := hf_30.grow (fun k hk => hE_32 k (by omega)) (fun q q0 q1 => by rw [hg_34]; exact gu_ne (by omega))
  refine lv_dup C.1.1 C.1.2.1 dX7_init_27 rfl ?_
  refine g_cvG (n' := 22) C G (g_runIA (As := []) (rest := [.ref (ad_31 12), .ref (ad_31 0)]) (pos := 12) C G AO (c_X4_init l κ B ad_31 g_33 12 hc_38) (cwI 0 C.1.2.2.2.2 gX7_init_X4_init rfl rfl rfl (C.1.2.2.2.2 _ (by decide +kernel : Cond.initialized RX4 ∈ wsX7_init)) (C.1.2.2.2.2 _ (by decide +kernel : Cond.methodLink RX7 15 yX4_init ∈ wsX7_init)) (C.1.2.2.2.2 _ (by decide +kernel : Cond.instanceMethod yX4_init ∈ wsX7_init)) rfl (by decide +kernel) ⟨Nat.le_of_ble_eq_true rfl, Nat.le_of_ble_eq_true rfl⟩) rfl hl rfl (Nat.le_of_ble_eq_true rfl) dX7_init_28 ⟨Nat.le_of_ble_eq_true rfl, Nat.le_of_ble_eq_true rfl⟩) (fun ad_40 g_41 H locs hE_42 hw_43 C G => ?_)
  have hE0_44 : ∀ k, k < 1 → ad_40 k = ad k := fun k hk => (hE_42 k (by omega)).trans (hE0_35 k hk)
  rw [← hE_42 0 (by omega)] at hl
  rw [← hE_42 12 (by omega), ← hE_42 0 (by omega)]
  have hc_45 : g_41 0 = .inr (7, [.ref (ad_40 1), .int (iz 0), .ref (ad_40 2), .null, .null, .null, .null, .null]) := by have q9 := hc_36; rw [← hE_42 1 (by omega), ← hE_42 2 (by omega)] at q9; exact (hw_43.2 _ (by omega)).trans q9
  have hc_46 : g_41 1 = aCh κ 100 (fun _ => 0) := by have q9 := hc_37; exact (hw_43.2 _ (by omega)).trans q9
  have hf_47 : isPl κ ad_40 g_41 2 0 v00 := hf_39.grow (fun k hk => hE_42 k (by omega)) (fun q q0 q1 => hw_43.2 _ (by omega))
  refine g_putF C G hnm (pos := 0) (fs' := [.ref (ad_40 1), .int (iz 0), .ref (ad_40 2), .ref (ad_40 12), .null, .null, .null, .null]) fwX7_init_20 (by omega) hc_45 (Nat.le_of_ble_eq_true rfl) rfl rfl rfl dX7_init_31 (fun H locs G => ?_)
  obtain ⟨g_48, hg_49⟩ : ∃ g9, g9 = va_up g_41 0 (.inr (7, [.ref (ad_40 1), .int (iz 0), .ref (ad_40 2), .ref (ad_40 12), .null, .null, .null, .null])) := ⟨_, rfl⟩
  rw [← hg_49] at G
  have hc_50 : g_48 0 = .inr (7, [.ref (ad_40 1), .int (iz 0), .ref (ad_40 2), .ref (ad_40 12), .null, .null, .null, .null]) := by rw [hg_49]; exact gu_self _ _ _
  have hc_51 : g_48 1 = aCh κ 100 (fun _ => 0) := by rw [hg_49, gu_ne (by decide)]; exact hc_46
  have hf_52 : isPl κ ad_40 g_48 2 0 v00 := hf_47.grow (fun k hk => rfl) (fun q q0 q1 => by rw [hg_49]; exact gu_ne (by omega))
  have hf_53 : isPl κ ad_40 g_48 12 0 v00 := hw_43.1.grow (fun k hk => rfl) (fun q q0 q1 => by rw [hg_49]; exact gu_ne (by omega))
  refine g_aload_n C dX7_init_34 rfl hl 0 rfl ?_
  refine g_new C G (n := 22) (fs := [.null, .int (iz 0), .int (iz 0)]) (ty := tyX2) (rfl : vwCl[2]? = some (RX2, TX2, 3)) nwX7_init_2 tyX2_ok (by decide +kernel : Cond.classLink RX7 23 RX2 ∈ wsX7_init) (by decide +kernel : Cond.instantiable RX2 3 ∈ wsX7_init) (by decide +kernel : Cond.initialized RX2 ∈ wsX7_init) (fun j hj => by rcases j with _ | _ | _ | j <;> first | rfl | omega) (Nat.le_of_ble_eq_true rfl) (Nat.le_of_ble_eq_true rfl) dX7_init_35 (fun (ad_54 : Nat → Nat) H hE_55 C G => ?_)
  replace C : gC p c cX7_init 2 s m args wsX7_init RX7 κ B 23 ad_54 := C
  obtain ⟨g_56, hg_57⟩ : ∃ g9, g9 = va_up g_48 22 (.inr (2, [.null, .int (iz 0), .int (iz 0)])) := ⟨_, rfl⟩
  rw [← hg_57] at G
  replace G := (show gG κ B 23 ad_54 s g_56 H _ from G)
  have hE0_58 : ∀ k, k < 1 → ad_54 k = ad k := fun k hk => (hE_55 k (by omega)).trans (hE0_44 k hk)
  rw [← hE_55 0 (by omega)] at hl
  rw [← hE_55 0 (by omega)]
  have hc_59 : g_56 0 = .inr (7, [.ref (ad_54 1), .int (iz 0), .ref (ad_54 2), .ref (ad_54 12), .null, .null, .null, .null]) := by have q9 := hc_50; rw [← hE_55 1 (by omega), ← hE_55 2 (by omega), ← hE_55 12 (by omega)] at q9; rw [hg_57, gu_ne (by omega)]; exact q9
  have hc_60 : g_56 1 = aCh κ 100 (fun _ => 0) := by have q9 := hc_51; rw [hg_57, gu_ne (by omega)]; exact q9
  have hc_61 : g_56 22 = .inr (2, [.null, .int (iz 0), .int (iz 0)]) := by rw [hg_57]; exact gu_self _ _ _
  have hf_62 : isPl κ ad_54 g_56 2 0 v00 := hf_52.grow (fun k hk => hE_55 k (by omega)) (fun q q0 q1 => by rw [hg_57]; exact gu_ne (by omega))
  have hf_63 : isPl κ ad_54 g_56 12 0 v00 := hf_53.grow (fun k hk => hE_55 k (by omega)) (fun q q0 q1 => by rw [hg_57]; exact gu_ne (by omega))
  refine lv_dup C.1.1 C.1.2.1 dX7_init_38 rfl ?_
  refine g_cvG (n' := 164) C G (g_runIA (As := []) (rest := [.ref (ad_54 22), .ref (ad_54 0)]) (pos := 22) C G AO (c_X2_init l κ B ad_54 g_56 22 hc_61) (cwI 0 C.1.2.2.2.2 gX7_init_X2_init rfl rfl rfl (C.1.2.2.2.2 _ (by decide +kernel : Cond.initialized RX2 ∈ wsX7_init)) (C.1.2.2.2.2 _ (by decide +kernel : Cond.methodLink RX7 25 yX2_init ∈ wsX7_init)) (C.1.2.2.2.2 _ (by decide +kernel : Cond.instanceMethod yX2_init ∈ wsX7_init)) rfl (by decide +kernel) ⟨Nat.le_of_ble_eq_true rfl, Nat.le_of_ble_eq_true rfl⟩) rfl hl rfl (Nat.le_of_ble_eq_true rfl) dX7_init_39 ⟨Nat.le_of_ble_eq_true rfl, Nat.le_of_ble_eq_true rfl⟩) (fun ad_64 g_65 H locs hE_66 hw_67 C G => ?_)
  have hE0_68 : ∀ k, k < 1 → ad_64 k = ad k := fun k hk => (hE_66 k (by omega)).trans (hE0_58 k hk)
  rw [← hE_66 0 (by omega)] at hl
  rw [← hE_66 22 (by omega), ← hE_66 0 (by omega)]
  have hc_69 : g_65 0 = .inr (7, [.ref (ad_64 1), .int (iz 0), .ref (ad_64 2), .ref (ad_64 12), .null, .null, .null, .null]) := by have q9 := hc_59; rw [← hE_66 1 (by omega), ← hE_66 2 (by omega), ← hE_66 12 (by omega)] at q9; exact (hw_67.2 _ (by omega)).trans q9
  have hc_70 : g_65 1 = aCh κ 100 (fun _ => 0) := by have q9 := hc_60; exact (hw_67.2 _ (by omega)).trans q9
  have hf_71 : isPl κ ad_64 g_65 2 0 v00 := hf_62.grow (fun k hk => hE_66 k (by omega)) (fun q q0 q1 => hw_67.2 _ (by omega))
  have hf_72 : isPl κ ad_64 g_65 12 0 v00 := hf_63.grow (fun k hk => hE_66 k (by omega)) (fun q q0 q1 => hw_67.2 _ (by omega))
  refine g_putF C G hnm (pos := 0) (fs' := [.ref (ad_64 1), .int (iz 0), .ref (ad_64 2), .ref (ad_64 12), .ref (ad_64 22), .null, .null, .null]) fwX7_init_26 (by omega) hc_69 (Nat.le_of_ble_eq_true rfl) rfl rfl rfl dX7_init_42 (fun H locs G => ?_)
  obtain ⟨g_73, hg_74⟩ : ∃ g9, g9 = va_up g_65 0 (.inr (7, [.ref (ad_64 1), .int (iz 0), .ref (ad_64 2), .ref (ad_64 12), .ref (ad_64 22), .null, .null, .null])) := ⟨_, rfl⟩
  rw [← hg_74] at G
  have hc_75 : g_73 0 = .inr (7, [.ref (ad_64 1), .int (iz 0), .ref (ad_64 2), .ref (ad_64 12), .ref (ad_64 22), .null, .null, .null]) := by rw [hg_74]; exact gu_self _ _ _
  have hc_76 : g_73 1 = aCh κ 100 (fun _ => 0) := by rw [hg_74, gu_ne (by decide)]; exact hc_70
  have hf_77 : isPl κ ad_64 g_73 2 0 v00 := hf_71.grow (fun k hk => rfl) (fun q q0 q1 => by rw [hg_74]; exact gu_ne (by omega))
  have hf_78 : isPl κ ad_64 g_73 12 0 v00 := hf_72.grow (fun k hk => rfl) (fun q q0 q1 => by rw [hg_74]; exact gu_ne (by omega))
  have hf_79 : isHi κ ad_64 g_73 22 0 0 (fun _ => (0, v00)) := hw_67.1.grow (fun k hk => rfl) (fun q q0 q1 => by rw [hg_74]; exact gu_ne (by omega))
  refine g_aload_n C dX7_init_45 rfl hl 0 rfl ?_
  refine g_iconst (a := 2) C dX7_init_46 rfl ?_
  refine g_anewPl C G AO (n := 164) 2 rfl (Nat.le_of_ble_eq_true rfl) (by decide +kernel : Cond.classLink RX7 13 RX4 ∈ wsX7_init) (Nat.le_of_ble_eq_true rfl) (Nat.le_of_ble_eq_true rfl) dX7_init_47 (fun (ad_80 : Nat → Nat) H hE_81 C G => ?_)
  replace C : gC p c cX7_init 2 s m args wsX7_init RX7 κ B 165 ad_80 := C
  obtain ⟨g_82, hg_83⟩ : ∃ g9, g9 = va_up g_73 164 (aPl κ 2 (fun _ => none)) := ⟨_, rfl⟩
  rw [← hg_83] at G
  replace G := (show gG κ B 165 ad_80 s g_82 H _ from G)
  have hE0_84 : ∀ k, k < 1 → ad_80 k = ad k := fun k hk => (hE_81 k (by omega)).trans (hE0_68 k hk)
  rw [← hE_81 0 (by omega)] at hl
  rw [← hE_81 0 (by omega)]
  have hc_85 : g_82 0 = .inr (7, [.ref (ad_80 1), .int (iz 0), .ref (ad_80 2), .ref (ad_80 12), .ref (ad_80 22), .null, .null, .null]) := by have q9 := hc_75; rw [← hE_81 1 (by omega), ← hE_81 2 (by omega), ← hE_81 12 (by omega), ← hE_81 22 (by omega)] at q9; rw [hg_83, gu_ne (by omega)]; exact q9
  have hc_86 : g_82 1 = aCh κ 100 (fun _ => 0) := by have q9 := hc_76; rw [hg_83, gu_ne (by omega)]; exact q9
  have hc_87 : g_82 164 = aPl κ 2 (fun _ => none) := by rw [hg_83]; exact gu_self _ _ _
  have hf_88 : isPl κ ad_80 g_82 2 0 v00 := hf_77.grow (fun k hk => hE_81 k (by omega)) (fun q q0 q1 => by rw [hg_83]; exact gu_ne (by omega))
  have hf_89 : isPl κ ad_80 g_82 12 0 v00 := hf_78.grow (fun k hk => hE_81 k (by omega)) (fun q q0 q1 => by rw [hg_83]; exact gu_ne (by omega))
  have hf_90 : isHi κ ad_80 g_82 22 0 0 (fun _ => (0, v00)) := hf_79.grow (fun k hk => hE_81 k (by omega)) (fun q q0 q1 => by rw [hg_83]; exact gu_ne (by omega))
  refine g_putF C G hnm (pos := 0) (fs' := [.ref (ad_80 1), .int (iz 0), .ref (ad_80 2), .ref (ad_80 12), .ref (ad_80 22), .ref (ad_80 164), .null, .null]) fwX7_init_30 (by omega) hc_85 (Nat.le_of_ble_eq_true rfl) rfl rfl rfl dX7_init_50 (fun H locs G => ?_)
  obtain ⟨g_91, hg_92⟩ : ∃ g9, g9 = va_up g_82 0 (.inr (7, [.ref (ad_80 1), .int (iz 0), .ref (ad_80 2), .ref (ad_80 12), .ref (ad_80 22), .ref (ad_80 164), .null, .null])) := ⟨_, rfl⟩
  rw [← hg_92] at G
  have hc_93 : g_91 0 = .inr (7, [.ref (ad_80 1), .int (iz 0), .ref (ad_80 2), .ref (ad_80 12), .ref (ad_80 22), .ref (ad_80 164), .null, .null]) := by rw [hg_92]; exact gu_self _ _ _
  have hc_94 : g_91 1 = aCh κ 100 (fun _ => 0) := by rw [hg_92, gu_ne (by decide)]; exact hc_86
  have hc_95 : g_91 164 = aPl κ 2 (fun _ => none) := by rw [hg_92, gu_ne (by decide)]; exact hc_87
  have hf_96 : isPl κ ad_80 g_91 2 0 v00 := hf_88.grow (fun k hk => rfl) (fun q q0 q1 => by rw [hg_92]; exact gu_ne (by omega))
  have hf_97 : isPl κ ad_80 g_91 12 0 v00 := hf_89.grow (fun k hk => rfl) (fun q q0 q1 => by rw [hg_92]; exact gu_ne (by omega))
  have hf_98 : isHi κ ad_80 g_91 22 0 0 (fun _ => (0, v00)) := hf_90.grow (fun k hk => rfl) (fun q q0 q1 => by rw [hg_92]; exact gu_ne (by omega))
  refine g_aload_n C dX7_init_53 rfl hl 0 rfl ?_
  refine g_iconst (a := 2) C dX7_init_54 rfl ?_
  refine g_newZ C G (n := 165) 2 rfl (Nat.le_of_ble_eq_true rfl) (by decide +kernel : Cond.arrayClass .boolean ∈ wsX7_init) (Nat.le_of_ble_eq_true rfl) (Nat.le_of_ble_eq_true rfl) dX7_init_55 (fun (ad_99 : Nat → Nat) H hE_100 C G => ?_)
  replace C : gC p c cX7_init 2 s m args wsX7_init RX7 κ B 166 ad_99 := C
  obtain ⟨g_101, hg_102⟩ : ∃ g9, g9 = va_up g_91 165 (aZ κ 2 (fun _ => 0)) := ⟨_, rfl⟩
  rw [← hg_102] at G
  replace G := (show gG κ B 166 ad_99 s g_101 H _ from G)
  have hE0_103 : ∀ k, k < 1 → ad_99 k = ad k := fun k hk => (hE_100 k (by omega)).trans (hE0_84 k hk)
  rw [← hE_100 0 (by omega)] at hl
  rw [← hE_100 0 (by omega)]
  have hc_104 : g_101 0 = .inr (7, [.ref (ad_99 1), .int (iz 0), .ref (ad_99 2), .ref (ad_99 12), .ref (ad_99 22), .ref (ad_99 164), .null, .null]) := by have q9 := hc_93; rw [← hE_100 1 (by omega), ← hE_100 2 (by omega), ← hE_100 12 (by omega), ← hE_100 22 (by omega), ← hE_100 164 (by omega)] at q9; rw [hg_102, gu_ne (by omega)]; exact q9
  have hc_105 : g_101 1 = aCh κ 100 (fun _ => 0) := by have q9 := hc_94; rw [hg_102, gu_ne (by omega)]; exact q9
  have hc_106 : g_101 164 = aPl κ 2 (fun _ => none) := by have q9 := hc_95; rw [hg_102, gu_ne (by omega)]; exact q9
  have hc_107 : g_101 165 = aZ κ 2 (fun _ => 0) := by rw [hg_102]; exact gu_self _ _ _
  have hf_108 : isPl κ ad_99 g_101 2 0 v00 := hf_96.grow (fun k hk => hE_100 k (by omega)) (fun q q0 q1 => by rw [hg_102]; exact gu_ne (by omega))
  have hf_109 : isPl κ ad_99 g_101 12 0 v00 := hf_97.grow (fun k hk => hE_100 k (by omega)) (fun q q0 q1 => by rw [hg_102]; exact gu_ne (by omega))
  have hf_110 : isHi κ ad_99 g_101 22 0 0 (fun _ => (0, v00)) := hf_98.grow (fun k hk => hE_100 k (by omega)) (fun q q0 q1 => by rw [hg_102]; exact gu_ne (by omega))
  refine g_putF C G hnm (pos := 0) (fs' := [.ref (ad_99 1), .int (iz 0), .ref (ad_99 2), .ref (ad_99 12), .ref (ad_99 22), .ref (ad_99 164), .ref (ad_99 165), .null]) fwX7_init_34 (by omega) hc_104 (Nat.le_of_ble_eq_true rfl) rfl rfl rfl dX7_init_57 (fun H locs G => ?_)
  obtain ⟨g_111, hg_112⟩ : ∃ g9, g9 = va_up g_101 0 (.inr (7, [.ref (ad_99 1), .int (iz 0), .ref (ad_99 2), .ref (ad_99 12), .ref (ad_99 22), .ref (ad_99 164), .ref (ad_99 165), .null])) := ⟨_, rfl⟩
  rw [← hg_112] at G
  have hc_113 : g_111 0 = .inr (7, [.ref (ad_99 1), .int (iz 0), .ref (ad_99 2), .ref (ad_99 12), .ref (ad_99 22), .ref (ad_99 164), .ref (ad_99 165), .null]) := by rw [hg_112]; exact gu_self _ _ _
  have hc_114 : g_111 1 = aCh κ 100 (fun _ => 0) := by rw [hg_112, gu_ne (by decide)]; exact hc_105
  have hc_115 : g_111 164 = aPl κ 2 (fun _ => none) := by rw [hg_112, gu_ne (by decide)]; exact hc_106
  have hc_116 : g_111 165 = aZ κ 2 (fun _ => 0) := by rw [hg_112, gu_ne (by decide)]; exact hc_107
  have hf_117 : isPl κ ad_99 g_111 2 0 v00 := hf_108.grow (fun k hk => rfl) (fun q q0 q1 => by rw [hg_112]; exact gu_ne (by omega))
  have hf_118 : isPl κ ad_99 g_111 12 0 v00 := hf_109.grow (fun k hk => rfl) (fun q q0 q1 => by rw [hg_112]; exact gu_ne (by omega))
  have hf_119 : isHi κ ad_99 g_111 22 0 0 (fun _ => (0, v00)) := hf_110.grow (fun k hk => rfl) (fun q q0 q1 => by rw [hg_112]; exact gu_ne (by omega))
  refine g_iconst (a := 0) C dX7_init_60 rfl ?_
  refine lv_istore_n (lv' := [(1, .int (iz 0)), (0, .ref (ad_99 0))]) C.1.1 C.1.2.1 dX7_init_61 rfl hl (by decide) rfl (fun ls hl => ?_)
  refine g_iload_n C dX7_init_62 rfl hl 0 rfl ?_
  refine g_aload_n C dX7_init_63 rfl hl 1 rfl ?_
  refine g_get C G (pos := 0) fX7_init_30 (by omega) hc_113 rfl dX7_init_64 ?_
  refine g_alenPl C G (pos := 164) (by omega) hc_115 dX7_init_67 ?_
  show W p l e _ s m args below meth c _ _ _ _ _ (F0 m _ ls (.int (iz 2) :: _))
  refine g_icmp_ge (tgt := 90) C (by decide) (by decide) dX7_init_68 (by decide) (fun c9 => absurd c9 (by decide)) (fun _ => ?_)
  refine g_aload_n C dX7_init_71 rfl hl 1 rfl ?_
  refine g_get C G (pos := 0) fX7_init_30 (by omega) hc_113 rfl dX7_init_72 ?_
  refine g_iload_n C dX7_init_75 rfl hl 0 rfl ?_
  refine g_new C G (n := 166) (fs := [.int (iz 0), .int (iz 0), .int (iz 0), .null, .null, .null]) (ty := tyX4) (rfl : vwCl[4]? = some (RX4, TX4, 6)) nwX7_init_4 tyX4_ok (by decide +kernel : Cond.classLink RX7 13 RX4 ∈ wsX7_init) (by decide +kernel : Cond.instantiable RX4 6 ∈ wsX7_init) (by decide +kernel : Cond.initialized RX4 ∈ wsX7_init) (fun j hj => by rcases j with _ | _ | _ | _ | _ | _ | j <;> first | rfl | omega) (Nat.le_of_ble_eq_true rfl) (Nat.le_of_ble_eq_true rfl) dX7_init_76 (fun (ad_120 : Nat → Nat) H hE_121 C G => ?_)
  replace C : gC p c cX7_init 2 s m args wsX7_init RX7 κ B 167 ad_120 := C
  obtain ⟨g_122, hg_123⟩ : ∃ g9, g9 = va_up g_111 166 (.inr (4, [.int (iz 0), .int (iz 0), .int (iz 0), .null, .null, .null])) := ⟨_, rfl⟩
  rw [← hg_123] at G
  replace G := (show gG κ B 167 ad_120 s g_122 H _ from G)
  have hE0_124 : ∀ k, k < 1 → ad_120 k = ad k := fun k hk => (hE_121 k (by omega)).trans (hE0_103 k hk)
  rw [← hE_121 0 (by omega)] at hl
  rw [← hE_121 164 (by omega)]
  have hc_125 : g_122 0 = .inr (7, [.ref (ad_120 1), .int (iz 0), .ref (ad_120 2), .ref (ad_120 12), .ref (ad_120 22), .ref (ad_120 164), .ref (ad_120 165), .null]) := by have q9 := hc_113; rw [← hE_121 1 (by omega), ← hE_121 2 (by omega), ← hE_121 12 (by omega), ← hE_121 22 (by omega), ← hE_121 164 (by omega), ← hE_121 165 (by omega)] at q9; rw [hg_123, gu_ne (by omega)]; exact q9
  have hc_126 : g_122 1 = aCh κ 100 (fun _ => 0) := by have q9 := hc_114; rw [hg_123, gu_ne (by omega)]; exact q9
  have hc_127 : g_122 164 = aPl κ 2 (fun _ => none) := by have q9 := hc_115; rw [hg_123, gu_ne (by omega)]; exact q9
  have hc_128 : g_122 165 = aZ κ 2 (fun _ => 0) := by have q9 := hc_116; rw [hg_123, gu_ne (by omega)]; exact q9
  have hc_129 : g_122 166 = .inr (4, [.int (iz 0), .int (iz 0), .int (iz 0), .null, .null, .null]) := by rw [hg_123]; exact gu_self _ _ _
  have hf_130 : isPl κ ad_120 g_122 2 0 v00 := hf_117.grow (fun k hk => hE_121 k (by omega)) (fun q q0 q1 => by rw [hg_123]; exact gu_ne (by omega))
  have hf_131 : isPl κ ad_120 g_122 12 0 v00 := hf_118.grow (fun k hk => hE_121 k (by omega)) (fun q q0 q1 => by rw [hg_123]; exact gu_ne (by omega))
  have hf_132 : isHi κ ad_120 g_122 22 0 0 (fun _ => (0, v00)) := hf_119.grow (fun k hk => hE_121 k (by omega)) (fun q q0 q1 => by rw [hg_123]; exact gu_ne (by omega))
  refine lv_dup C.1.1 C.1.2.1 dX7_init_79 rfl ?_
  refine g_cvG (n' := 176) C G (g_runIA (As := []) (rest := [.ref (ad_120 166), .int (iz 0), .ref (ad_120 164)]) (pos := 166) C G AO (c_X4_init l κ B ad_120 g_122 166 hc_129) (cwI 0 C.1.2.2.2.2 gX7_init_X4_init rfl rfl rfl (C.1.2.2.2.2 _ (by decide +kernel : Cond.initialized RX4 ∈ wsX7_init)) (C.1.2.2.2.2 _ (by decide +kernel : Cond.methodLink RX7 15 yX4_init ∈ wsX7_init)) (C.1.2.2.2.2 _ (by decide +kernel : Cond.instanceMethod yX4_init ∈ wsX7_init)) rfl (by decide +kernel) ⟨Nat.le_of_ble_eq_true rfl, Nat.le_of_ble_eq_true rfl⟩) rfl hl rfl (Nat.le_of_ble_eq_true rfl) dX7_init_80 ⟨Nat.le_of_ble_eq_true rfl, Nat.le_of_ble_eq_true rfl⟩) (fun ad_133 g_134 H locs hE_135 hw_136 C G => ?_)
  have hE0_137 : ∀ k, k < 1 → ad_133 k = ad k := fun k hk => (hE_135 k (by omega)).trans (hE0_124 k hk)
  rw [← hE_135 0 (by omega)] at hl
  rw [← hE_135 166 (by omega), ← hE_135 164 (by omega)]
  have hc_138 : g_134 0 = .inr (7, [.ref (ad_133 1), .int (iz 0), .ref (ad_133 2), .ref (ad_133 12), .ref (ad_133 22), .ref (ad_133 164), .ref (ad_133 165), .null]) := by have q9 := hc_125; rw [← hE_135 1 (by omega), ← hE_135 2 (by omega), ← hE_135 12 (by omega), ← hE_135 22 (by omega), ← hE_135 164 (by omega), ← hE_135 165 (by omega)] at q9; exact (hw_136.2 _ (by omega)).trans q9
  have hc_139 : g_134 1 = aCh κ 100 (fun _ => 0) := by have q9 := hc_126; exact (hw_136.2 _ (by omega)).trans q9
  have hc_140 : g_134 164 = aPl κ 2 (fun _ => none) := by have q9 := hc_127; exact (hw_136.2 _ (by omega)).trans q9
  have hc_141 : g_134 165 = aZ κ 2 (fun _ => 0) := by have q9 := hc_128; exact (hw_136.2 _ (by omega)).trans q9
  have hf_142 : isPl κ ad_133 g_134 2 0 v00 := hf_130.grow (fun k hk => hE_135 k (by omega)) (fun q q0 q1 => hw_136.2 _ (by omega))
  have hf_143 : isPl κ ad_133 g_134 12 0 v00 := hf_131.grow (fun k hk => hE_135 k (by omega)) (fun q q0 q1 => hw_136.2 _ (by omega))
  have hf_144 : isHi κ ad_133 g_134 22 0 0 (fun _ => (0, v00)) := hf_132.grow (fun k hk => hE_135 k (by omega)) (fun q q0 q1 => hw_136.2 _ (by omega))
  refine g_aastPl C G (pos := 164) (q := 166) (by omega) hc_140 (by omega) hw_136.1.1 (by decide) (by decide) (by decide) dX7_init_83 (fun H locs G => ?_)
  obtain ⟨g_145, hg_146⟩ : ∃ g9, g9 = va_up g_134 164 (aPl κ 2 (va_up (fun _ => none) (0 : Int).toNat (some (ad_133 166)))) := ⟨_, rfl⟩
  rw [← hg_146] at G
  have hc_147 : g_145 0 = .inr (7, [.ref (ad_133 1), .int (iz 0), .ref (ad_133 2), .ref (ad_133 12), .ref (ad_133 22), .ref (ad_133 164), .ref (ad_133 165), .null]) := by rw [hg_146, gu_ne (by decide)]; exact hc_138
  have hc_148 : g_145 1 = aCh κ 100 (fun _ => 0) := by rw [hg_146, gu_ne (by decide)]; exact hc_139
  have hc_149 : g_145 164 = aPl κ 2 (va_up (fun _ => none) (0 : Int).toNat (some (ad_133 166))) := by rw [hg_146]; exact gu_self _ _ _
  have hc_150 : g_145 165 = aZ κ 2 (fun _ => 0) := by rw [hg_146, gu_ne (by decide)]; exact hc_141
  have hf_151 : isPl κ ad_133 g_145 2 0 v00 := hf_142.grow (fun k hk => rfl) (fun q q0 q1 => by rw [hg_146]; exact gu_ne (by omega))
  have hf_152 : isPl κ ad_133 g_145 12 0 v00 := hf_143.grow (fun k hk => rfl) (fun q q0 q1 => by rw [hg_146]; exact gu_ne (by omega))
  have hf_153 : isHi κ ad_133 g_145 22 0 0 (fun _ => (0, v00)) := hf_144.grow (fun k hk => rfl) (fun q q0 q1 => by rw [hg_146]; exact gu_ne (by omega))
  have hf_154 : isPl κ ad_133 g_145 166 0 v00 := hw_136.1.grow (fun k hk => rfl) (fun q q0 q1 => by rw [hg_146]; exact gu_ne (by omega))
  refine lv_iinc (v := iz 1) (lv' := [(1, .int (iz 1)), (0, .ref (ad_133 0))]) C.1.1 C.1.2.1 dX7_init_84 hl (k := 0) rfl (g_inc (by omega)) (by decide) rfl (fun ls hl => ?_)
  refine g_goto (tgt := 62) C dX7_init_87 (by decide) ?_
  refine g_iload_n C dX7_init_62 rfl hl 0 rfl ?_
  refine g_aload_n C dX7_init_63 rfl hl 1 rfl ?_
  refine g_get C G (pos := 0) fX7_init_30 (by omega) hc_147 rfl dX7_init_64 ?_
  refine g_alenPl C G (pos := 164) (by omega) hc_149 dX7_init_67 ?_
  show W p l e _ s m args below meth c _ _ _ _ _ (F0 m _ ls (.int (iz 2) :: _))
  refine g_icmp_ge (tgt := 90) C (by decide) (by decide) dX7_init_68 (by decide) (fun c9 => absurd c9 (by decide)) (fun _ => ?_)
  refine g_aload_n C dX7_init_71 rfl hl 1 rfl ?_
  refine g_get C G (pos := 0) fX7_init_30 (by omega) hc_147 rfl dX7_init_72 ?_
  refine g_iload_n C dX7_init_75 rfl hl 0 rfl ?_
  refine g_new C G (n := 176) (fs := [.int (iz 0), .int (iz 0), .int (iz 0), .null, .null, .null]) (ty := tyX4) (rfl : vwCl[4]? = some (RX4, TX4, 6)) nwX7_init_4 tyX4_ok (by decide +kernel : Cond.classLink RX7 13 RX4 ∈ wsX7_init) (by decide +kernel : Cond.instantiable RX4 6 ∈ wsX7_init) (by decide +kernel : Cond.initialized RX4 ∈ wsX7_init) (fun j hj => by rcases j with _ | _ | _ | _ | _ | _ | j <;> first | rfl | omega) (Nat.le_of_ble_eq_true rfl) (Nat.le_of_ble_eq_true rfl) dX7_init_76 (fun (ad_155 : Nat → Nat) H hE_156 C G => ?_)
  replace C : gC p c cX7_init 2 s m args wsX7_init RX7 κ B 177 ad_155 := C
  obtain ⟨g_157, hg_158⟩ : ∃ g9, g9 = va_up g_145 176 (.inr (4, [.int (iz 0), .int (iz 0), .int (iz 0), .null, .null, .null])) := ⟨_, rfl⟩
  rw [← hg_158] at G
  replace G := (show gG κ B 177 ad_155 s g_157 H _ from G)
  have hE0_159 : ∀ k, k < 1 → ad_155 k = ad k := fun k hk => (hE_156 k (by omega)).trans (hE0_137 k hk)
  rw [← hE_156 0 (by omega)] at hl
  rw [← hE_156 164 (by omega)]
  have hc_160 : g_157 0 = .inr (7, [.ref (ad_155 1), .int (iz 0), .ref (ad_155 2), .ref (ad_155 12), .ref (ad_155 22), .ref (ad_155 164), .ref (ad_155 165), .null]) := by have q9 := hc_147; rw [← hE_156 1 (by omega), ← hE_156 2 (by omega), ← hE_156 12 (by omega), ← hE_156 22 (by omega), ← hE_156 164 (by omega), ← hE_156 165 (by omega)] at q9; rw [hg_158, gu_ne (by omega)]; exact q9
  have hc_161 : g_157 1 = aCh κ 100 (fun _ => 0) := by have q9 := hc_148; rw [hg_158, gu_ne (by omega)]; exact q9
  have hc_162 : g_157 164 = aPl κ 2 (va_up (fun _ => none) (0 : Int).toNat (some (ad_155 166))) := by have q9 := hc_149; rw [← hE_156 166 (by omega)] at q9; rw [hg_158, gu_ne (by omega)]; exact q9
  have hc_163 : g_157 165 = aZ κ 2 (fun _ => 0) := by have q9 := hc_150; rw [hg_158, gu_ne (by omega)]; exact q9
  have hc_164 : g_157 176 = .inr (4, [.int (iz 0), .int (iz 0), .int (iz 0), .null, .null, .null]) := by rw [hg_158]; exact gu_self _ _ _
  have hf_165 : isPl κ ad_155 g_157 2 0 v00 := hf_151.grow (fun k hk => hE_156 k (by omega)) (fun q q0 q1 => by rw [hg_158]; exact gu_ne (by omega))
  have hf_166 : isPl κ ad_155 g_157 12 0 v00 := hf_152.grow (fun k hk => hE_156 k (by omega)) (fun q q0 q1 => by rw [hg_158]; exact gu_ne (by omega))
  have hf_167 : isHi κ ad_155 g_157 22 0 0 (fun _ => (0, v00)) := hf_153.grow (fun k hk => hE_156 k (by omega)) (fun q q0 q1 => by rw [hg_158]; exact gu_ne (by omega))
  have hf_168 : isPl κ ad_155 g_157 166 0 v00 := hf_154.grow (fun k hk => hE_156 k (by omega)) (fun q q0 q1 => by rw [hg_158]; exact gu_ne (by omega))
  refine lv_dup C.1.1 C.1.2.1 dX7_init_79 rfl ?_
  refine g_cvG (n' := 186) C G (g_runIA (As := []) (rest := [.ref (ad_155 176), .int (iz 1), .ref (ad_155 164)]) (pos := 176) C G AO (c_X4_init l κ B ad_155 g_157 176 hc_164) (cwI 0 C.1.2.2.2.2 gX7_init_X4_init rfl rfl rfl (C.1.2.2.2.2 _ (by decide +kernel : Cond.initialized RX4 ∈ wsX7_init)) (C.1.2.2.2.2 _ (by decide +kernel : Cond.methodLink RX7 15 yX4_init ∈ wsX7_init)) (C.1.2.2.2.2 _ (by decide +kernel : Cond.instanceMethod yX4_init ∈ wsX7_init)) rfl (by decide +kernel) ⟨Nat.le_of_ble_eq_true rfl, Nat.le_of_ble_eq_true rfl⟩) rfl hl rfl (Nat.le_of_ble_eq_true rfl) dX7_init_80 ⟨Nat.le_of_ble_eq_true rfl, Nat.le_of_ble_eq_true rfl⟩) (fun ad_169 g_170 H locs hE_171 hw_172 C G => ?_)
  have hE0_173 : ∀ k, k < 1 → ad_169 k = ad k := fun k hk => (hE_171 k (by omega)).trans (hE0_159 k hk)
  rw [← hE_171 0 (by omega)] at hl
  rw [← hE_171 176 (by omega), ← hE_171 164 (by omega)]
  have hc_174 : g_170 0 = .inr (7, [.ref (ad_169 1), .int (iz 0), .ref (ad_169 2), .ref (ad_169 12), .ref (ad_169 22), .ref (ad_169 164), .ref (ad_169 165), .null]) := by have q9 := hc_160; rw [← hE_171 1 (by omega), ← hE_171 2 (by omega), ← hE_171 12 (by omega), ← hE_171 22 (by omega), ← hE_171 164 (by omega), ← hE_171 165 (by omega)] at q9; exact (hw_172.2 _ (by omega)).trans q9
  have hc_175 : g_170 1 = aCh κ 100 (fun _ => 0) := by have q9 := hc_161; exact (hw_172.2 _ (by omega)).trans q9
  have hc_176 : g_170 164 = aPl κ 2 (va_up (fun _ => none) (0 : Int).toNat (some (ad_169 166))) := by have q9 := hc_162; rw [← hE_171 166 (by omega)] at q9; exact (hw_172.2 _ (by omega)).trans q9
  have hc_177 : g_170 165 = aZ κ 2 (fun _ => 0) := by have q9 := hc_163; exact (hw_172.2 _ (by omega)).trans q9
  have hf_178 : isPl κ ad_169 g_170 2 0 v00 := hf_165.grow (fun k hk => hE_171 k (by omega)) (fun q q0 q1 => hw_172.2 _ (by omega))
  have hf_179 : isPl κ ad_169 g_170 12 0 v00 := hf_166.grow (fun k hk => hE_171 k (by omega)) (fun q q0 q1 => hw_172.2 _ (by omega))
  have hf_180 : isHi κ ad_169 g_170 22 0 0 (fun _ => (0, v00)) := hf_167.grow (fun k hk => hE_171 k (by omega)) (fun q q0 q1 => hw_172.2 _ (by omega))
  have hf_181 : isPl κ ad_169 g_170 166 0 v00 := hf_168.grow (fun k hk => hE_171 k (by omega)) (fun q q0 q1 => hw_172.2 _ (by omega))
  refine g_aastPl C G (pos := 164) (q := 176) (by omega) hc_176 (by omega) hw_172.1.1 (by decide) (by decide) (by decide) dX7_init_83 (fun H locs G => ?_)
  obtain ⟨g_182, hg_183⟩ : ∃ g9, g9 = va_up g_170 164 (aPl κ 2 (va_up (va_up (fun _ => none) (0 : Int).toNat (some (ad_169 166))) (1 : Int).toNat (some (ad_169 176)))) := ⟨_, rfl⟩
  rw [← hg_183] at G
  have hc_184 : g_182 0 = .inr (7, [.ref (ad_169 1), .int (iz 0), .ref (ad_169 2), .ref (ad_169 12), .ref (ad_169 22), .ref (ad_169 164), .ref (ad_169 165), .null]) := by rw [hg_183, gu_ne (by decide)]; exact hc_174
  have hc_185 : g_182 1 = aCh κ 100 (fun _ => 0) := by rw [hg_183, gu_ne (by decide)]; exact hc_175
  have hc_186 : g_182 164 = aPl κ 2 (va_up (va_up (fun _ => none) (0 : Int).toNat (some (ad_169 166))) (1 : Int).toNat (some (ad_169 176))) := by rw [hg_183]; exact gu_self _ _ _
  have hc_187 : g_182 165 = aZ κ 2 (fun _ => 0) := by rw [hg_183, gu_ne (by decide)]; exact hc_177
  have hf_188 : isPl κ ad_169 g_182 2 0 v00 := hf_178.grow (fun k hk => rfl) (fun q q0 q1 => by rw [hg_183]; exact gu_ne (by omega))
  have hf_189 : isPl κ ad_169 g_182 12 0 v00 := hf_179.grow (fun k hk => rfl) (fun q q0 q1 => by rw [hg_183]; exact gu_ne (by omega))
  have hf_190 : isHi κ ad_169 g_182 22 0 0 (fun _ => (0, v00)) := hf_180.grow (fun k hk => rfl) (fun q q0 q1 => by rw [hg_183]; exact gu_ne (by omega))
  have hf_191 : isPl κ ad_169 g_182 166 0 v00 := hf_181.grow (fun k hk => rfl) (fun q q0 q1 => by rw [hg_183]; exact gu_ne (by omega))
  have hf_192 : isPl κ ad_169 g_182 176 0 v00 := hw_172.1.grow (fun k hk => rfl) (fun q q0 q1 => by rw [hg_183]; exact gu_ne (by omega))
  refine lv_iinc (v := iz 2) (lv' := [(1, .int (iz 2)), (0, .ref (ad_169 0))]) C.1.1 C.1.2.1 dX7_init_84 hl (k := 0) rfl (g_inc (by omega)) (by decide) rfl (fun ls hl => ?_)
  refine g_goto (tgt := 62) C dX7_init_87 (by decide) ?_
  refine g_iload_n C dX7_init_62 rfl hl 0 rfl ?_
  refine g_aload_n C dX7_init_63 rfl hl 1 rfl ?_
  refine g_get C G (pos := 0) fX7_init_30 (by omega) hc_184 rfl dX7_init_64 ?_
  refine g_alenPl C G (pos := 164) (by omega) hc_186 dX7_init_67 ?_
  show W p l e _ s m args below meth c _ _ _ _ _ (F0 m _ ls (.int (iz 2) :: _))
  refine g_icmp_ge (tgt := 90) C (by decide) (by decide) dX7_init_68 (by decide) (fun _ => ?_) (fun c9 => absurd c9 (by decide))
  refine g_aload_n C dX7_init_90 rfl hl 1 rfl ?_
  refine g_new C G (n := 186) (fs := [.null, .null, .null]) (ty := tyX0) (rfl : vwCl[0]? = some (RX0, TX0, 3)) nwX7_init_0 tyX0_ok (by decide +kernel : Cond.classLink RX7 38 RX0 ∈ wsX7_init) (by decide +kernel : Cond.instantiable RX0 3 ∈ wsX7_init) (by decide +kernel : Cond.initialized RX0 ∈ wsX7_init) (fun j hj => by rcases j with _ | _ | _ | j <;> first | rfl | omega) (Nat.le_of_ble_eq_true rfl) (Nat.le_of_ble_eq_true rfl) dX7_init_91 (fun (ad_193 : Nat → Nat) H hE_194 C G => ?_)
  replace C : gC p c cX7_init 2 s m args wsX7_init RX7 κ B 187 ad_193 := C
  obtain ⟨g_195, hg_196⟩ : ∃ g9, g9 = va_up g_182 186 (.inr (0, [.null, .null, .null])) := ⟨_, rfl⟩
  rw [← hg_196] at G
  replace G := (show gG κ B 187 ad_193 s g_195 H _ from G)
  have hE0_197 : ∀ k, k < 1 → ad_193 k = ad k := fun k hk => (hE_194 k (by omega)).trans (hE0_173 k hk)
  rw [← hE_194 0 (by omega)] at hl
  rw [← hE_194 0 (by omega)]
  have hc_198 : g_195 0 = .inr (7, [.ref (ad_193 1), .int (iz 0), .ref (ad_193 2), .ref (ad_193 12), .ref (ad_193 22), .ref (ad_193 164), .ref (ad_193 165), .null]) := by have q9 := hc_184; rw [← hE_194 1 (by omega), ← hE_194 2 (by omega), ← hE_194 12 (by omega), ← hE_194 22 (by omega), ← hE_194 164 (by omega), ← hE_194 165 (by omega)] at q9; rw [hg_196, gu_ne (by omega)]; exact q9
  have hc_199 : g_195 1 = aCh κ 100 (fun _ => 0) := by have q9 := hc_185; rw [hg_196, gu_ne (by omega)]; exact q9
  have hc_200 : g_195 164 = aPl κ 2 (va_up (va_up (fun _ => none) (0 : Int).toNat (some (ad_193 166))) (1 : Int).toNat (some (ad_193 176))) := by have q9 := hc_186; rw [← hE_194 166 (by omega), ← hE_194 176 (by omega)] at q9; rw [hg_196, gu_ne (by omega)]; exact q9
  have hc_201 : g_195 165 = aZ κ 2 (fun _ => 0) := by have q9 := hc_187; rw [hg_196, gu_ne (by omega)]; exact q9
  have hc_202 : g_195 186 = .inr (0, [.null, .null, .null]) := by rw [hg_196]; exact gu_self _ _ _
  have hf_203 : isPl κ ad_193 g_195 2 0 v00 := hf_188.grow (fun k hk => hE_194 k (by omega)) (fun q q0 q1 => by rw [hg_196]; exact gu_ne (by omega))
  have hf_204 : isPl κ ad_193 g_195 12 0 v00 := hf_189.grow (fun k hk => hE_194 k (by omega)) (fun q q0 q1 => by rw [hg_196]; exact gu_ne (by omega))
  have hf_205 : isHi κ ad_193 g_195 22 0 0 (fun _ => (0, v00)) := hf_190.grow (fun k hk => hE_194 k (by omega)) (fun q q0 q1 => by rw [hg_196]; exact gu_ne (by omega))
  have hf_206 : isPl κ ad_193 g_195 166 0 v00 := hf_191.grow (fun k hk => hE_194 k (by omega)) (fun q q0 q1 => by rw [hg_196]; exact gu_ne (by omega))
  have hf_207 : isPl κ ad_193 g_195 176 0 v00 := hf_192.grow (fun k hk => hE_194 k (by omega)) (fun q q0 q1 => by rw [hg_196]; exact gu_ne (by omega))
  refine lv_dup C.1.1 C.1.2.1 dX7_init_94 rfl ?_
  refine g_cvG (n' := 192) C G (g_runIA (As := []) (rest := [.ref (ad_193 186), .ref (ad_193 0)]) (pos := 186) C G AO (c_X0_init l κ B ad_193 g_195 186 hc_202) (cwI 0 C.1.2.2.2.2 gX7_init_X0_init rfl rfl rfl (C.1.2.2.2.2 _ (by decide +kernel : Cond.initialized RX0 ∈ wsX7_init)) (C.1.2.2.2.2 _ (by decide +kernel : Cond.methodLink RX7 40 yX0_init ∈ wsX7_init)) (C.1.2.2.2.2 _ (by decide +kernel : Cond.instanceMethod yX0_init ∈ wsX7_init)) rfl (by decide +kernel) ⟨Nat.le_of_ble_eq_true rfl, Nat.le_of_ble_eq_true rfl⟩) rfl hl rfl (Nat.le_of_ble_eq_true rfl) dX7_init_95 ⟨Nat.le_of_ble_eq_true rfl, Nat.le_of_ble_eq_true rfl⟩) (fun ad_208 g_209 H locs hE_210 hw_211 C G => ?_)
  have hE0_212 : ∀ k, k < 1 → ad_208 k = ad k := fun k hk => (hE_210 k (by omega)).trans (hE0_197 k hk)
  rw [← hE_210 0 (by omega)] at hl
  rw [← hE_210 186 (by omega), ← hE_210 0 (by omega)]
  have hc_213 : g_209 0 = .inr (7, [.ref (ad_208 1), .int (iz 0), .ref (ad_208 2), .ref (ad_208 12), .ref (ad_208 22), .ref (ad_208 164), .ref (ad_208 165), .null]) := by have q9 := hc_198; rw [← hE_210 1 (by omega), ← hE_210 2 (by omega), ← hE_210 12 (by omega), ← hE_210 22 (by omega), ← hE_210 164 (by omega), ← hE_210 165 (by omega)] at q9; exact (hw_211.2 _ (by omega)).trans q9
  have hc_214 : g_209 1 = aCh κ 100 (fun _ => 0) := by have q9 := hc_199; exact (hw_211.2 _ (by omega)).trans q9
  have hc_215 : g_209 164 = aPl κ 2 (va_up (va_up (fun _ => none) (0 : Int).toNat (some (ad_208 166))) (1 : Int).toNat (some (ad_208 176))) := by have q9 := hc_200; rw [← hE_210 166 (by omega), ← hE_210 176 (by omega)] at q9; exact (hw_211.2 _ (by omega)).trans q9
  have hc_216 : g_209 165 = aZ κ 2 (fun _ => 0) := by have q9 := hc_201; exact (hw_211.2 _ (by omega)).trans q9
  have hf_217 : isPl κ ad_208 g_209 2 0 v00 := hf_203.grow (fun k hk => hE_210 k (by omega)) (fun q q0 q1 => hw_211.2 _ (by omega))
  have hf_218 : isPl κ ad_208 g_209 12 0 v00 := hf_204.grow (fun k hk => hE_210 k (by omega)) (fun q q0 q1 => hw_211.2 _ (by omega))
  have hf_219 : isHi κ ad_208 g_209 22 0 0 (fun _ => (0, v00)) := hf_205.grow (fun k hk => hE_210 k (by omega)) (fun q q0 q1 => hw_211.2 _ (by omega))
  have hf_220 : isPl κ ad_208 g_209 166 0 v00 := hf_206.grow (fun k hk => hE_210 k (by omega)) (fun q q0 q1 => hw_211.2 _ (by omega))
  have hf_221 : isPl κ ad_208 g_209 176 0 v00 := hf_207.grow (fun k hk => hE_210 k (by omega)) (fun q q0 q1 => hw_211.2 _ (by omega))
  refine g_putF C G hnm (pos := 0) (fs' := [.ref (ad_208 1), .int (iz 0), .ref (ad_208 2), .ref (ad_208 12), .ref (ad_208 22), .ref (ad_208 164), .ref (ad_208 165), .ref (ad_208 186)]) fwX7_init_41 (by omega) hc_213 (Nat.le_of_ble_eq_true rfl) rfl rfl rfl dX7_init_98 (fun H locs G => ?_)
  obtain ⟨g_222, hg_223⟩ : ∃ g9, g9 = va_up g_209 0 (.inr (7, [.ref (ad_208 1), .int (iz 0), .ref (ad_208 2), .ref (ad_208 12), .ref (ad_208 22), .ref (ad_208 164), .ref (ad_208 165), .ref (ad_208 186)])) := ⟨_, rfl⟩
  rw [← hg_223] at G
  have hc_224 : g_222 0 = .inr (7, [.ref (ad_208 1), .int (iz 0), .ref (ad_208 2), .ref (ad_208 12), .ref (ad_208 22), .ref (ad_208 164), .ref (ad_208 165), .ref (ad_208 186)]) := by rw [hg_223]; exact gu_self _ _ _
  have hc_225 : g_222 1 = aCh κ 100 (fun _ => 0) := by rw [hg_223, gu_ne (by decide)]; exact hc_214
  have hc_226 : g_222 164 = aPl κ 2 (va_up (va_up (fun _ => none) (0 : Int).toNat (some (ad_208 166))) (1 : Int).toNat (some (ad_208 176))) := by rw [hg_223, gu_ne (by decide)]; exact hc_215
  have hc_227 : g_222 165 = aZ κ 2 (fun _ => 0) := by rw [hg_223, gu_ne (by decide)]; exact hc_216
  have hf_228 : isPl κ ad_208 g_222 2 0 v00 := hf_217.grow (fun k hk => rfl) (fun q q0 q1 => by rw [hg_223]; exact gu_ne (by omega))
  have hf_229 : isPl κ ad_208 g_222 12 0 v00 := hf_218.grow (fun k hk => rfl) (fun q q0 q1 => by rw [hg_223]; exact gu_ne (by omega))
  have hf_230 : isHi κ ad_208 g_222 22 0 0 (fun _ => (0, v00)) := hf_219.grow (fun k hk => rfl) (fun q q0 q1 => by rw [hg_223]; exact gu_ne (by omega))
  have hf_231 : isPl κ ad_208 g_222 166 0 v00 := hf_220.grow (fun k hk => rfl) (fun q q0 q1 => by rw [hg_223]; exact gu_ne (by omega))
  have hf_232 : isPl κ ad_208 g_222 176 0 v00 := hf_221.grow (fun k hk => rfl) (fun q q0 q1 => by rw [hg_223]; exact gu_ne (by omega))
  have hf_233 : isBn κ ad_208 g_222 186 := hw_211.1.grow (fun k hk => rfl) (fun q q0 q1 => by rw [hg_223]; exact gu_ne (by omega))
  refine g_vretG C G hr hlk (Nat.le_of_ble_eq_true rfl) (Nat.le_of_ble_eq_true rfl) dX7_init_101 hE0_212 ?_
  exact ⟨⟨hc_224, hc_226.trans (congrArg (aPl κ 2) (row2 ad_208))⟩, hc_225, hf_228, hf_229, hf_230, hc_227, hf_231, hf_232, hf_233⟩
