/-! PLATES: a plate's ten cells by a vector of 42 numbers and the number of layers -/
abbrev oP (ad : Nat → Nat) (po : Nat) (nl : Int) (v : Int → Int) : va_E := .inr (4, [.int (iz (v 0)), .int (iz nl), .int (iz (v 25)), .ref (ad (po + 1)), .ref (ad (po + 8)), .ref (ad (po + 9))])
def isPl (κ : gKap) (ad : Nat → Nat) (g : Nat → va_E) (po : Nat) (nl : Int) (v : Int → Int) : Prop :=
  g po = oP ad po nl v ∧ g (po + 1) = aL κ 6 (fun j => if j < 6 then some (ad (po + 2 + j)) else none) ∧ (∀ j : Nat, j < 6 → g (po + 2 + j) = oL (v (4 * (j : Int) + 1)) (v (4 * (j : Int) + 2)) (v (4 * (j : Int) + 3)) (v (4 * (j : Int) + 4))) ∧ g (po + 8) = aI κ 8 (fun i => v (26 + 2 * i)) ∧ g (po + 9) = aI κ 8 (fun i => v (27 + 2 * i))
theorem aI_congr {κ : gKap} {len : Nat} {f f' : Int → Int} (h : ∀ k : Nat, f (k : Int) = f' (k : Int)) : aI κ len f = aI κ len f' := by
  have h1 : (fun k : Nat => iz (f (k : Int))) = fun k : Nat => iz (f' (k : Int)) := funext fun k => by rw [h k]
  show (Sum.inl (κ.2 0, len, Sum.inl (fun k : Nat => iz (f (k : Int)))) : va_E) = _
  rw [h1]
theorem isPl.lay {κ : gKap} {ad : Nat → Nat} {g : Nat → va_E} {po : Nat} {nl l : Int} {v : Int → Int} (h : isPl κ ad g po nl v) (h0 : 0 ≤ l) (h1 : l < 6) : g (po + 2 + l.toNat) = oL (v (4 * l + 1)) (v (4 * l + 2)) (v (4 * l + 3)) (v (4 * l + 4)) := by
  have := h.2.2.1 l.toNat (by omega)
  rw [Int.toNat_of_nonneg h0] at this
  exact this
theorem isPl.far {κ : gKap} {ad : Nat → Nat} {g g' : Nat → va_E} {po : Nat} {nl : Int} {v : Int → Int} (h : isPl κ ad g po nl v) (hq : ∀ q, po ≤ q → q < po + 10 → g' q = g q) : isPl κ ad g' po nl v :=
  ⟨(hq _ (by omega) (by omega)).trans h.1, (hq _ (by omega) (by omega)).trans h.2.1, fun j hj => (hq _ (by omega) (by omega)).trans (h.2.2.1 j hj), (hq _ (by omega) (by omega)).trans h.2.2.2.1, (hq _ (by omega) (by omega)).trans h.2.2.2.2⟩
theorem isPl.out {κ : gKap} {ad : Nat → Nat} {g : Nat → va_E} {po q : Nat} {nl : Int} {v : Int → Int} {x : va_E} (h : isPl κ ad g po nl v) (hq : q < po ∨ po + 10 ≤ q) : isPl κ ad (va_up g q x) po nl v := h.far (fun k _ _ => gu_ne (by omega))
theorem isPl.obj {κ : gKap} {ad : Nat → Nat} {g : Nat → va_E} {po : Nat} {nl nl' : Int} {v v' : Int → Int} (h : isPl κ ad g po nl v) (hv : ∀ i, i ≠ 0 → i ≠ 25 → v' i = v i) : isPl κ ad (va_up g po (oP ad po nl' v')) po nl' v' := by
  refine ⟨gu_self _ _ _, (gu_ne (by omega)).trans h.2.1, fun j hj => (gu_ne (by omega)).trans ?_, (gu_ne (by omega)).trans ?_, (gu_ne (by omega)).trans ?_⟩
  · rw [h.2.2.1 j hj, hv _ (by omega) (by omega), hv _ (by omega) (by omega), hv _ (by omega) (by omega), hv _ (by omega) (by omega)]
  · rw [h.2.2.2.1]
    refine aI_congr (fun k => ?_)
    show v (26 + 2 * (k : Int)) = v' (26 + 2 * (k : Int))
    rw [hv _ (by omega) (by omega)]
  · rw [h.2.2.2.2]
    refine aI_congr (fun k => ?_)
    show v (27 + 2 * (k : Int)) = v' (27 + 2 * (k : Int))
    rw [hv _ (by omega) (by omega)]
theorem vu_self (v : Int → Int) (z x : Int) : vu v z x z = x := by simp [vu]
theorem vu_ne {v : Int → Int} {z x i : Int} (h : i ≠ z) : vu v z x i = v i := by simp [vu, h]
theorem isPl.ring {κ : gKap} {ad : Nat → Nat} {g : Nat → va_E} {po : Nat} {nl x : Int} {v : Int → Int} (h : isPl κ ad g po nl v) : isPl κ ad (va_up g po (.inr (4, [.int (iz x), .int (iz nl), .int (iz (v 25)), .ref (ad (po + 1)), .ref (ad (po + 8)), .ref (ad (po + 9))]))) po nl (vu v 0 x) := by
  have h1 := h.obj (nl' := nl) (v' := vu v 0 x) (fun i i0 _ => vu_ne i0)
  rw [show oP ad po nl (vu v 0 x) = .inr (4, [.int (iz x), .int (iz nl), .int (iz (v 25)), .ref (ad (po + 1)), .ref (ad (po + 8)), .ref (ad (po + 9))]) from by simp [vu]] at h1
  exact h1
theorem isPl.num {κ : gKap} {ad : Nat → Nat} {g : Nat → va_E} {po : Nat} {nl x : Int} {v : Int → Int} (h : isPl κ ad g po nl v) : isPl κ ad (va_up g po (.inr (4, [.int (iz (v 0)), .int (iz x), .int (iz (v 25)), .ref (ad (po + 1)), .ref (ad (po + 8)), .ref (ad (po + 9))]))) po x v := h.obj (fun _ _ _ => rfl)
theorem isPl.see {κ : gKap} {ad : Nat → Nat} {g : Nat → va_E} {po : Nat} {nl x : Int} {v : Int → Int} (h : isPl κ ad g po nl v) : isPl κ ad (va_up g po (.inr (4, [.int (iz (v 0)), .int (iz nl), .int (iz x), .ref (ad (po + 1)), .ref (ad (po + 8)), .ref (ad (po + 9))]))) po nl (vu v 25 x) := by
  have h1 := h.obj (nl' := nl) (v' := vu v 25 x) (fun i _ i0 => vu_ne i0)
  rw [show oP ad po nl (vu v 25 x) = .inr (4, [.int (iz (v 0)), .int (iz nl), .int (iz x), .ref (ad (po + 1)), .ref (ad (po + 8)), .ref (ad (po + 9))]) from by simp [vu]] at h1
  exact h1
def v4 (v : Int → Int) (l a b c9 d : Int) : Int → Int := fun i => if i = 4 * l + 1 then a else if i = 4 * l + 2 then b else if i = 4 * l + 3 then c9 else if i = 4 * l + 4 then d else v i
theorem isPl.layer {κ : gKap} {ad : Nat → Nat} {g : Nat → va_E} {po : Nat} {nl l a b c9 d : Int} {v : Int → Int} (h : isPl κ ad g po nl v) (h0 : 0 ≤ l) (h1 : l < 6) : isPl κ ad (va_up g (po + 2 + l.toNat) (oL a b c9 d)) po nl (v4 v l a b c9 d) := by
  have far : ∀ i : Int, (i < 4 * l + 1 ∨ 4 * l + 4 < i) → v4 v l a b c9 d i = v i := by
    intro i hi
    unfold v4
    rw [if_neg (by omega), if_neg (by omega), if_neg (by omega), if_neg (by omega)]
  refine ⟨(gu_ne (by omega)).trans ?_, (gu_ne (by omega)).trans h.2.1, fun j hj => ?_, (gu_ne (by omega)).trans ?_, (gu_ne (by omega)).trans ?_⟩
  · rw [h.1]
    simp only [oP, far 0 (by omega), far 25 (by omega)]
  · by_cases hjl : (j : Int) = l
    · have : j = l.toNat := by omega
      subst this
      rw [gu_self, Int.toNat_of_nonneg h0]
      simp [v4] <;> omega
    · rw [gu_ne (by omega), h.2.2.1 j hj, far _ (by omega), far _ (by omega), far _ (by omega), far _ (by omega)]
  · rw [h.2.2.2.1]
    refine aI_congr (fun k => ?_)
    show v (26 + 2 * (k : Int)) = v4 v l a b c9 d (26 + 2 * (k : Int))
    rw [far _ (by omega)]
  · rw [h.2.2.2.2]
    refine aI_congr (fun k => ?_)
    show v (27 + 2 * (k : Int)) = v4 v l a b c9 d (27 + 2 * (k : Int))
    rw [far _ (by omega)]
theorem isPl.ang {κ : gKap} {ad : Nat → Nat} {g : Nat → va_E} {po : Nat} {nl z x : Int} {v : Int → Int} (h : isPl κ ad g po nl v) (h0 : 0 ≤ z) : isPl κ ad (va_up g (po + 8) (aI κ 8 (vu (fun i => v (26 + 2 * i)) z x))) po nl (vu v (26 + 2 * z) x) := by
  refine ⟨(gu_ne (by omega)).trans ?_, (gu_ne (by omega)).trans h.2.1, fun j hj => (gu_ne (by omega)).trans ?_, (gu_self _ _ _).trans ?_, (gu_ne (by omega)).trans ?_⟩
  · rw [h.1]
    simp only [oP]
    rw [vu_ne (by omega), vu_ne (by omega)]
  · rw [h.2.2.1 j hj, vu_ne (by omega), vu_ne (by omega), vu_ne (by omega), vu_ne (by omega)]
  · refine aI_congr (fun k => ?_)
    by_cases hk : (k : Int) = z
    · simp [vu, hk]
    · show vu (fun i => v (26 + 2 * i)) z x (k : Int) = vu v (26 + 2 * z) x (26 + 2 * (k : Int))
      rw [vu_ne hk, vu_ne (by omega)]
  · rw [h.2.2.2.2]
    refine aI_congr (fun k => ?_)
    show v (27 + 2 * (k : Int)) = vu v (26 + 2 * z) x (27 + 2 * (k : Int))
    rw [vu_ne (by omega)]
theorem isPl.rad {κ : gKap} {ad : Nat → Nat} {g : Nat → va_E} {po : Nat} {nl z x : Int} {v : Int → Int} (h : isPl κ ad g po nl v) (h0 : 0 ≤ z) : isPl κ ad (va_up g (po + 9) (aI κ 8 (vu (fun i => v (27 + 2 * i)) z x))) po nl (vu v (27 + 2 * z) x) := by
  refine ⟨(gu_ne (by omega)).trans ?_, (gu_ne (by omega)).trans h.2.1, fun j hj => (gu_ne (by omega)).trans ?_, (gu_ne (by omega)).trans ?_, (gu_self _ _ _).trans ?_⟩
  · rw [h.1]
    simp only [oP]
    rw [vu_ne (by omega), vu_ne (by omega)]
  · rw [h.2.2.1 j hj, vu_ne (by omega), vu_ne (by omega), vu_ne (by omega), vu_ne (by omega)]
  · rw [h.2.2.2.1]
    refine aI_congr (fun k => ?_)
    show v (26 + 2 * (k : Int)) = vu v (27 + 2 * z) x (26 + 2 * (k : Int))
    rw [vu_ne (by omega)]
  · refine aI_congr (fun k => ?_)
    by_cases hk : (k : Int) = z
    · simp [vu, hk]
    · show vu (fun i => v (27 + 2 * i)) z x (k : Int) = vu v (27 + 2 * z) x (27 + 2 * (k : Int))
      rw [vu_ne hk, vu_ne (by omega)]
/-- nothing but the plate's cells changed -/
def frP (g g' : Nat → va_E) (po : Nat) : Prop := ∀ q : Nat, q < po ∨ po + 10 ≤ q → g' q = g q
theorem frP.rf {g : Nat → va_E} {po : Nat} : frP g g po := fun _ _ => rfl
theorem frP.up {g g' : Nat → va_E} {po k : Nat} {x : va_E} (h : frP g g' po) (hk : po ≤ k) (hk2 : k < po + 10) : frP g (va_up g' k x) po := fun q hq => (gu_ne (by omega)).trans (h q hq)
theorem frP.tr {g g' g2 : Nat → va_E} {po : Nat} (h : frP g g' po) (h2 : frP g' g2 po) : frP g g2 po := fun q hq => (h2 q hq).trans (h q hq)
/-- a plate that can be -/
def okPl (nl : Int) (v : Int → Int) : Prop := (0 ≤ nl ∧ nl ≤ 6) ∧ (12 ≤ v 0 ∧ v 0 ≤ 96) ∧ (0 ≤ v 25 ∧ v 25 ≤ 8) ∧ (∀ l, 0 ≤ l → l < nl → okL (v (4 * l + 1)) (v (4 * l + 2)) (v (4 * l + 3)) ∧ 0 ≤ v (4 * l + 4) ∧ v (4 * l + 4) < v 0) ∧ (∀ i, 0 ≤ i → i < v 25 → (0 ≤ v (26 + 2 * i) ∧ v (26 + 2 * i) < v 0) ∧ 0 ≤ v (27 + 2 * i) ∧ v (27 + 2 * i) ≤ 300)
def inV (v : Int → Int) : Prop := ∀ i, 0 ≤ i → i < 42 → inI (v i)
/-- two vectors that say the same of a plate of nl layers -/
def sim (nl : Int) (v f : Int → Int) : Prop := v 0 = f 0 ∧ v 25 = f 25 ∧ (∀ i, 1 ≤ i → i ≤ 4 * nl → v i = f i) ∧ ∀ i, 26 ≤ i → i < 26 + 2 * f 25 → v i = f i
theorem sim.rf {nl : Int} {v : Int → Int} : sim nl v v := ⟨rfl, rfl, fun _ _ _ => rfl, fun _ _ _ => rfl⟩
theorem sim.symm {nl : Int} {v f : Int → Int} (h : sim nl v f) : sim nl f v := ⟨h.1.symm, h.2.1.symm, fun i i0 i1 => (h.2.2.1 i i0 i1).symm, fun i i0 i1 => (h.2.2.2 i i0 (by rw [← h.2.1]; exact i1)).symm⟩
theorem sim.tr {nl : Int} {v f f2 : Int → Int} (h : sim nl v f) (h2 : sim nl f f2) : sim nl v f2 := ⟨h.1.trans h2.1, h.2.1.trans h2.2.1, fun i i0 i1 => (h.2.2.1 i i0 i1).trans (h2.2.2.1 i i0 i1), fun i i0 i1 => (h.2.2.2 i i0 (by rw [h2.2.1]; exact i1)).trans (h2.2.2.2 i i0 i1)⟩
theorem okPl.sim {nl : Int} {v f : Int → Int} (h : okPl nl v) (s9 : sim nl v f) : okPl nl f := by
  obtain ⟨h1, h2, h3, h4, h5⟩ := h
  obtain ⟨s1, s2, s3, s4⟩ := s9
  rw [s1] at h2
  rw [s2] at h3
  refine ⟨h1, h2, h3, fun l l0 l1 => ?_, fun i i0 i1 => ?_⟩
  · have := h4 l l0 l1
    rw [s1, s3 _ (by omega) (by omega), s3 _ (by omega) (by omega), s3 _ (by omega) (by omega), s3 _ (by omega) (by omega)] at this
    exact this
  · have := h5 i i0 (by omega)
    rw [s1, s4 _ (by omega) (by omega), s4 _ (by omega) (by omega)] at this
    exact this
/-! what is asked of a plate -/
def PTl (v : Int → Int) (l a r : Int) : Prop := PT (v 0) (v (4 * l + 1)) (v (4 * l + 2)) (v (4 * l + 3)) (v (4 * l + 4)) a r
def FITw (v : Int → Int) (w sd ho st0 : Int) : Prop := ∀ i, 0 ≤ i → i < v 25 → PT (v 0) w sd ho st0 (v (26 + 2 * i)) (v (27 + 2 * i))
def FITl (v : Int → Int) (l : Int) : Prop := FITw v (v (4 * l + 1)) (v (4 * l + 2)) (v (4 * l + 3)) (v (4 * l + 4))
noncomputable def fitN (nl : Int) (v : Int → Int) : Int := (fb_ct (fun l => dB (FITl v (l : Int))) nl.toNat : Int)
noncomputable def thrN (nl : Int) (v : Int → Int) (a r : Int) : Int := (fb_ct (fun l => dB (PTl v (l : Int) a r)) nl.toNat : Int)
def CBf (v : Int → Int) (k l : Int) : Prop := if tn (v 0) (v (4 * k + 1)) = tn (v 0) (v (4 * l + 1)) then (if lb (v 0) (v (4 * k + 1)) = lb (v 0) (v (4 * l + 1)) then k < l else lb (v 0) (v (4 * l + 1)) < lb (v 0) (v (4 * k + 1))) else tn (v 0) (v (4 * k + 1)) < tn (v 0) (v (4 * l + 1))
noncomputable def cutN (nl : Int) (v : Int → Int) (l : Int) : Int := (fb_ct (fun k => dB ((k : Int) ≠ l ∧ CBf v (k : Int) l)) nl.toNat : Int)
def lsr (v : Int → Int) (l : Int) : Int := mnf (rad (v (4 * l + 1)) (v (4 * l + 2)) (v (4 * l + 3))) (v (4 * l + 1) - 1).toNat
def grr (v : Int → Int) (l : Int) : Int := mxf (rad (v (4 * l + 1)) (v (4 * l + 2)) (v (4 * l + 3))) (v (4 * l + 1) - 1).toNat
def lsA (v : Int → Int) : Nat → Int
  | 0 => -9
  | k + 1 => if lsA v k = -9 ∨ lsr v (k : Int) < lsA v k then lsr v (k : Int) else lsA v k
def grA (v : Int → Int) : Nat → Int
  | 0 => -9
  | k + 1 => if grA v k < grr v (k : Int) then grr v (k : Int) else grA v k
theorem ct_in {P : Int → Prop} {k num : Int} (hk : 0 ≤ k) (hn : num = (fb_ct (fun j => dB (P (j : Int))) k.toNat : Int)) (h : P k) : num + 1 = (fb_ct (fun j => dB (P (j : Int))) (k + 1).toNat : Int) := by
  have h1 : (k + 1).toNat = k.toNat + 1 := by omega
  have h2 : ((k.toNat : Nat) : Int) = k := Int.toNat_of_nonneg hk
  rw [h1, fb_ct_succ, h2, dB_iff.mpr h, hn]
  simp
theorem ct_out {P : Int → Prop} {k num : Int} (hk : 0 ≤ k) (hn : num = (fb_ct (fun j => dB (P (j : Int))) k.toNat : Int)) (h : ¬ P k) : num = (fb_ct (fun j => dB (P (j : Int))) (k + 1).toNat : Int) := by
  have h1 : (k + 1).toNat = k.toNat + 1 := by omega
  have h2 : ((k.toNat : Nat) : Int) = k := Int.toNat_of_nonneg hk
  have h3 : dB (P k) = false := by
    cases hd : dB (P k) with
    | false => rfl
    | true => exact absurd (dB_iff.mp hd) h
  rw [h1, fb_ct_succ, h2, h3, hn]
  simp
theorem lsA_step (v : Int → Int) {k : Int} (hk : 0 ≤ k) : lsA v (k + 1).toNat = if lsA v k.toNat = -9 ∨ lsr v k < lsA v k.toNat then lsr v k else lsA v k.toNat := by
  have h1 : (k + 1).toNat = k.toNat + 1 := by omega
  have h2 : ((k.toNat : Nat) : Int) = k := Int.toNat_of_nonneg hk
  rw [h1]
  show (if lsA v k.toNat = -9 ∨ lsr v ((k.toNat : Nat) : Int) < lsA v k.toNat then lsr v ((k.toNat : Nat) : Int) else lsA v k.toNat) = _
  rw [h2]
theorem grA_step (v : Int → Int) {k : Int} (hk : 0 ≤ k) : grA v (k + 1).toNat = if grA v k.toNat < grr v k then grr v k else grA v k.toNat := by
  have h1 : (k + 1).toNat = k.toNat + 1 := by omega
  have h2 : ((k.toNat : Nat) : Int) = k := Int.toNat_of_nonneg hk
  rw [h1]
  show (if grA v k.toNat < grr v ((k.toNat : Nat) : Int) then grr v ((k.toNat : Nat) : Int) else grA v k.toNat) = _
  rw [h2]
/-- a rosette has the point, by the first step at it -/
theorem isFirst.pt {ring w sd ho st0 a r z : Int} (h : isFirst (fun t => (st0 + t) % ring = a ∧ rad w sd ho (t % w) = r) (pd ring w) z) : (z = -9 ↔ ¬ PT ring w sd ho st0 a r) ∧ (z = -9 ∨ 0 ≤ z) := by
  refine ⟨h.none.trans ⟨fun q ⟨t, t0, t1, e⟩ => q t t0 t1 e, fun q t t0 t1 e => q ⟨t, t0, t1, e⟩⟩, ?_⟩
  rcases h.rg with q | q
  · exact Or.inl q
  · exact Or.inr q.1
theorem pd_range {ring w : Int} (hr : 12 ≤ ring ∧ ring ≤ 96) (h5 : 5 ≤ w) (h6 : w ≤ 60) : 1 ≤ pd ring w ∧ pd ring w ≤ 5760 := by
  have h1 := tn_range (ring := ring) (w := w) (by omega) (by omega)
  have h2 := mul_r (a := ring) (b := tn ring w) (x := 96) (y := 60) (by omega) (by omega) (by omega) (by omega)
  have h3 : 1 * tn ring w ≤ ring * tn ring w := Int.mul_le_mul_of_nonneg_right (by omega) (by omega)
  unfold pd
  omega
