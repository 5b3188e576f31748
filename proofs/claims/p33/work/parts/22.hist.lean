/-! HISTORY: fourteen plates in a row that begins again behind its end -/
def isHi (κ : gKap) (ad : Nat → Nat) (g : Nat → va_E) (ho : Nat) (old cnt : Int) (P9 : Nat → Int × (Int → Int)) : Prop :=
  g ho = .inr (2, [.ref (ad (ho + 1)), .int (iz old), .int (iz cnt)]) ∧ g (ho + 1) = aPl κ 14 (fun j => if j < 14 then some (ad (ho + 2 + 10 * j)) else none) ∧ ∀ j : Nat, j < 14 → isPl κ ad g (ho + 2 + 10 * j) (P9 j).1 (P9 j).2
/-- what is remembered: cnt states, the oldest first -/
def hiA (κ : gKap) (ad : Nat → Nat) (g : Nat → va_E) (ho : Nat) (cnt : Int) (Hs : Int → Int × (Int → Int)) : Prop :=
  ∃ (old : Int) (P9 : Nat → Int × (Int → Int)), (0 ≤ old ∧ old < 14) ∧ (0 ≤ cnt ∧ cnt ≤ 14) ∧ isHi κ ad g ho old cnt P9 ∧ (∀ j : Nat, j < 14 → inV (P9 j).2) ∧
    ∀ k : Int, 0 ≤ k → k < cnt → (P9 ((old + k) % 14).toNat).1 = (Hs k).1 ∧ sim (Hs k).1 (P9 ((old + k) % 14).toNat).2 (Hs k).2 ∧ okPl (Hs k).1 (Hs k).2
theorem isHi.far {κ : gKap} {ad : Nat → Nat} {g g' : Nat → va_E} {ho : Nat} {old cnt : Int} {P9 : Nat → Int × (Int → Int)} (h : isHi κ ad g ho old cnt P9) (hq : ∀ q, ho ≤ q → q < ho + 142 → g' q = g q) : isHi κ ad g' ho old cnt P9 :=
  ⟨(hq _ (by omega) (by omega)).trans h.1, (hq _ (by omega) (by omega)).trans h.2.1, fun j hj => (h.2.2 j hj).far (fun q q0 q1 => hq q (by omega) (by omega))⟩
theorem hiA.far {κ : gKap} {ad : Nat → Nat} {g g' : Nat → va_E} {ho : Nat} {cnt : Int} {Hs : Int → Int × (Int → Int)} (h : hiA κ ad g ho cnt Hs) (hq : ∀ q, ho ≤ q → q < ho + 142 → g' q = g q) : hiA κ ad g' ho cnt Hs := by
  obtain ⟨old, P9, h1, h2, h3, h4, h5⟩ := h
  exact ⟨old, P9, h1, h2, h3.far hq, h4, h5⟩
/-- one more remembered -/
def remH (cnt : Int) (Hs : Int → Int × (Int → Int)) (x : Int × (Int → Int)) : Int → Int × (Int → Int) := fun k => if cnt < 14 then (if k = cnt then x else Hs k) else (if k = 13 then x else Hs (k + 1))
def remC (cnt : Int) : Int := if cnt < 14 then cnt + 1 else 14
theorem hiA_rem {κ : gKap} {ad : Nat → Nat} {g' : Nat → va_E} {ho : Nat} {old cnt nl : Int} {P9 : Nat → Int × (Int → Int)} {Hs : Int → Int × (Int → Int)} {U9 f9 : Int → Int}
    (h1 : 0 ≤ old ∧ old < 14) (h2 : 0 ≤ cnt ∧ cnt ≤ 14) (h4 : ∀ j : Nat, j < 14 → inV (P9 j).2) (h5 : ∀ k : Int, 0 ≤ k → k < cnt → (P9 ((old + k) % 14).toNat).1 = (Hs k).1 ∧ sim (Hs k).1 (P9 ((old + k) % 14).toNat).2 (Hs k).2 ∧ okPl (Hs k).1 (Hs k).2)
    (hU : sim nl U9 f9) (hV : inV U9) (hok : okPl nl f9)
    (h3 : isHi κ ad g' ho (if cnt < 14 then old else (old + 1) % 14) (remC cnt) (fun j => if j = ((old + cnt) % 14).toNat then (nl, U9) else P9 j)) : hiA κ ad g' ho (remC cnt) (remH cnt Hs (nl, f9)) := by
  unfold remC at h3 ⊢
  by_cases hc : cnt < 14
  · rw [if_pos hc, if_pos hc] at h3
    rw [if_pos hc]
    refine ⟨old, _, h1, by omega, h3, fun j hj => ?_, fun k k0 k1 => ?_⟩
    · show inV (if j = ((old + cnt) % 14).toNat then (nl, U9) else P9 j).2
      split
      · exact hV
      · exact h4 j hj
    · unfold remH
      rw [if_pos hc]
      by_cases hk : k = cnt
      · rw [if_pos hk, if_pos (by rw [hk])]
        exact ⟨rfl, hU, hok⟩
      · rw [if_neg hk, if_neg (by omega)]
        exact h5 k k0 (by omega)
  · rw [if_neg hc, if_neg hc] at h3
    rw [if_neg hc]
    refine ⟨(old + 1) % 14, _, by omega, by omega, h3, fun j hj => ?_, fun k k0 k1 => ?_⟩
    · show inV (if j = ((old + cnt) % 14).toNat then (nl, U9) else P9 j).2
      split
      · exact hV
      · exact h4 j hj
    · unfold remH
      rw [if_neg hc]
      by_cases hk : k = 13
      · rw [if_pos hk, if_pos (by omega)]
        exact ⟨rfl, hU, hok⟩
      · rw [if_neg hk, if_neg (by omega), show ((old + 1) % 14 + k) % 14 = (old + (k + 1)) % 14 by omega]
        exact h5 (k + 1) (by omega) (by omega)
theorem hiA_back {κ : gKap} {ad : Nat → Nat} {g' : Nat → va_E} {ho : Nat} {old cnt : Int} {P9 : Nat → Int × (Int → Int)} {Hs : Int → Int × (Int → Int)}
    (h1 : 0 ≤ old ∧ old < 14) (h2 : 1 ≤ cnt ∧ cnt ≤ 14) (h4 : ∀ j : Nat, j < 14 → inV (P9 j).2) (h5 : ∀ k : Int, 0 ≤ k → k < cnt → (P9 ((old + k) % 14).toNat).1 = (Hs k).1 ∧ sim (Hs k).1 (P9 ((old + k) % 14).toNat).2 (Hs k).2 ∧ okPl (Hs k).1 (Hs k).2)
    (h3 : isHi κ ad g' ho old (cnt - 1) P9) : hiA κ ad g' ho (cnt - 1) Hs := ⟨old, P9, h1, by omega, h3, h4, fun k k0 k1 => h5 k k0 (by omega)⟩
