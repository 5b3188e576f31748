/-! TURNING a rosette -/
theorem bez (m k : Nat) : ∃ x y : Int, x * (m : Int) + y * (k : Int) = ((Nat.gcd m k : Nat) : Int) := by
  induction m, k using Nat.gcd.induction with
  | H0 k => exact ⟨0, 1, by rw [Nat.gcd_zero_left]; omega⟩
  | H1 m k hm ih =>
    obtain ⟨x, y, h⟩ := ih
    rw [Nat.gcd_rec m k, ← h]
    refine ⟨y - x * ((k : Int) / (m : Int)), x, ?_⟩
    have h1 : ((k % m : Nat) : Int) = (k : Int) - (m : Int) * ((k : Int) / (m : Int)) := by
      rw [Int.natCast_emod, Int.emod_def]
    rw [h1, Int.sub_mul, Int.mul_sub]
    have h2 : x * ((k : Int) / (m : Int)) * (m : Int) = x * ((m : Int) * ((k : Int) / (m : Int))) := by
      rw [Int.mul_assoc, Int.mul_comm ((k : Int) / (m : Int))]
    omega
theorem PT_mod {ring w sd ho s9 a r : Int} : PT ring w sd ho (s9 % ring) a r ↔ PT ring w sd ho s9 a r := by
  unfold PT
  simp only [Int.emod_add_emod]
theorem PT_add1 {ring w sd ho s9 a r k : Int} (hr : 0 < ring) (hw : 0 < w) (h : PT ring w sd ho (s9 + k * w) a r) : PT ring w sd ho s9 a r := by
  obtain ⟨t, t0, t1, e1, e2⟩ := h
  have hp : 0 < pd ring w := by omega
  have d1 : ring ∣ pd ring w := ⟨tn ring w, rfl⟩
  have d2 : w ∣ pd ring w := ⟨lb ring w, by rw [pd_lb hr hw, Int.mul_comm]⟩
  refine ⟨(t + k * w) % pd ring w, Int.emod_nonneg _ (by omega), Int.emod_lt_of_pos _ hp, ?_, ?_⟩
  · rw [← Int.add_emod_emod, Int.emod_emod_of_dvd _ d1, Int.add_emod_emod, ← e1]
    congr 1
    omega
  · rw [Int.emod_emod_of_dvd _ d2, Int.add_mul_emod_self_right]
    exact e2
theorem PT_add {ring w sd ho s9 a r : Int} (k : Int) (hr : 0 < ring) (hw : 0 < w) : PT ring w sd ho (s9 + k * w) a r ↔ PT ring w sd ho s9 a r := by
  constructor
  · exact PT_add1 hr hw
  · intro h
    refine PT_add1 (k := -k) hr hw ?_
    rw [show s9 + k * w + -k * w = s9 by rw [Int.neg_mul]; omega]
    exact h
theorem PT_gd {ring w sd ho s9 a r : Int} (hr : 0 < ring) (hw : 0 < w) : PT ring w sd ho (s9 + gd ring w) a r ↔ PT ring w sd ho s9 a r := by
  obtain ⟨m, rfl⟩ := Int.eq_ofNat_of_zero_le (Int.le_of_lt hr)
  obtain ⟨k, rfl⟩ := Int.eq_ofNat_of_zero_le (Int.le_of_lt hw)
  obtain ⟨x, y, h⟩ := bez m k
  have h2 : gd (m : Int) (k : Int) = x * (m : Int) + y * (k : Int) := h.symm
  rw [h2, ← PT_mod, show s9 + (x * (m : Int) + y * (k : Int)) = s9 + y * (k : Int) + x * (m : Int) by omega, Int.add_mul_emod_self_right, PT_mod, PT_add y hr hw]
theorem PT_gdk {ring w sd ho s9 a r : Int} (hr : 0 < ring) (hw : 0 < w) : ∀ k : Nat, PT ring w sd ho (s9 + (k : Int) * gd ring w) a r ↔ PT ring w sd ho s9 a r
  | 0 => by rw [show s9 + ((0 : Nat) : Int) * gd ring w = s9 by simp]
  | k + 1 => by
    rw [show s9 + ((k + 1 : Nat) : Int) * gd ring w = s9 + (k : Int) * gd ring w + gd ring w by rw [show ((k + 1 : Nat) : Int) = (k : Int) + 1 by omega, Int.add_mul]; omega, PT_gd hr hw]
    exact PT_gdk hr hw k
theorem PT_gdm {ring w sd ho s9 d a r : Int} (hr : 0 < ring) (hw : 0 < w) (hd : 0 ≤ d) : PT ring w sd ho (s9 + d) a r ↔ PT ring w sd ho (s9 + d % gd ring w) a r := by
  have hg := gd_pos (b := w) hr
  have h1 := Int.mul_ediv_add_emod d (gd ring w)
  obtain ⟨k, hk⟩ := Int.eq_ofNat_of_zero_le (Int.ediv_nonneg hd (Int.le_of_lt hg))
  rw [show s9 + d = s9 + d % gd ring w + (k : Int) * gd ring w by rw [← hk, Int.mul_comm (d / gd ring w)]; omega]
  exact PT_gdk hr hw k
/-- the first of a row that comes again behind g is the first of a longer row -/
theorem isFirst.ext {P : Int → Prop} {g9 N z : Int} (hg : 0 < g9) (hN : g9 ≤ N) (hP : ∀ d, 0 ≤ d → (P d ↔ P (d % g9))) (h : isFirst P g9 z) : isFirst P N z := by
  rcases h with ⟨a0, a1, a2, a3⟩ | ⟨a0, a1⟩
  · exact Or.inl ⟨a0, by omega, a2, a3⟩
  · refine Or.inr ⟨a0, fun t t0 t1 q => ?_⟩
    exact a1 (t % g9) (Int.emod_nonneg _ (by omega)) (Int.emod_lt_of_pos _ hg) ((hP t t0).mp q)
/-- the best of the first k, and how good it is -/
def bsf (F : Int → Int) : Nat → Int × Int
  | 0 => (0, -9)
  | k + 1 => if (bsf F k).2 < F (k : Int) then ((k : Int), F (k : Int)) else bsf F k
theorem bsf_step (F : Int → Int) {k : Int} (hk : 0 ≤ k) : bsf F (k + 1).toNat = if (bsf F k.toNat).2 < F k then (k, F k) else bsf F k.toNat := by
  have h1 : (k + 1).toNat = k.toNat + 1 := by omega
  have h2 : ((k.toNat : Nat) : Int) = k := Int.toNat_of_nonneg hk
  rw [h1]
  show (if (bsf F k.toNat).2 < F ((k.toNat : Nat) : Int) then (((k.toNat : Nat) : Int), F ((k.toNat : Nat) : Int)) else bsf F k.toNat) = _
  rw [h2]
theorem bsf_ge (F : Int → Int) : ∀ (k j : Nat), j < k → F (j : Int) ≤ (bsf F k).2
  | 0, j, h => absurd h (Nat.not_lt_zero j)
  | k + 1, j, h => by
    have ih := bsf_ge F k
    show F (j : Int) ≤ (if (bsf F k).2 < F (k : Int) then ((k : Int), F (k : Int)) else bsf F k).2
    by_cases hjk : j = k
    · subst hjk
      split
      · exact Int.le_refl _
      · omega
    · have := ih j (by omega)
      split
      · show F (j : Int) ≤ F (k : Int)
        omega
      · exact this
theorem bsf_ext {F : Int → Int} {g9 : Nat} (hg : 0 < g9) (hF : ∀ s9 : Nat, F (s9 : Int) = F ((s9 % g9 : Nat) : Int)) : ∀ j : Nat, bsf F (g9 + j) = bsf F g9
  | 0 => rfl
  | j + 1 => by
    have ih := bsf_ext hg hF j
    show (if (bsf F (g9 + j)).2 < F ((g9 + j : Nat) : Int) then (((g9 + j : Nat) : Int), F ((g9 + j : Nat) : Int)) else bsf F (g9 + j)) = _
    rw [ih]
    have h1 := bsf_ge F g9 ((g9 + j) % g9) (Nat.mod_lt _ hg)
    rw [← hF (g9 + j)] at h1
    rw [if_neg (by omega)]
theorem bsf_congr {F F' : Int → Int} : ∀ k : Nat, (∀ j : Nat, j < k → F (j : Int) = F' (j : Int)) → bsf F k = bsf F' k
  | 0, _ => rfl
  | k + 1, h => by
    show (if (bsf F k).2 < F (k : Int) then ((k : Int), F (k : Int)) else bsf F k) = (if (bsf F' k).2 < F' (k : Int) then ((k : Int), F' (k : Int)) else bsf F' k)
    rw [bsf_congr k (fun j hj => h j (by omega)), h k (by omega)]
theorem cntS_congr {S S' : Int → Int → Prop} (h : ∀ a r, 0 ≤ a → a < 128 → 0 ≤ r → r ≤ 300 → (S a r ↔ S' a r)) : cntS S = cntS S' :=
  fb_sm_cong fun j hj => fb_ct_cong fun b hb => dB_congr (h _ _ (by omega) (by omega) (by omega) (by omega))
theorem cntS_le (S : Int → Int → Prop) : cntS S ≤ 38528 := by
  have := fb_sm_bound (f := fun j => fb_ct (fun b => dB (S (64 * ((j : Int) % 2) + b) ((j : Int) / 2))) 64) (c := 64) (n := 602) (fun k _ => fb_ct_le _ _)
  exact this
/-- the same rosette -/
def SameR (ring w sd ho st0 w2 sd2 ho2 st2 : Int) : Prop := ∀ a r, 0 ≤ a → a < 128 → 0 ≤ r → r ≤ 300 → (PT ring w sd ho st0 a r ↔ PT ring w2 sd2 ho2 st2 a r)
theorem same_per {ring w sd ho st0 w2 sd2 ho2 st2 d : Int} (hr : 0 < ring) (hw : 0 < w) (hd : 0 ≤ d) : SameR ring w sd ho ((st0 + d) % ring) w2 sd2 ho2 st2 ↔ SameR ring w sd ho ((st0 + d % gd ring w) % ring) w2 sd2 ho2 st2 := by
  unfold SameR
  constructor
  · intro h a r a0 a1 r0 r1
    rw [← h a r a0 a1 r0 r1, PT_mod, PT_mod, PT_gdm hr hw hd]
  · intro h a r a0 a1 r0 r1
    rw [← h a r a0 a1 r0 r1, PT_mod, PT_mod, PT_gdm hr hw hd]
noncomputable def cmF (ring w sd ho w2 sd2 ho2 st2 : Int) (st : Int) : Int := (cntS (fun a r => PT ring w sd ho st a r ∧ PT ring w2 sd2 ho2 st2 a r) : Int)
theorem cmF_per {ring w sd ho w2 sd2 ho2 st2 : Int} (hr : 0 < ring) (hw : 0 < w) (s9 : Nat) : cmF ring w sd ho w2 sd2 ho2 st2 (s9 : Int) = cmF ring w sd ho w2 sd2 ho2 st2 ((s9 % (gd ring w).toNat : Nat) : Int) := by
  unfold cmF
  refine congrArg (fun x : Nat => (x : Int)) (cntS_congr fun a r _ _ _ _ => ?_)
  have h := PT_gdm (ring := ring) (w := w) (sd := sd) (ho := ho) (s9 := 0) (d := (s9 : Int)) (a := a) (r := r) hr hw (by omega)
  have hg := gd_pos (b := w) hr
  rw [Int.zero_add, Int.zero_add] at h
  rw [h, Int.natCast_emod, Int.toNat_of_nonneg (Int.le_of_lt hg)]
theorem best_ext {ring w sd ho w2 sd2 ho2 st2 : Int} (hr : 0 < ring) (hw : 0 < w) : bsf (cmF ring w sd ho w2 sd2 ho2 st2) (gd ring w).toNat = bsf (cmF ring w sd ho w2 sd2 ho2 st2) ring.toNat := by
  have hg := gd_pos (b := w) hr
  have hle := gd_le (b := w) hr
  have h := bsf_ext (F := cmF ring w sd ho w2 sd2 ho2 st2) (g9 := (gd ring w).toNat) (by omega) (cmF_per hr hw) (ring.toNat - (gd ring w).toNat)
  rw [show (gd ring w).toNat + (ring.toNat - (gd ring w).toNat) = ring.toNat by omega] at h
  exact h.symm
/-! the bench: two sets of points and a layer, of which nothing is asked but that they are there -/
def isBn (κ : gKap) (ad : Nat → Nat) (g : Nat → va_E) (bo : Nat) : Prop := g bo = .inr (0, [.ref (ad (bo + 1)), .ref (ad (bo + 3)), .ref (ad (bo + 5))]) ∧ g (bo + 1) = .inr (5, [.ref (ad (bo + 1 + 1))]) ∧ g (bo + 3) = .inr (5, [.ref (ad (bo + 3 + 1))]) ∧ (∃ W9, g (bo + 1 + 1) = aW κ 602 W9) ∧ (∃ W9, g (bo + 3 + 1) = aW κ 602 W9) ∧ ∃ a b c9 d, g (bo + 5) = oL a b c9 d
def frB (g g' : Nat → va_E) (bo : Nat) : Prop := ∀ q : Nat, q < bo ∨ bo + 6 ≤ q → g' q = g q
theorem frB.rf {g : Nat → va_E} {bo : Nat} : frB g g bo := fun _ _ => rfl
theorem frB.up {g g' : Nat → va_E} {bo k : Nat} {x : va_E} (h : frB g g' bo) (hk : bo ≤ k) (hk2 : k < bo + 6) : frB g (va_up g' k x) bo := fun q hq => (gu_ne (by omega)).trans (h q hq)
theorem isBn.far {κ : gKap} {ad : Nat → Nat} {g g' : Nat → va_E} {bo : Nat} (h : isBn κ ad g bo) (hq : ∀ q, bo ≤ q → q < bo + 6 → g' q = g q) : isBn κ ad g' bo := by
  obtain ⟨h0, h1, h2, ⟨W1, h3⟩, ⟨W2, h4⟩, a, b, c9, d, h5⟩ := h
  exact ⟨(hq _ (by omega) (by omega)).trans h0, (hq _ (by omega) (by omega)).trans h1, (hq _ (by omega) (by omega)).trans h2, ⟨W1, (hq _ (by omega) (by omega)).trans h3⟩, ⟨W2, (hq _ (by omega) (by omega)).trans h4⟩, a, b, c9, d, (hq _ (by omega) (by omega)).trans h5⟩
theorem ca_step {v : Int → Int} {k a r : Int} (hk : 0 ≤ k) : ((∃ l9, 0 ≤ l9 ∧ l9 < k ∧ PTl v l9 a r) ∨ PT (v 0) (v (4 * k + 1)) (v (4 * k + 2)) (v (4 * k + 3)) (v (4 * k + 4)) a r) ↔ ∃ l9, 0 ≤ l9 ∧ l9 < k + 1 ∧ PTl v l9 a r := by
  constructor
  · rintro (⟨l9, q0, q1, q2⟩ | q)
    · exact ⟨l9, q0, by omega, q2⟩
    · exact ⟨k, hk, by omega, q⟩
  · rintro ⟨l9, q0, q1, q2⟩
    by_cases hl : l9 = k
    · subst hl
      exact Or.inr q2
    · exact Or.inl ⟨l9, q0, by omega, q2⟩
