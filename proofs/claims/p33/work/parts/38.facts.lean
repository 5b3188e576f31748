/-! PURE FACTS that the law asks for -/
def anF (f : Int → Int) (l t : Int) : Int := (f (4 * l + 4) + t) % f 0
def raF (f : Int → Int) (l t : Int) : Int := rad (f (4 * l + 1)) (f (4 * l + 2)) (f (4 * l + 3)) (t % f (4 * l + 1))
theorem mnf_le (h : Int → Int) : ∀ (k j : Nat), j ≤ k → mnf h k ≤ h (j : Int)
  | 0, j, hj => by
    rw [show j = 0 by omega]
    exact Int.le_refl _
  | k + 1, j, hj => by
    show min (mnf h k) (h ((k : Int) + 1)) ≤ h (j : Int)
    by_cases q : j = k + 1
    · rw [show ((j : Nat) : Int) = (k : Int) + 1 by omega]
      exact Int.min_le_right _ _
    · have := mnf_le h k j (by omega)
      omega
theorem mnf_ge (h : Int → Int) (c : Int) : ∀ k : Nat, (∀ j : Nat, j ≤ k → c ≤ h (j : Int)) → c ≤ mnf h k
  | 0, hh => hh 0 (Nat.le_refl _)
  | k + 1, hh => by
    have h1 := mnf_ge h c k (fun j hj => hh j (by omega))
    have h2 := hh (k + 1) (Nat.le_refl _)
    rw [show (((k + 1 : Nat)) : Int) = (k : Int) + 1 by omega] at h2
    show c ≤ min (mnf h k) (h ((k : Int) + 1))
    omega
theorem mxf_ge (h : Int → Int) : ∀ (k j : Nat), j ≤ k → h (j : Int) ≤ mxf h k
  | 0, j, hj => by
    rw [show j = 0 by omega]
    exact Int.le_refl _
  | k + 1, j, hj => by
    show h (j : Int) ≤ max (mxf h k) (h ((k : Int) + 1))
    by_cases q : j = k + 1
    · rw [show ((j : Nat) : Int) = (k : Int) + 1 by omega]
      exact Int.le_max_right _ _
    · have := mxf_ge h k j (by omega)
      omega
theorem mxf_le (h : Int → Int) (c : Int) : ∀ k : Nat, (∀ j : Nat, j ≤ k → h (j : Int) ≤ c) → mxf h k ≤ c
  | 0, hh => hh 0 (Nat.le_refl _)
  | k + 1, hh => by
    have h1 := mxf_le h c k (fun j hj => hh j (by omega))
    have h2 := hh (k + 1) (Nat.le_refl _)
    rw [show (((k + 1 : Nat)) : Int) = (k : Int) + 1 by omega] at h2
    show max (mxf h k) (h ((k : Int) + 1)) ≤ c
    omega
theorem gd_co {ring w : Int} (hr : 0 < ring) (hw : 0 < w) : gd (tn ring w) (lb ring w) = 1 := by
  have hg := gd_pos (b := w) hr
  obtain ⟨t1, t2, e1⟩ := dv_pos hw hg (gd_dvd_right ring w)
  obtain ⟨l1, l2, e2⟩ := dv_pos hr hg (gd_dvd_left ring w)
  obtain ⟨x, y, hxy⟩ := bez ring.toNat w.toNat
  have h1 : ((Nat.gcd ring.toNat w.toNat : Nat) : Int) = gd ring w := by
    show ((Nat.gcd ring.toNat w.toNat : Nat) : Int) = ((Nat.gcd ring.natAbs w.natAbs : Nat) : Int)
    rw [show ring.toNat = ring.natAbs by omega, show w.toNat = w.natAbs by omega]
  rw [Int.toNat_of_nonneg (Int.le_of_lt hr), Int.toNat_of_nonneg (Int.le_of_lt hw), h1] at hxy
  have e3 : lb ring w * gd ring w = ring := e2
  have e4 : tn ring w * gd ring w = w := e1
  have h2 : (x * lb ring w + y * tn ring w) * gd ring w = 1 * gd ring w := by
    rw [Int.add_mul, Int.mul_assoc, Int.mul_assoc, e3, e4, Int.one_mul]
    exact hxy
  have h3 : x * lb ring w + y * tn ring w = 1 := Int.eq_of_mul_eq_mul_right (by omega) h2
  have d1 : gd (tn ring w) (lb ring w) ∣ 1 := by
    rw [← h3]
    exact Int.dvd_add (Int.dvd_trans (gd_dvd_right _ _) (Int.dvd_mul_left _ _)) (Int.dvd_trans (gd_dvd_left _ _) (Int.dvd_mul_left _ _))
  have h4 := gd_pos (a := tn ring w) (b := lb ring w) t1
  have h5 := Int.le_of_dvd (by decide) d1
  omega
/-! counting -/
theorem cntS_add {S : Int → Int → Prop} {a0 r0 : Int} (ha : 0 ≤ a0 ∧ a0 < 128) (hr : 0 ≤ r0 ∧ r0 ≤ 300) (hn : ¬ S a0 r0) : cntS (fun a r => S a r ∨ (a = a0 ∧ r = r0)) = cntS S + 1 := by
  obtain ⟨i, hi⟩ : ∃ i : Nat, i = (2 * r0 + a0 / 64).toNat := ⟨_, rfl⟩
  obtain ⟨b0, hb⟩ : ∃ b0 : Nat, b0 = (a0 % 64).toNat := ⟨_, rfl⟩
  have hi6 : i < 602 := by omega
  have hb6 : b0 < 64 := by omega
  have q1 : 64 * ((i : Int) % 2) + (b0 : Int) = a0 := by omega
  have q2 : (i : Int) / 2 = r0 := by omega
  have e1 : cntS (fun a r => S a r ∨ (a = a0 ∧ r = r0)) = fb_sm (fun j => if j = i then fb_ct (fun k => if k = b0 then true else dB (S (64 * ((i : Int) % 2) + k) ((i : Int) / 2))) 64 else fb_ct (fun b => dB (S (64 * ((j : Int) % 2) + b) ((j : Int) / 2))) 64) 602 := by
    refine fb_sm_cong fun j hj => ?_
    by_cases h : j = i
    · rw [if_pos h]
      subst h
      refine fb_ct_cong fun b hb9 => ?_
      by_cases hk : b = b0
      · rw [if_pos hk]
        subst hk
        exact dB_iff.mpr (Or.inr ⟨q1, q2⟩)
      · rw [if_neg hk]
        exact dB_congr ⟨fun q => q.elim id (fun q => absurd (show b = b0 by omega) hk), Or.inl⟩
    · rw [if_neg h]
      exact fb_ct_cong fun b hb9 => dB_congr ⟨fun q => q.elim id (fun q => absurd (show j = i by omega) h), Or.inl⟩
  have e2 := fb_sm_upd (fun j : Nat => fb_ct (fun b => dB (S (64 * ((j : Int) % 2) + b) ((j : Int) / 2))) 64) (fb_ct (fun k => if k = b0 then true else dB (S (64 * ((i : Int) % 2) + k) ((i : Int) / 2))) 64) hi6
  have e3 := fb_ct_upd (fun k : Nat => dB (S (64 * ((i : Int) % 2) + k) ((i : Int) / 2))) true hb6
  have e4 : dB (S (64 * ((i : Int) % 2) + (b0 : Int)) ((i : Int) / 2)) = false := by
    rw [q1, q2]
    cases h : dB (S a0 r0) with
    | false => rfl
    | true => exact absurd (dB_iff.mp h) hn
  have e5 : cntS S = fb_sm (fun j : Nat => fb_ct (fun b => dB (S (64 * ((j : Int) % 2) + b) ((j : Int) / 2))) 64) 602 := rfl
  rw [e1, e5]
  simp only [e4, if_true, Bool.false_eq_true, if_false, Nat.add_zero] at e3
  omega
theorem cntS_none {S : Int → Int → Prop} (h : ∀ a r, 0 ≤ a → a < 128 → 0 ≤ r → r ≤ 300 → ¬ S a r) : cntS S = 0 := by
  have e1 : cntS S = fb_sm (fun _ => 0) 602 := by
    refine fb_sm_cong fun j hj => fb_ct_zero.mpr fun k hk => ?_
    cases h9 : dB (S (64 * ((j : Int) % 2) + k) ((j : Int) / 2)) with
    | false => rfl
    | true => exact absurd (dB_iff.mp h9) (h _ _ (by omega) (by omega) (by omega) (by omega))
  rw [e1, fb_sm_const]
theorem fb_ct_cov {p q r : Nat → Bool} : ∀ {n : Nat}, (∀ k, k < n → r k = true → p k = true ∨ q k = true) → fb_ct r n ≤ fb_ct p n + fb_ct q n
  | 0, _ => Nat.zero_le _
  | n + 1, h => by
    have ih := fb_ct_cov (p := p) (q := q) (r := r) (n := n) (fun k hk => h k (by omega))
    have a : (if r n then 1 else 0) ≤ (if p n then 1 else 0) + (if q n then 1 else 0) := by
      by_cases hr : r n = true
      · rcases h n (by omega) hr with hp | hq
        · rw [if_pos hr, if_pos hp]; omega
        · rw [if_pos hr, if_pos hq]; omega
      · rw [if_neg hr]; omega
    rw [fb_ct_succ, fb_ct_succ, fb_ct_succ]
    omega
theorem cntS_mono {S S' : Int → Int → Prop} (h : ∀ a r, 0 ≤ a → a < 128 → 0 ≤ r → r ≤ 300 → S a r → S' a r) : cntS S ≤ cntS S' := by
  unfold cntS
  exact fb_sm_le (fun j hj => fb_ct_sub (fun b hb q => dB_iff.mpr (h _ _ (by omega) (by omega) (by omega) (by omega) (dB_iff.mp q))))
theorem cntS_or (S S' : Int → Int → Prop) : cntS (fun a r => S a r ∨ S' a r) ≤ cntS S + cntS S' := by
  unfold cntS
  rw [← fb_sm_add]
  exact fb_sm_le (fun j hj => fb_ct_cov (fun b hb q => (dB_iff.mp q).elim (fun q => Or.inl (dB_iff.mpr q)) (fun q => Or.inr (dB_iff.mpr q))))
theorem cntR_pos {S : Int → Int → Prop} {a r : Int} (ha : 0 ≤ a ∧ a < 128) (h : S a r) : 0 < cntR S r := by
  unfold cntR
  exact fb_ct_pos.mpr ⟨a.toNat, by omega, dB_iff.mpr (by rw [Int.toNat_of_nonneg ha.1]; exact h)⟩
theorem cntR_ex {S : Int → Int → Prop} {r : Int} (h : 0 < cntR S r) : ∃ a, (0 ≤ a ∧ a < 128) ∧ S a r := by
  unfold cntR at h
  obtain ⟨k, hk, hq⟩ := fb_ct_pos.mp h
  exact ⟨(k : Int), by omega, dB_iff.mp hq⟩
theorem PT_cnt {ring w sd ho st0 : Int} (hr : 12 ≤ ring ∧ ring ≤ 96) (hok : okL w sd ho) : ∀ k : Nat, cntS (fun a r => ∃ t, 0 ≤ t ∧ t < (k : Int) ∧ (st0 + t) % ring = a ∧ rad w sd ho (t % w) = r) ≤ k
  | 0 => by
    exact Nat.le_of_eq (cntS_none (fun a r _ _ _ _ h => by obtain ⟨t, h0, h1, _⟩ := h; omega))
  | k + 1 => by
    have ih := PT_cnt (st0 := st0) hr hok k
    obtain ⟨a0, ha0⟩ : ∃ a0, a0 = (st0 + (k : Int)) % ring := ⟨_, rfl⟩
    obtain ⟨r0, hr0⟩ : ∃ r0, r0 = rad w sd ho ((k : Int) % w) := ⟨_, rfl⟩
    have w5 := hok.1
    have ra : 0 ≤ a0 ∧ a0 < ring := by
      rw [ha0]
      exact ⟨Int.emod_nonneg _ (by omega), Int.emod_lt_of_pos _ (by omega)⟩
    have rr : 120 ≤ r0 ∧ r0 ≤ 280 := by
      rw [hr0]
      exact rad_range hok (Int.emod_nonneg _ (by omega)) (Int.emod_lt_of_pos _ (by omega))
    have e : cntS (fun a r => ∃ t, 0 ≤ t ∧ t < ((k + 1 : Nat) : Int) ∧ (st0 + t) % ring = a ∧ rad w sd ho (t % w) = r) = cntS (fun a r => (∃ t, 0 ≤ t ∧ t < (k : Int) ∧ (st0 + t) % ring = a ∧ rad w sd ho (t % w) = r) ∨ (a = a0 ∧ r = r0)) := by
      refine cntS_congr (fun a r _ _ _ _ => ⟨fun h => ?_, fun h => ?_⟩)
      · obtain ⟨t, h0, h1, h2, h3⟩ := h
        by_cases q : t = (k : Int)
        · rw [q] at h2 h3
          exact Or.inr ⟨by rw [ha0, h2], by rw [hr0, h3]⟩
        · exact Or.inl ⟨t, h0, by omega, h2, h3⟩
      · rcases h with ⟨t, h0, h1, h2, h3⟩ | ⟨h2, h3⟩
        · exact ⟨t, h0, by omega, h2, h3⟩
        · exact ⟨(k : Int), by omega, by omega, by rw [h2, ha0], by rw [h3, hr0]⟩
    rw [e]
    by_cases hin : ∃ t, 0 ≤ t ∧ t < (k : Int) ∧ (st0 + t) % ring = a0 ∧ rad w sd ho (t % w) = r0
    · have e2 : cntS (fun a r => (∃ t, 0 ≤ t ∧ t < (k : Int) ∧ (st0 + t) % ring = a ∧ rad w sd ho (t % w) = r) ∨ (a = a0 ∧ r = r0)) = cntS (fun a r => ∃ t, 0 ≤ t ∧ t < (k : Int) ∧ (st0 + t) % ring = a ∧ rad w sd ho (t % w) = r) := by
        refine cntS_congr (fun a r _ _ _ _ => ⟨fun h => h.elim id (fun h => ?_), Or.inl⟩)
        rw [h.1, h.2]
        exact hin
      rw [e2]
      omega
    · have e3 := cntS_add (S := fun a r => ∃ t, 0 ≤ t ∧ t < (k : Int) ∧ (st0 + t) % ring = a ∧ rad w sd ho (t % w) = r) (a0 := a0) (r0 := r0) (by omega) (by omega) hin
      omega
theorem fb_ct_lt {p q : Nat → Bool} {n k : Nat} (hk : k < n) (hp : p k = false) (hq : q k = true) (h : ∀ j, j < n → p j = true → q j = true) : fb_ct p n < fb_ct q n := by
  have e := fb_ct_upd p true hk
  rw [hp] at e
  simp only [Bool.false_eq_true, if_false, if_true, Nat.add_zero] at e
  have e2 := fb_ct_sub (p := fun j => if j = k then true else p j) (q := q) (n := n) (fun j hj z => by
    by_cases q9 : j = k
    · rw [q9]; exact hq
    · rw [if_neg q9] at z; exact h j hj z)
  omega
theorem fb_ct_one {p : Nat → Bool} {n : Nat} (h : ∀ i j, i < n → j < n → p i = true → p j = true → i = j) : fb_ct p n ≤ 1 := by
  by_cases q : fb_ct p n ≤ 1
  · exact q
  · obtain ⟨i, hi, pi, ri⟩ := fb_ct_kth (p := p) (k := 0) (n := n) (by omega)
    obtain ⟨j, hj, pj, rj⟩ := fb_ct_kth (p := p) (k := 1) (n := n) (by omega)
    have := h i j hi hj pi pj
    rw [this] at ri
    omega
theorem fb_sm_one {i n : Nat} (h : i < n) : fb_sm (fun q => if q = i then 1 else 0) n = 1 := by
  have e := fb_sm_upd (fun _ => 0) 1 h
  rw [fb_sm_const] at e
  omega
theorem dB_no {P : Prop} (h : ¬ P) : dB P = false := by
  cases z : dB P with
  | false => rfl
  | true => exact absurd (dB_iff.mp z) h
theorem PT_mk {ring w sd ho st0 a r t : Int} (h0 : 0 ≤ t) (h1 : t < pd ring w) (h2 : (st0 + t) % ring = a) (h3 : rad w sd ho (t % w) = r) : PT ring w sd ho st0 a r := by
  unfold PT
  exact ⟨t, h0, h1, h2, h3⟩
/-- every place of a ranking is taken -/
theorem fb_all {F : Nat → Nat} {n : Nat} (hF : ∀ j, j < n → F j < n) (hi : ∀ i j, i < n → j < n → F i = F j → i = j) {q0 : Nat} (hq : q0 < n) : ∃ j, j < n ∧ F j = q0 := by
  have tot : ∀ m, m ≤ n → fb_sm (fun q => fb_ct (fun j => decide (F j = q)) m) n = m := by
    intro m
    induction m with
    | zero =>
      intro _
      show fb_sm (fun _ => 0) n = 0
      rw [fb_sm_const]
      omega
    | succ m ih =>
      intro hm
      have e : fb_sm (fun q => fb_ct (fun j => decide (F j = q)) (m + 1)) n = fb_sm (fun q => fb_ct (fun j => decide (F j = q)) m + (if q = F m then 1 else 0)) n := by
        refine fb_sm_cong (fun q _ => ?_)
        rw [fb_ct_succ]
        congr 1
        by_cases z : F m = q
        · rw [if_pos (decide_eq_true z), if_pos z.symm]
        · rw [if_neg (by rw [decide_eq_true_eq]; exact z), if_neg (fun y => z y.symm)]
      have e9 := fb_sm_add (fun q => fb_ct (fun j => decide (F j = q)) m) (fun q => if q = F m then 1 else 0) n
      rw [e, e9, ih (by omega), fb_sm_one (hF m (by omega))]
  by_cases hz : ∃ j, j < n ∧ F j = q0
  · exact hz
  · exfalso
    have t := tot n (Nat.le_refl _)
    have z0 : fb_ct (fun j => decide (F j = q0)) n = 0 := fb_ct_zero.mpr (fun j hj => decide_eq_false (fun z => hz ⟨j, hj, z⟩))
    have b := fb_sm_le (f := fun q => fb_ct (fun j => decide (F j = q)) n) (g := fun q => if q = q0 then 0 else 1) (n := n) (fun q hq9 => by
      show fb_ct (fun j => decide (F j = q)) n ≤ if q = q0 then 0 else 1
      by_cases z : q = q0
      · rw [if_pos z, z, z0]
        exact Nat.le_refl _
      · rw [if_neg z]
        exact fb_ct_one (fun i j h1 h2 h3 h4 => hi i j h1 h2 ((of_decide_eq_true h3).trans (of_decide_eq_true h4).symm)))
    have u := fb_sm_upd (fun _ => 1) 0 hq
    rw [fb_sm_const] at u
    have u2 : fb_sm (fun q => if q = q0 then 0 else 1) n + 1 = n := by omega
    omega
section PF
variable {nl l k : Int} {f : Int → Int}
theorem okPl.lay9 (hok : okPl nl f) (hl : 0 ≤ l ∧ l < nl) : okL (f (4 * l + 1)) (f (4 * l + 2)) (f (4 * l + 3)) ∧ (0 ≤ f (4 * l + 4) ∧ f (4 * l + 4) < f 0) ∧ (12 ≤ f 0 ∧ f 0 ≤ 96) ∧ (5 ≤ f (4 * l + 1) ∧ f (4 * l + 1) ≤ 60) := by
  have h := hok.2.2.2.1 l hl.1 hl.2
  have h2 := h.1
  exact ⟨h.1, h.2, hok.2.1, h2.1, h2.2.1⟩
theorem pd_rg (hok : okPl nl f) (hl : 0 ≤ l ∧ l < nl) : 1 ≤ pd (f 0) (f (4 * l + 1)) ∧ pd (f 0) (f (4 * l + 1)) ≤ 5760 := by
  obtain ⟨-, -, hr, hw⟩ := hok.lay9 hl
  have ht := tn_range (ring := f 0) (w := f (4 * l + 1)) (by omega) (by omega)
  have h := mul_r (a := f 0) (b := tn (f 0) (f (4 * l + 1))) (x := 96) (y := 60) (by omega) (by omega) (by omega) (by omega)
  have h2 : 0 < f 0 * tn (f 0) (f (4 * l + 1)) := Int.mul_pos (by omega) (by omega)
  unfold pd
  omega
/-- turns, lobes and the period -/
theorem ly_per (hok : okPl nl f) (hl : 0 ≤ l ∧ l < nl) : tn (f 0) (f (4 * l + 1)) * f 0 = pd (f 0) (f (4 * l + 1)) ∧ lb (f 0) (f (4 * l + 1)) * f (4 * l + 1) = pd (f 0) (f (4 * l + 1)) ∧ gd (tn (f 0) (f (4 * l + 1))) (lb (f 0) (f (4 * l + 1))) = 1 ∧ (1 ≤ tn (f 0) (f (4 * l + 1)) ∧ tn (f 0) (f (4 * l + 1)) ≤ 60) ∧ 1 ≤ lb (f 0) (f (4 * l + 1)) ∧ lb (f 0) (f (4 * l + 1)) ≤ 96 := by
  obtain ⟨-, -, hr, hw⟩ := hok.lay9 hl
  have ht := tn_range (ring := f 0) (w := f (4 * l + 1)) (by omega) (by omega)
  have hb := lb_range (ring := f 0) (w := f (4 * l + 1)) (by omega)
  exact ⟨Int.mul_comm _ _, (pd_lb (by omega) (by omega)).symm, gd_co (by omega) (by omega), by omega, by omega⟩
theorem pe_all (hok : okPl nl f) (hl : 0 ≤ l ∧ l < nl) (t : Int) : Int.tdiv (peF f l t) 1000 = anF f l t ∧ Int.tmod (peF f l t) 1000 = raF f l t ∧ (0 ≤ peF f l t ∧ peF f l t ≤ 96000) ∧ (0 ≤ anF f l t ∧ anF f l t < f 0) ∧ 120 ≤ raF f l t ∧ raF f l t ≤ 280 := by
  obtain ⟨h1, h2, hr, hw⟩ := hok.lay9 hl
  have ha : 0 ≤ anF f l t ∧ anF f l t < f 0 := ⟨Int.emod_nonneg _ (by omega), Int.emod_lt_of_pos _ (by omega)⟩
  have hra : 120 ≤ raF f l t ∧ raF f l t ≤ 280 := rad_range h1 (Int.emod_nonneg _ (by omega)) (Int.emod_lt_of_pos _ (by omega))
  have e : peF f l t = 1000 * anF f l t + raF f l t := rfl
  rw [e, tdiv_pos (by omega), tmod_pos (by omega)]
  omega
theorem pe_0 (hok : okPl nl f) (hl : 0 ≤ l ∧ l < nl) : anF f l 0 = f (4 * l + 4) := by
  obtain ⟨h1, h2, hr, hw⟩ := hok.lay9 hl
  unfold anF
  rw [Int.add_zero]
  exact Int.emod_eq_of_lt h2.1 h2.2
theorem pe_first {t z N : Int} (ht : 0 ≤ t ∧ t < N) (h : isFirst (cmsP f l (anF f l t) (raF f l t)) N z) : (0 ≤ z ∧ z ≤ t) ∧ peF f l z = peF f l t := by
  have hp : cmsP f l (anF f l t) (raF f l t) t := ⟨rfl, rfl⟩
  rcases h with ⟨z0, z1, hz, hb⟩ | ⟨-, hb⟩
  · refine ⟨⟨z0, Int.not_lt.mp (fun q => hb t ht.1 q hp)⟩, ?_⟩
    have h1 : anF f l z = anF f l t := hz.1
    have h2 : raF f l z = raF f l t := hz.2
    show 1000 * anF f l z + raF f l z = 1000 * anF f l t + raF f l t
    rw [h1, h2]
  · exact absurd hp (hb t ht.1 ht.2)
theorem pe_per (hok : okPl nl f) (hl : 0 ≤ l ∧ l < nl) (t : Int) : peF f l (t + 1000000 * pd (f 0) (f (4 * l + 1))) = peF f l t := by
  obtain ⟨h1, h2, hr, hw⟩ := hok.lay9 hl
  have e1 : anF f l (t + 1000000 * pd (f 0) (f (4 * l + 1))) = anF f l t := by
    unfold anF
    rw [show f (4 * l + 4) + (t + 1000000 * pd (f 0) (f (4 * l + 1))) = f (4 * l + 4) + t + f 0 * (1000000 * tn (f 0) (f (4 * l + 1))) from by unfold pd; rw [← Int.add_assoc, Int.mul_left_comm]]
    exact Int.add_mul_emod_self_left _ _ _
  have e2 : raF f l (t + 1000000 * pd (f 0) (f (4 * l + 1))) = raF f l t := by
    unfold raF
    rw [pd_lb (by omega) (by omega), show t + 1000000 * (lb (f 0) (f (4 * l + 1)) * f (4 * l + 1)) = t + f (4 * l + 1) * (1000000 * lb (f 0) (f (4 * l + 1))) from by rw [Int.mul_comm (lb (f 0) (f (4 * l + 1))), Int.mul_left_comm], Int.add_mul_emod_self_left]
  show 1000 * anF f l (t + 1000000 * pd (f 0) (f (4 * l + 1))) + raF f l (t + 1000000 * pd (f 0) (f (4 * l + 1))) = 1000 * anF f l t + raF f l t
  rw [e1, e2]
theorem ls_rg (hok : okPl nl f) (hl : 0 ≤ l ∧ l < nl) : (120 ≤ lsr f l ∧ lsr f l ≤ grr f l) ∧ grr f l ≤ 280 := by
  obtain ⟨h1, h2, hr, hw⟩ := hok.lay9 hl
  have a := mnf_ge (rad (f (4 * l + 1)) (f (4 * l + 2)) (f (4 * l + 3))) 120 (f (4 * l + 1) - 1).toNat (fun j hj => (rad_range h1 (by omega) (by omega)).1)
  have b := mxf_le (rad (f (4 * l + 1)) (f (4 * l + 2)) (f (4 * l + 3))) 280 (f (4 * l + 1) - 1).toNat (fun j hj => (rad_range h1 (by omega) (by omega)).2)
  have c := mnf_le (rad (f (4 * l + 1)) (f (4 * l + 2)) (f (4 * l + 3))) (f (4 * l + 1) - 1).toNat 0 (by omega)
  have d := mxf_ge (rad (f (4 * l + 1)) (f (4 * l + 2)) (f (4 * l + 3))) (f (4 * l + 1) - 1).toNat 0 (by omega)
  unfold lsr grr
  omega
theorem ra_ends (hok : okPl nl f) (hl : 0 ≤ l ∧ l < nl) (t : Int) : lsr f l ≤ raF f l t ∧ raF f l t ≤ grr f l := by
  obtain ⟨h1, h2, hr, hw⟩ := hok.lay9 hl
  have u0 : 0 ≤ t % f (4 * l + 1) := Int.emod_nonneg _ (by omega)
  have u1 : t % f (4 * l + 1) < f (4 * l + 1) := Int.emod_lt_of_pos _ (by omega)
  have c := mnf_le (rad (f (4 * l + 1)) (f (4 * l + 2)) (f (4 * l + 3))) (f (4 * l + 1) - 1).toNat (t % f (4 * l + 1)).toNat (by omega)
  have d := mxf_ge (rad (f (4 * l + 1)) (f (4 * l + 2)) (f (4 * l + 3))) (f (4 * l + 1) - 1).toNat (t % f (4 * l + 1)).toNat (by omega)
  rw [Int.toNat_of_nonneg u0] at c d
  exact ⟨c, d⟩
theorem pt_at {t : Int} (ht : 0 ≤ t ∧ t < pd (f 0) (f (4 * l + 1))) : PTl f l (anF f l t) (raF f l t) := PT_mk ht.1 ht.2 rfl rfl
theorem pe_mem (hok : okPl nl f) (hl : 0 ≤ l ∧ l < nl) (z : Int) : PTl f l (anF f l z) (raF f l z) := by
  obtain ⟨h1, h2, hr, hw⟩ := hok.lay9 hl
  have hp := pd_rg hok hl
  have d1 : f 0 ∣ pd (f 0) (f (4 * l + 1)) := ⟨tn (f 0) (f (4 * l + 1)), rfl⟩
  have d2 : f (4 * l + 1) ∣ pd (f 0) (f (4 * l + 1)) := ⟨lb (f 0) (f (4 * l + 1)), by rw [pd_lb (by omega) (by omega)]; exact Int.mul_comm _ _⟩
  refine PT_mk (t := z % pd (f 0) (f (4 * l + 1))) (Int.emod_nonneg _ (by omega)) (Int.emod_lt_of_pos _ (by omega)) ?_ ?_
  · unfold anF
    rw [Int.add_emod, Int.emod_emod_of_dvd _ d1, ← Int.add_emod]
  · unfold raF
    rw [Int.emod_emod_of_dvd _ d2]
theorem at_pos (hok : okPl nl f) (hl : 0 ≤ l ∧ l < nl) {t : Int} (ht : 0 ≤ t ∧ t < pd (f 0) (f (4 * l + 1))) : 0 < cntR (ALLp nl f) (raF f l t) := by
  obtain ⟨-, -, -, ha, -⟩ := pe_all hok hl t
  have hr := hok.2.1
  exact cntR_pos (a := anF f l t) (by omega) ⟨l, hl.1, hl.2, pt_at ht⟩
theorem pts_pd (hok : okPl nl f) (hl : 0 ≤ l ∧ l < nl) : ((cntS (fun x y => PTl f l x y) : Nat) : Int) ≤ pd (f 0) (f (4 * l + 1)) := by
  obtain ⟨h1, h2, hr, hw⟩ := hok.lay9 hl
  have hp := pd_rg hok hl
  have h := PT_cnt (st0 := f (4 * l + 4)) hr h1 (pd (f 0) (f (4 * l + 1))).toNat
  rw [Int.toNat_of_nonneg (by omega)] at h
  have e : cntS (fun x y => PTl f l x y) = cntS (fun a r => ∃ t, 0 ≤ t ∧ t < pd (f 0) (f (4 * l + 1)) ∧ (f (4 * l + 4) + t) % f 0 = a ∧ rad (f (4 * l + 1)) (f (4 * l + 2)) (f (4 * l + 3)) (t % f (4 * l + 1)) = r) := rfl
  rw [e]
  omega
/-! all layers together -/
theorem ALL_0 : cntS (ALLp 0 f) = 0 := cntS_none (fun a r _ _ _ _ h => by obtain ⟨l9, h0, h1, _⟩ := h; omega)
theorem ALL_step (hk : 0 ≤ k) : cntS (ALLp (k + 1) f) ≤ cntS (ALLp k f) + cntS (fun x y => PTl f k x y) := by
  refine Nat.le_trans (cntS_mono (fun a r _ _ _ _ h => ?_)) (cntS_or _ _)
  obtain ⟨l9, h0, h1, h2⟩ := h
  by_cases q : l9 = k
  · exact Or.inr (by rw [← q]; exact h2)
  · exact Or.inl ⟨l9, h0, by omega, h2⟩
theorem ALL_ge (hl : 0 ≤ l ∧ l < nl) : cntS (fun x y => PTl f l x y) ≤ cntS (ALLp nl f) := cntS_mono (fun a r _ _ _ _ h => ⟨l, hl.1, hl.2, h⟩)
theorem ends_A (hok : okPl nl f) : ∀ k : Nat, (k : Int) ≤ nl → (k = 0 → lsA f k = -9 ∧ grA f k = -9) ∧ (0 < k → (120 ≤ lsA f k ∧ lsA f k ≤ grA f k ∧ grA f k ≤ 280) ∧ ∀ l, 0 ≤ l → l < (k : Int) → lsA f k ≤ lsr f l ∧ grr f l ≤ grA f k)
  | 0, _ => ⟨fun _ => ⟨rfl, rfl⟩, fun h => absurd h (by omega)⟩
  | k + 1, hk => by
    obtain ⟨h0, h1⟩ := ends_A hok k (by omega)
    have hr := ls_rg hok (l := (k : Int)) (by omega)
    have e1 : lsA f (k + 1) = if lsA f k = -9 ∨ lsr f (k : Int) < lsA f k then lsr f (k : Int) else lsA f k := rfl
    have e2 : grA f (k + 1) = if grA f k < grr f (k : Int) then grr f (k : Int) else grA f k := rfl
    refine ⟨fun h => absurd h (by omega), fun _ => ?_⟩
    by_cases hz : k = 0
    · obtain ⟨z1, z2⟩ := h0 hz
      rw [e1, e2, if_pos (Or.inl z1), if_pos (by omega)]
      refine ⟨by omega, fun l l0 l1 => ?_⟩
      rw [show l = (k : Int) by omega]
      exact ⟨Int.le_refl _, Int.le_refl _⟩
    · obtain ⟨z1, z2⟩ := h1 (by omega)
      have b1 : lsA f (k + 1) ≤ lsA f k ∧ lsA f (k + 1) ≤ lsr f (k : Int) ∧ (lsA f (k + 1) = lsA f k ∨ lsA f (k + 1) = lsr f (k : Int)) := by
        rw [e1]
        split <;> omega
      have b2 : grA f k ≤ grA f (k + 1) ∧ grr f (k : Int) ≤ grA f (k + 1) ∧ (grA f (k + 1) = grA f k ∨ grA f (k + 1) = grr f (k : Int)) := by
        rw [e2]
        split <;> omega
      refine ⟨by omega, fun l l0 l1 => ?_⟩
      by_cases q : l = (k : Int)
      · rw [q]
        omega
      · have := z2 l l0 (by omega)
        omega
theorem gpf_wide {E : Int → Prop} {lo hi : Int} (h0 : 0 ≤ lo) (h : ∀ r, E r → lo ≤ r ∧ r ≤ hi) : ∀ k : Nat, ((gpf E k).2 = -9 ∧ (gpf E k).1 = 0) ∨ ((lo ≤ (gpf E k).2 ∧ (gpf E k).2 ≤ hi ∧ (gpf E k).2 < k) ∧ 0 ≤ (gpf E k).1 ∧ (gpf E k).1 ≤ (gpf E k).2 - lo)
  | 0 => Or.inl ⟨rfl, rfl⟩
  | k + 1 => by
    have ih := gpf_wide h0 h k
    by_cases q : E (k : Int)
    · have e := gpf_in (E := E) (k := (k : Int)) (by omega) q
      rw [show ((k : Int) + 1).toNat = k + 1 by omega, show ((k : Int)).toNat = k by omega] at e
      have hr := h _ q
      rw [e]
      dsimp only
      refine Or.inr ⟨by omega, ?_⟩
      rcases ih with ⟨i1, i2⟩ | ⟨i1, i2⟩
      · rw [if_pos i1]
        omega
      · rw [if_neg (by omega)]
        omega
    · have e := gpf_out (E := E) (k := (k : Int)) (by omega) q
      rw [show ((k : Int) + 1).toNat = k + 1 by omega, show ((k : Int)).toNat = k by omega] at e
      rw [e]
      omega
theorem blank_le (hok : okPl nl f) (hn : 0 < nl) : -9 ≤ bkF nl f ∧ bkF nl f ≤ grA f nl.toNat - lsA f nl.toNat := by
  have hA := (ends_A hok nl.toNat (by omega)).2 (by omega)
  have hb := gpf_wide (E := fun q9 => 0 < (cntR (ALLp nl f) q9 : Int)) (lo := lsA f nl.toNat) (hi := grA f nl.toNat) (by omega) (fun r hr => by
    have hr : 0 < (cntR (ALLp nl f) r : Int) := hr
    obtain ⟨a, ha, l9, l0, l1, t, t0, t1, e1, e2⟩ := cntR_ex (S := ALLp nl f) (r := r) (by omega)
    have h1 := ra_ends hok (l := l9) ⟨l0, l1⟩ t
    have h2 := hA.2 l9 l0 (by omega)
    have e3 : raF f l9 t = r := e2
    omega) 301
  unfold bkF
  rw [if_neg (by omega)]
  omega
theorem tg_dvd (hok : okPl nl f) : ∀ k : Nat, (k : Int) ≤ nl → ∀ l, 0 ≤ l → l < (k : Int) → pd (f 0) (f (4 * l + 1)) ∣ tgA f k
  | 0, _, l, h0, h1 => absurd h1 (by omega)
  | k + 1, hk, l, h0, h1 => by
    have e : tgA f (k + 1) = tgA f k / gd (tgA f k) (pd (f 0) (f (4 * (k : Int) + 1))) * pd (f 0) (f (4 * (k : Int) + 1)) := rfl
    rw [e]
    by_cases q : l = (k : Int)
    · rw [q]
      exact Int.dvd_mul_left _ _
    · refine Int.dvd_trans (tg_dvd hok k (by omega) l h0 (by omega)) ?_
      obtain ⟨c, hc⟩ := gd_dvd_right (tgA f k) (pd (f 0) (f (4 * (k : Int) + 1)))
      obtain ⟨d, hd⟩ := gd_dvd_left (tgA f k) (pd (f 0) (f (4 * (k : Int) + 1)))
      have ht := (tgA_ok hok k (by omega)).1
      have hg := gd_pos (b := pd (f 0) (f (4 * (k : Int) + 1))) ht
      have e1 : tgA f k / gd (tgA f k) (pd (f 0) (f (4 * (k : Int) + 1))) = d := by
        have := Int.mul_ediv_cancel_left d (show gd (tgA f k) (pd (f 0) (f (4 * (k : Int) + 1))) ≠ 0 by omega)
        rw [← hd] at this
        exact this
      rw [e1]
      refine ⟨c, ?_⟩
      have e2 : tgA f k * c = gd (tgA f k) (pd (f 0) (f (4 * (k : Int) + 1))) * d * c := by rw [← hd]
      rw [e2, Int.mul_comm (gd (tgA f k) (pd (f 0) (f (4 * (k : Int) + 1)))) d, Int.mul_assoc, ← hc]
theorem tg_mod (hok : okPl nl f) (hl : 0 ≤ l ∧ l < nl) : (0 ≤ tgF nl f ∧ tgF nl f ≤ 562949953421312) ∧ Int.tmod (tgF nl f) (pd (f 0) (f (4 * l + 1))) = 0 := by
  have h := tgA_ok hok nl.toNat (by omega)
  have hd := tg_dvd hok nl.toNat (by omega) l hl.1 (by omega)
  have e : tgF nl f = tgA f nl.toNat := if_neg (by omega)
  rw [e, tmod_pos (by omega)]
  exact ⟨by omega, Int.emod_eq_zero_of_dvd hd⟩
/-! sightings -/
theorem co_iff {a r z : Int} (h : isFirst (cmsP f l a r) (pd (f 0) (f (4 * l + 1))) z) : (0 ≤ z ∧ PTl f l a r) ∨ (z = -9 ∧ ¬ PTl f l a r) := by
  rcases h with ⟨z0, z1, hz, hb⟩ | ⟨e, hb⟩
  · exact Or.inl ⟨z0, z, z0, z1, hz.1, hz.2⟩
  · refine Or.inr ⟨e, fun h => ?_⟩
    obtain ⟨t, t0, t1, e1, e2⟩ := h
    exact hb t t0 t1 ⟨e1, e2⟩
/-! the order -/
theorem CB_iff {i j : Int} : CBf f i j ↔ (tn (f 0) (f (4 * i + 1)) < tn (f 0) (f (4 * j + 1)) ∨ (tn (f 0) (f (4 * i + 1)) = tn (f 0) (f (4 * j + 1)) ∧ (lb (f 0) (f (4 * j + 1)) < lb (f 0) (f (4 * i + 1)) ∨ (lb (f 0) (f (4 * i + 1)) = lb (f 0) (f (4 * j + 1)) ∧ i < j)))) := by
  unfold CBf
  split
  · split <;> omega
  · omega
theorem cut_lt {i j : Int} (hi : 0 ≤ i ∧ i < nl) (hj : 0 ≤ j ∧ j < nl) (hne : i ≠ j) (h : CBf f i j) : cutN nl f i < cutN nl f j := by
  unfold cutN
  have e := fb_ct_lt (p := fun k => dB ((k : Int) ≠ i ∧ CBf f (k : Int) i)) (q := fun k => dB ((k : Int) ≠ j ∧ CBf f (k : Int) j)) (n := nl.toNat) (k := i.toNat) (by omega)
    (dB_no (fun h => h.1 (Int.toNat_of_nonneg hi.1)))
    (dB_iff.mpr ⟨by omega, by rw [Int.toNat_of_nonneg hi.1]; exact h⟩)
    (fun k hk z => by
      obtain ⟨z1, z2⟩ := dB_iff.mp z
      have a := CB_iff.mp z2
      have b := CB_iff.mp h
      refine dB_iff.mpr ⟨fun q => ?_, CB_iff.mpr (by omega)⟩
      rw [q] at a
      omega)
  omega
theorem cut_rg {i : Int} (hi : 0 ≤ i ∧ i < nl) : 0 ≤ cutN nl f i ∧ cutN nl f i < nl := by
  unfold cutN
  have e := fb_ct_lt (p := fun k => dB ((k : Int) ≠ i ∧ CBf f (k : Int) i)) (q := fun _ => true) (n := nl.toNat) (k := i.toNat) (by omega)
    (dB_no (fun h => h.1 (Int.toNat_of_nonneg hi.1))) rfl (fun _ _ _ => rfl)
  have e2 := fb_ct_le (fun _ => true) nl.toNat
  omega
theorem cut_tot {i j : Int} (hne : i ≠ j) : CBf f i j ∨ CBf f j i := by
  rw [CB_iff, CB_iff]
  omega
theorem cut_inj {i j : Int} (hi : 0 ≤ i ∧ i < nl) (hj : 0 ≤ j ∧ j < nl) (h : cutN nl f i = cutN nl f j) : i = j := by
  by_cases q : i = j
  · exact q
  · rcases cut_tot (f := f) q with z | z
    · have := cut_lt hi hj q z
      omega
    · have := cut_lt hj hi (fun y => q y.symm) z
      omega
theorem cut_all {pl : Int} (hp : 0 ≤ pl ∧ pl < nl) : ∃ i, (0 ≤ i ∧ i < nl) ∧ cutN nl f i = pl := by
  obtain ⟨j, hj, e⟩ := fb_all (F := fun j => (cutN nl f (j : Int)).toNat) (n := nl.toNat) (fun j hj => by
    have := cut_rg (f := f) (nl := nl) (i := (j : Int)) (by omega)
    show (cutN nl f (j : Int)).toNat < nl.toNat
    omega) (fun i j h1 h2 h3 => by
    have a := cut_rg (f := f) (nl := nl) (i := (i : Int)) (by omega)
    have b := cut_rg (f := f) (nl := nl) (i := (j : Int)) (by omega)
    have h4 : (cutN nl f (i : Int)).toNat = (cutN nl f (j : Int)).toNat := h3
    have := cut_inj (f := f) (nl := nl) (i := (i : Int)) (j := (j : Int)) (by omega) (by omega) (by omega)
    omega) (q0 := pl.toNat) (by omega)
  have a := cut_rg (f := f) (nl := nl) (i := (j : Int)) (by omega)
  have h4 : (cutN nl f (j : Int)).toNat = pl.toNat := e
  exact ⟨(j : Int), by omega, by omega⟩
theorem or_in {pl z : Int} (hp : 0 ≤ pl ∧ pl < nl) (h : isFirst (fun l9 => cutN nl f l9 = pl) nl z) : (0 ≤ z ∧ z < nl) ∧ cutN nl f z = pl := by
  rcases h with ⟨z0, z1, hz, -⟩ | ⟨-, hb⟩
  · exact ⟨⟨z0, z1⟩, hz⟩
  · obtain ⟨i, hi, e⟩ := cut_all (f := f) hp
    exact absurd e (hb i hi.1 hi.2)
theorem or_out {z : Int} (h : isFirst (fun l9 => cutN nl f l9 = nl) nl z) : z = -9 := by
  rcases h with ⟨z0, z1, hz, -⟩ | ⟨e, -⟩
  · have a := cut_rg (f := f) (nl := nl) (i := z) (by omega)
    have b : cutN nl f z = nl := hz
    omega
  · exact e
theorem or_next {i j pl : Int} (hi : 0 ≤ i ∧ i < nl) (hj : 0 ≤ j ∧ j < nl) (e1 : cutN nl f i = pl - 1) (e2 : cutN nl f j = pl) : tn (f 0) (f (4 * i + 1)) < tn (f 0) (f (4 * j + 1)) ∨ (tn (f 0) (f (4 * i + 1)) = tn (f 0) (f (4 * j + 1)) ∧ (lb (f 0) (f (4 * j + 1)) < lb (f 0) (f (4 * i + 1)) ∨ (lb (f 0) (f (4 * i + 1)) = lb (f 0) (f (4 * j + 1)) ∧ i < j))) := by
  have hne : i ≠ j := fun q => by rw [q] at e1; omega
  rcases cut_tot (f := f) hne with z | z
  · exact CB_iff.mp z
  · have := cut_lt hj hi (fun y => hne y.symm) z
    omega
/-! two layers -/
theorem co_comm (a b : Int) : coF f a b = coF f b a := by
  unfold coF
  exact congrArg (fun x : Nat => (x : Int)) (cntS_congr (fun x y _ _ _ _ => ⟨fun h => ⟨h.2, h.1⟩, fun h => ⟨h.2, h.1⟩⟩))
theorem co_le (a b : Int) : 0 ≤ coF f a b ∧ coF f a b ≤ ((cntS (fun x y => PTl f a x y) : Nat) : Int) := by
  have h := cntS_mono (S := fun x y => PTl f a x y ∧ PTl f b x y) (S' := fun x y => PTl f a x y) (fun x y _ _ _ _ h => h.1)
  unfold coF
  omega
theorem co_self (a : Int) : coF f a a = ((cntS (fun x y => PTl f a x y) : Nat) : Int) := by
  unfold coF
  exact congrArg (fun x : Nat => (x : Int)) (cntS_congr (fun x y _ _ _ _ => ⟨fun h => h.1, fun h => ⟨h, h⟩⟩))
theorem cn_le (a : Int) : 0 ≤ ((cntS (fun x y => PTl f a x y) : Nat) : Int) ∧ ((cntS (fun x y => PTl f a x y) : Nat) : Int) ≤ 38528 := by
  have := cntS_le (fun x y => PTl f a x y)
  omega
theorem tr_self {a z : Int} (hok : okPl nl f) (ha : 0 ≤ a ∧ a < nl) (h : isFirst (trnP f a a) (f 0) z) : z = 0 := by
  obtain ⟨h1, h2, hr, hw⟩ := hok.lay9 ha
  have h0 : trnP f a a 0 := by
    show SameR (f 0) (f (4 * a + 1)) (f (4 * a + 2)) (f (4 * a + 3)) ((f (4 * a + 4) + 0) % f 0) (f (4 * a + 1)) (f (4 * a + 2)) (f (4 * a + 3)) (f (4 * a + 4))
    rw [Int.add_zero, Int.emod_eq_of_lt h2.1 h2.2]
    exact fun x y _ _ _ _ => Iff.rfl
  rcases h with ⟨z0, z1, hz, hb⟩ | ⟨-, hb⟩
  · by_cases q : z = 0
    · exact q
    · exact absurd h0 (hb 0 (by omega) (by omega))
  · exact absurd h0 (hb 0 (by omega) (by omega))
theorem mt_pt {a b N z : Int} (hok : okPl nl f) (ha : 0 ≤ a ∧ a < nl) (hb : 0 ≤ b ∧ b < nl) (h : isFirst (metP f a b) N z) : z = -9 ∨ (0 ≤ z ∧ z < N ∧ peF f a z = peF f b z ∧ 0 < coF f a b) := by
  rcases h with ⟨z0, z1, hz, -⟩ | ⟨e, -⟩
  · refine Or.inr ⟨z0, z1, ?_, ?_⟩
    · have e1 : anF f a z = anF f b z := by
        unfold anF
        rw [hz.1]
      have e2 : raF f a z = raF f b z := hz.2
      show 1000 * anF f a z + raF f a z = 1000 * anF f b z + raF f b z
      rw [e1, e2]
    · obtain ⟨h1, h2, hr, hw⟩ := hok.lay9 ha
      obtain ⟨k1, k2, -, kw⟩ := hok.lay9 hb
      have ea := pe_all hok ha z
      have e1 : anF f b z = anF f a z := by
        unfold anF
        rw [hz.1]
      have e2 : raF f b z = raF f a z := hz.2.symm
      have pa := pe_mem hok ha z
      have pb := pe_mem hok hb z
      rw [e1, e2] at pb
      have c := cntS_ge1 (S := fun x y => PTl f a x y ∧ PTl f b x y) (a := anF f a z) (r := raF f a z) (by omega) (by omega) ⟨pa, pb⟩
      unfold coF
      omega
  · exact Or.inl e
/-- the same layer at another start -/
theorem st_eq {x : Int} : vu f (4 * l + 1 + 3) x (4 * l + 4) = x := by
  rw [show 4 * l + 1 + 3 = 4 * l + 4 by omega]
  exact vu_self _ _ _
theorem st_ne {x i : Int} (h : i ≠ 4 * l + 4) : vu f (4 * l + 1 + 3) x i = f i := vu_ne (by omega)
theorem PTl_st {x a r : Int} (hl : 0 ≤ l) : PTl (vu f (4 * l + 1 + 3) x) l a r ↔ PT (f 0) (f (4 * l + 1)) (f (4 * l + 2)) (f (4 * l + 3)) x a r := by
  unfold PTl
  rw [st_eq, st_ne (l := l) (f := f) (x := x) (i := 0) (by omega), st_ne (l := l) (f := f) (x := x) (i := 4 * l + 1) (by omega), st_ne (l := l) (f := f) (x := x) (i := 4 * l + 2) (by omega), st_ne (l := l) (f := f) (x := x) (i := 4 * l + 3) (by omega)]
theorem PTl_ot {x m a r : Int} (hl : 0 ≤ l) (hne : m ≠ l) : PTl (vu f (4 * l + 1 + 3) x) m a r ↔ PTl f m a r := by
  unfold PTl
  rw [st_ne (l := l) (f := f) (x := x) (i := 0) (by omega), st_ne (l := l) (f := f) (x := x) (i := 4 * m + 1) (by omega), st_ne (l := l) (f := f) (x := x) (i := 4 * m + 2) (by omega), st_ne (l := l) (f := f) (x := x) (i := 4 * m + 3) (by omega), st_ne (l := l) (f := f) (x := x) (i := 4 * m + 4) (by omega)]
/-- turned as told, one is the other -/
theorem tr_st {m z : Int} (hok : okPl nl f) (hl : 0 ≤ l ∧ l < nl) (hm : 0 ≤ m ∧ m < nl) (hne : l ≠ m) (h : isFirst (trnP f l m) (f 0) z) (hz : 0 ≤ z) : (∀ a r, 0 ≤ a → a < 128 → 0 ≤ r → r ≤ 300 → (PTl (vu f (4 * l + 1 + 3) ((f (4 * l + 4) + z) % f 0)) l a r ↔ PTl f m a r)) ∧ coF (vu f (4 * l + 1 + 3) ((f (4 * l + 4) + z) % f 0)) l m = ((cntS (fun x y => PTl (vu f (4 * l + 1 + 3) ((f (4 * l + 4) + z) % f 0)) l x y) : Nat) : Int) ∧ coF (vu f (4 * l + 1 + 3) ((f (4 * l + 4) + z) % f 0)) l m = ((cntS (fun x y => PTl (vu f (4 * l + 1 + 3) ((f (4 * l + 4) + z) % f 0)) m x y) : Nat) : Int) := by
  have hP : trnP f l m z := by
    rcases h with ⟨-, -, h, -⟩ | ⟨h, -⟩
    · exact h
    · omega
  have key : ∀ a r, 0 ≤ a → a < 128 → 0 ≤ r → r ≤ 300 → (PTl (vu f (4 * l + 1 + 3) ((f (4 * l + 4) + z) % f 0)) l a r ↔ PTl f m a r) := fun a r a0 a1 r0 r1 => (PTl_st hl.1).trans (hP a r a0 a1 r0 r1)
  have key2 : ∀ a r, PTl (vu f (4 * l + 1 + 3) ((f (4 * l + 4) + z) % f 0)) m a r ↔ PTl f m a r := fun a r => PTl_ot hl.1 (fun q => hne q.symm)
  refine ⟨key, ?_, ?_⟩
  · unfold coF
    exact congrArg (fun x : Nat => (x : Int)) (cntS_congr (fun a r a0 a1 r0 r1 => ⟨fun h => h.1, fun h => ⟨h, (key2 a r).mpr ((key a r a0 a1 r0 r1).mp h)⟩⟩))
  · unfold coF
    exact congrArg (fun x : Nat => (x : Int)) (cntS_congr (fun a r a0 a1 r0 r1 => ⟨fun h => h.2, fun h => ⟨(key a r a0 a1 r0 r1).mpr ((key2 a r).mp h), h⟩⟩))
/-- and then nothing is to be turned any more -/
theorem tr_0 {m z z2 : Int} (hok : okPl nl f) (hl : 0 ≤ l ∧ l < nl) (hm : 0 ≤ m ∧ m < nl) (hne : l ≠ m) (h : isFirst (trnP f l m) (f 0) z) (hz : 0 ≤ z) (h2 : isFirst (trnP (vu f (4 * l + 1 + 3) ((f (4 * l + 4) + z) % f 0)) l m) (vu f (4 * l + 1 + 3) ((f (4 * l + 4) + z) % f 0) 0) z2) : z2 = 0 := by
  have hP : trnP f l m z := by
    rcases h with ⟨-, -, h, -⟩ | ⟨h, -⟩
    · exact h
    · omega
  have hr := hok.2.1
  obtain ⟨x, hx⟩ : ∃ x, x = (f (4 * l + 4) + z) % f 0 := ⟨_, rfl⟩
  rw [← hx] at h2
  have e0 : vu f (4 * l + 1 + 3) x 0 = f 0 := st_ne (by omega)
  have h0 : trnP (vu f (4 * l + 1 + 3) x) l m 0 := by
    show SameR (vu f (4 * l + 1 + 3) x 0) (vu f (4 * l + 1 + 3) x (4 * l + 1)) (vu f (4 * l + 1 + 3) x (4 * l + 2)) (vu f (4 * l + 1 + 3) x (4 * l + 3)) ((vu f (4 * l + 1 + 3) x (4 * l + 4) + 0) % vu f (4 * l + 1 + 3) x 0) (vu f (4 * l + 1 + 3) x (4 * m + 1)) (vu f (4 * l + 1 + 3) x (4 * m + 2)) (vu f (4 * l + 1 + 3) x (4 * m + 3)) (vu f (4 * l + 1 + 3) x (4 * m + 4))
    rw [st_eq, e0, st_ne (l := l) (f := f) (x := x) (i := 4 * l + 1) (by omega), st_ne (l := l) (f := f) (x := x) (i := 4 * l + 2) (by omega), st_ne (l := l) (f := f) (x := x) (i := 4 * l + 3) (by omega), st_ne (l := l) (f := f) (x := x) (i := 4 * m + 1) (by omega), st_ne (l := l) (f := f) (x := x) (i := 4 * m + 2) (by omega), st_ne (l := l) (f := f) (x := x) (i := 4 * m + 3) (by omega), st_ne (l := l) (f := f) (x := x) (i := 4 * m + 4) (by omega), Int.add_zero, hx, Int.emod_emod]
    exact hP
  rw [e0] at h2
  rcases h2 with ⟨z0, z1, hz2, hb⟩ | ⟨-, hb⟩
  · by_cases q : z2 = 0
    · exact q
    · exact absurd h0 (hb 0 (by omega) (by omega))
  · exact absurd h0 (hb 0 (by omega) (by omega))
theorem bsf_le (F : Int → Int) (h0 : ∀ x, 0 ≤ F x) : ∀ k : Nat, 0 < k → (0 ≤ (bsf F k).1 ∧ (bsf F k).1 < k) ∧ (bsf F k).2 = F (bsf F k).1
  | 0, h => absurd h (by omega)
  | k + 1, _ => by
    have e := bsf_step F (k := (k : Int)) (by omega)
    rw [show ((k : Int) + 1).toNat = k + 1 by omega, show ((k : Int)).toNat = k by omega] at e
    rw [e]
    by_cases q : (bsf F k).2 < F (k : Int)
    · rw [if_pos q]
      exact ⟨⟨by show (0 : Int) ≤ (k : Int); omega, by show (k : Int) < ((k + 1 : Nat) : Int); omega⟩, rfl⟩
    · rw [if_neg q]
      by_cases hk : k = 0
      · rw [hk] at q
        have h1 := h0 ((0 : Nat) : Int)
        exact absurd (show (bsf F 0).2 < F ((0 : Nat) : Int) from Int.lt_of_lt_of_le (by decide : (-9 : Int) < 0) h1) q
      · obtain ⟨a, b⟩ := bsf_le F h0 k (by omega)
        exact ⟨by omega, b⟩
/-- at the best start there is no less in common -/
theorem bs_st {m : Int} (hok : okPl nl f) (hl : 0 ≤ l ∧ l < nl) (hm : 0 ≤ m ∧ m < nl) (hne : l ≠ m) : (0 ≤ bsF f l m ∧ bsF f l m < f 0) ∧ coF f l m ≤ coF (vu f (4 * l + 1 + 3) (bsF f l m)) l m := by
  obtain ⟨h1, h2, hr, hw⟩ := hok.lay9 hl
  have pos : ∀ x, 0 ≤ cmF (f 0) (f (4 * l + 1)) (f (4 * l + 2)) (f (4 * l + 3)) (f (4 * m + 1)) (f (4 * m + 2)) (f (4 * m + 3)) (f (4 * m + 4)) x := fun x => Int.natCast_nonneg _
  obtain ⟨b1, b2⟩ := bsf_le _ pos (f 0).toNat (by omega)
  have b3 := bsf_ge (cmF (f 0) (f (4 * l + 1)) (f (4 * l + 2)) (f (4 * l + 3)) (f (4 * m + 1)) (f (4 * m + 2)) (f (4 * m + 3)) (f (4 * m + 4))) (f 0).toNat (f (4 * l + 4)).toNat (by omega)
  rw [Int.toNat_of_nonneg h2.1, b2] at b3
  have e1 : cmF (f 0) (f (4 * l + 1)) (f (4 * l + 2)) (f (4 * l + 3)) (f (4 * m + 1)) (f (4 * m + 2)) (f (4 * m + 3)) (f (4 * m + 4)) (f (4 * l + 4)) = coF f l m := rfl
  have e2 : ∀ x, cmF (f 0) (f (4 * l + 1)) (f (4 * l + 2)) (f (4 * l + 3)) (f (4 * m + 1)) (f (4 * m + 2)) (f (4 * m + 3)) (f (4 * m + 4)) x = coF (vu f (4 * l + 1 + 3) x) l m := fun x => by
    unfold cmF coF
    exact congrArg (fun x : Nat => (x : Int)) (cntS_congr (fun a r _ _ _ _ => ⟨fun h => ⟨(PTl_st hl.1).mpr h.1, (PTl_ot hl.1 (fun q => hne q.symm)).mpr h.2⟩, fun h => ⟨(PTl_st hl.1).mp h.1, (PTl_ot hl.1 (fun q => hne q.symm)).mp h.2⟩⟩))
  rw [e1, e2] at b3
  exact ⟨⟨b1.1, by unfold bsF; omega⟩, b3⟩
end PF
