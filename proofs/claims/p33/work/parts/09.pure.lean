/-! PURE: Euclid, radii -/
theorem eu_gcd {x y : Int} (hx : 0 ≤ x) (hy : 0 < y) : Int.gcd y (x % y) = Int.gcd x y := by
  obtain ⟨m, rfl⟩ := Int.eq_ofNat_of_zero_le hx
  obtain ⟨k, rfl⟩ := Int.eq_ofNat_of_zero_le (Int.le_of_lt hy)
  rw [← Int.natCast_emod]
  show Nat.gcd k (m % k) = Nat.gcd m k
  rw [Nat.gcd_comm m k, Nat.gcd_rec k m, Nat.gcd_comm]
theorem eu_half {x y : Int} (hy : 0 < y) (hxy : y < x) : 2 * (y * (x % y)) ≤ x * y := by
  have h1 : x % y < y := Int.emod_lt_of_pos x hy
  have h2 : y * (x / y) + x % y = x := Int.mul_ediv_add_emod x y
  have h3 : 1 ≤ x / y := by
    have : 1 * y ≤ x := by omega
    exact (Int.le_ediv_iff_mul_le hy).mpr this
  have h4 : y * 1 ≤ y * (x / y) := Int.mul_le_mul_of_nonneg_left h3 (Int.le_of_lt hy)
  have h5 : 2 * (x % y) ≤ x := by omega
  have h6 : y * (2 * (x % y)) ≤ y * x := Int.mul_le_mul_of_nonneg_left h5 (Int.le_of_lt hy)
  have h7 : y * (2 * (x % y)) = 2 * (y * (x % y)) := by rw [← Int.mul_assoc, Int.mul_comm y 2, Int.mul_assoc]
  rw [h7, Int.mul_comm y x] at h6
  exact h6
/-- what a round of Euclid's way does to the product -/
theorem eu_prod {x y r : Int} (hx : 0 < x) (hy : 0 < y) (hr : 0 ≤ r) (hr2 : r < 100) (h1 : x * y < 2 ^ (100 - r).toNat) (h2 : 0 < r → y < x) (h0 : r = 0 → x * y < 2 ^ 99) : y * (x % y) < 2 ^ (100 - (r + 1)).toNat := by
  have hm0 : 0 ≤ x % y := Int.emod_nonneg _ (by omega)
  by_cases h : r = 0
  · subst h
    have h3 := h0 rfl
    have h4 : x % y ≤ x := by
      by_cases hxy : x < y
      · rw [Int.emod_eq_of_lt (by omega) hxy]; omega
      · have := Int.emod_lt_of_pos x hy; omega
    have h5 : y * (x % y) ≤ y * x := Int.mul_le_mul_of_nonneg_left h4 (by omega)
    rw [Int.mul_comm y x] at h5
    exact Int.lt_of_le_of_lt h5 h3
  · have h3 := eu_half hy (h2 (by omega))
    have h4 : (100 - r).toNat = (100 - (r + 1)).toNat + 1 := by omega
    rw [h4, Int.pow_succ] at h1
    generalize (2 : Int) ^ (100 - (r + 1)).toNat = q at h1 ⊢
    omega
def gd (a b : Int) : Int := (Int.gcd a b : Int)
theorem gd_pos {a b : Int} (ha : 0 < a) : 0 < gd a b := by
  unfold gd
  have : 0 < Int.gcd a b := Int.gcd_pos_of_ne_zero_left b (by omega)
  omega
theorem gd_dvd_left (a b : Int) : gd a b ∣ a := Int.gcd_dvd_left a b
theorem gd_dvd_right (a b : Int) : gd a b ∣ b := Int.gcd_dvd_right a b
theorem mul_b {h t : Int} (h0 : 0 ≤ h) (h1 : h ≤ 20) (t0 : -60 ≤ t) (t1 : t ≤ 60) : -1200 ≤ h * t ∧ h * t ≤ 1200 := by
  have a1 : h * t ≤ h * 60 := Int.mul_le_mul_of_nonneg_left t1 h0
  have a2 : h * (-60) ≤ h * t := Int.mul_le_mul_of_nonneg_left t0 h0
  omega
/-- the radius of a pen -/
def rad (w sd ho u : Int) : Int := (if sd = 0 then 200 - w else 200 + w) + Int.tdiv (ho * (2 * (if 0 ≤ 2 * u - w then 2 * u - w else -(2 * u - w)) - w)) w
abbrev okL (w sd ho : Int) : Prop := 5 ≤ w ∧ w ≤ 60 ∧ 0 ≤ sd ∧ sd ≤ 1 ∧ 0 ≤ ho ∧ ho ≤ 20
theorem tdiv_b {a w k : Int} (hw : 0 < w) (h1 : -(k * w) ≤ a) (h2 : a ≤ k * w) : -k ≤ Int.tdiv a w ∧ Int.tdiv a w ≤ k := by
  by_cases h : 0 ≤ a
  · rw [tdiv_pos h]
    have h3 : 0 ≤ a / w := Int.ediv_nonneg h (by omega)
    have h4 : a / w ≤ k := Int.ediv_le_of_le_mul hw h2
    omega
  · have h3 : Int.tdiv a w = -((-a) / w) := by
      rw [← tdiv_pos (by omega : 0 ≤ -a), Int.neg_tdiv, Int.neg_neg]
    have h4 : 0 ≤ (-a) / w := Int.ediv_nonneg (by omega) (by omega)
    have h5 : (-a) / w ≤ k := Int.ediv_le_of_le_mul hw (by omega)
    omega
theorem rad_range {w sd ho u : Int} (h : okL w sd ho) (h0 : 0 ≤ u) (h1 : u < w) : 120 ≤ rad w sd ho u ∧ rad w sd ho u ≤ 280 := by
  obtain ⟨a1, a2, a3, a4, a5, a6⟩ := h
  unfold rad
  have hk : ∀ t : Int, -w ≤ t → t ≤ w → -20 ≤ Int.tdiv (ho * t) w ∧ Int.tdiv (ho * t) w ≤ 20 := by
    intro t t0 t1
    have b1 : ho * t ≤ ho * w := Int.mul_le_mul_of_nonneg_left t1 a5
    have b2 : ho * (-w) ≤ ho * t := Int.mul_le_mul_of_nonneg_left t0 a5
    have b3 : ho * w ≤ 20 * w := Int.mul_le_mul_of_nonneg_right a6 (by omega)
    have b4 : ho * (-w) = -(ho * w) := Int.mul_neg _ _
    exact tdiv_b (by omega) (by omega) (by omega)
  have h3 := hk (2 * (if 0 ≤ 2 * u - w then 2 * u - w else -(2 * u - w)) - w) (by split <;> omega) (by split <;> omega)
  split <;> omega
/-- the turns and the lobes -/
def tn (ring w : Int) : Int := w / gd ring w
def lb (ring w : Int) : Int := ring / gd ring w
def pd (ring w : Int) : Int := ring * tn ring w
theorem dv_pos {a d : Int} (ha : 0 < a) (hd : 0 < d) (h : d ∣ a) : 1 ≤ a / d ∧ a / d ≤ a ∧ a / d * d = a := by
  have h1 : a / d * d = a := Int.ediv_mul_cancel h
  have h2 : 0 < a / d := by
    by_cases h0 : 0 < a / d
    · exact h0
    · have h3 : a / d * d ≤ 0 * d := Int.mul_le_mul_of_nonneg_right (by omega) (by omega)
      omega
  have h4 : a / d * 1 ≤ a / d * d := Int.mul_le_mul_of_nonneg_left (by omega) (by omega)
  omega
theorem tn_range {ring w : Int} (hr : 0 < ring) (hw : 0 < w) : 1 ≤ tn ring w ∧ tn ring w ≤ w := by
  have := dv_pos hw (gd_pos (b := w) hr) (gd_dvd_right ring w)
  exact ⟨this.1, this.2.1⟩
theorem lb_range {ring w : Int} (hr : 0 < ring) : 1 ≤ lb ring w ∧ lb ring w ≤ ring := by
  have := dv_pos hr (gd_pos (b := w) hr) (gd_dvd_left ring w)
  exact ⟨this.1, this.2.1⟩
theorem pd_lb {ring w : Int} (hr : 0 < ring) (hw : 0 < w) : pd ring w = lb ring w * w := by
  have h1 := (dv_pos hw (gd_pos (b := w) hr) (gd_dvd_right ring w)).2.2
  have h2 := (dv_pos hr (gd_pos (b := w) hr) (gd_dvd_left ring w)).2.2
  unfold pd tn lb
  generalize gd ring w = d at h1 h2 ⊢
  calc ring * (w / d) = (ring / d * d) * (w / d) := by rw [h2]
    _ = ring / d * (w / d * d) := by rw [Int.mul_assoc, Int.mul_comm d]
    _ = ring / d * w := by rw [h1]
theorem ed_prod {a b : Int} (ha0 : 0 ≤ a) (ha : a ≤ 562949953421312) (hb0 : 0 ≤ b) (hb : b ≤ 562949953421312) : a * b < 2 ^ 99 := by
  have h1 : a * b ≤ 562949953421312 * b := Int.mul_le_mul_of_nonneg_right ha hb0
  have h2 : (562949953421312 : Int) * b ≤ 562949953421312 * 562949953421312 := Int.mul_le_mul_of_nonneg_left hb (by decide)
  have h3 : (562949953421312 : Int) * 562949953421312 < 2 ^ 99 := by decide
  exact Int.lt_of_le_of_lt (Int.le_trans h1 h2) h3
theorem ed_ini {a b : Int} (h : a * b < 2 ^ 99) : a * b < 2 ^ ((100 : Int) - 0).toNat := by
  have h3 : (2 : Int) ^ 99 < 2 ^ ((100 : Int) - 0).toNat := by decide
  exact Int.lt_trans h h3
theorem ed_end {x y : Int} (hx : 0 < x) (hy : 0 ≤ y) (h : x * y < 2 ^ ((100 : Int) - 100).toNat) : y = 0 := by
  have h3 : (2 : Int) ^ ((100 : Int) - 100).toNat = 1 := by decide
  rw [h3] at h
  by_cases h0 : y = 0
  · exact h0
  · have h1 : x * 1 ≤ x * y := Int.mul_le_mul_of_nonneg_left (by omega) (by omega)
    omega
theorem ed_gcd {x a b : Int} (hx : 0 ≤ x) (h : Int.gcd x 0 = Int.gcd a b) : x = gd a b := by
  unfold gd
  rw [← h, Int.gcd_zero_right]
  omega
theorem gd_le {a b : Int} (ha : 0 < a) : gd a b ≤ a := Int.le_of_dvd ha (gd_dvd_left a b)
/-- the first step of N with P, -9 if there is none -/
def isFirst (P : Int → Prop) (N z : Int) : Prop := (0 ≤ z ∧ z < N ∧ P z ∧ ∀ t, 0 ≤ t → t < z → ¬ P t) ∨ (z = -9 ∧ ∀ t, 0 ≤ t → t < N → ¬ P t)
theorem isFirst.uniq {P : Int → Prop} {N a b : Int} (ha : isFirst P N a) (hb : isFirst P N b) : a = b := by
  rcases ha with ⟨a0, a1, a2, a3⟩ | ⟨a0, a1⟩ <;> rcases hb with ⟨b0, b1, b2, b3⟩ | ⟨b0, b1⟩
  · by_cases h1 : a < b
    · exact absurd a2 (b3 a a0 h1)
    · by_cases h2 : b < a
      · exact absurd b2 (a3 b b0 h2)
      · omega
  · exact absurd a2 (b1 a a0 a1)
  · exact absurd b2 (a1 b b0 b1)
  · omega
theorem isFirst.iff {P Q : Int → Prop} {N a : Int} (ha : isFirst P N a) (h : ∀ t, 0 ≤ t → t < N → (P t ↔ Q t)) : isFirst Q N a := by
  rcases ha with ⟨a0, a1, a2, a3⟩ | ⟨a0, a1⟩
  · exact Or.inl ⟨a0, a1, (h a a0 a1).mp a2, fun t t0 t1 q => a3 t t0 t1 ((h t t0 (by omega)).mpr q)⟩
  · exact Or.inr ⟨a0, fun t t0 t1 q => a1 t t0 t1 ((h t t0 t1).mpr q)⟩
theorem isFirst.none {P : Int → Prop} {N a : Int} (ha : isFirst P N a) : (a = -9) ↔ ∀ t, 0 ≤ t → t < N → ¬ P t := by
  rcases ha with ⟨a0, a1, a2, a3⟩ | ⟨a0, a1⟩
  · exact ⟨fun h => by omega, fun h => absurd a2 (h a a0 a1)⟩
  · exact ⟨fun _ => a1, fun _ => a0⟩
theorem isFirst.rg {P : Int → Prop} {N a : Int} (ha : isFirst P N a) : a = -9 ∨ (0 ≤ a ∧ a < N) := by
  rcases ha with ⟨a0, a1, a2, a3⟩ | ⟨a0, a1⟩
  · exact Or.inr ⟨a0, a1⟩
  · exact Or.inl a0
def mnf (f : Int → Int) : Nat → Int
  | 0 => f 0
  | k + 1 => min (mnf f k) (f ((k : Int) + 1))
def mxf (f : Int → Int) : Nat → Int
  | 0 => f 0
  | k + 1 => max (mxf f k) (f ((k : Int) + 1))
theorem mnf_step (f : Int → Int) {u : Int} (h : 1 ≤ u) : mnf f (u + 1 - 1).toNat = min (mnf f (u - 1).toNat) (f u) := by
  have h1 : (u + 1 - 1).toNat = (u - 1).toNat + 1 := by omega
  have h2 : (((u - 1).toNat : Nat) : Int) + 1 = u := by omega
  rw [h1]
  show min (mnf f (u - 1).toNat) (f ((((u - 1).toNat : Nat) : Int) + 1)) = _
  rw [h2]
theorem mxf_step (f : Int → Int) {u : Int} (h : 1 ≤ u) : mxf f (u + 1 - 1).toNat = max (mxf f (u - 1).toNat) (f u) := by
  have h1 : (u + 1 - 1).toNat = (u - 1).toNat + 1 := by omega
  have h2 : (((u - 1).toNat : Nat) : Int) + 1 = u := by omega
  rw [h1]
  show max (mxf f (u - 1).toNat) (f ((((u - 1).toNat : Nat) : Int) + 1)) = _
  rw [h2]
theorem mul_r {a b x y : Int} (a0 : 0 ≤ a) (a1 : a ≤ x) (b0 : 0 ≤ b) (b1 : b ≤ y) : 0 ≤ a * b ∧ a * b ≤ x * y := by
  have h1 : 0 * b ≤ a * b := Int.mul_le_mul_of_nonneg_right a0 b0
  have h2 : a * b ≤ x * b := Int.mul_le_mul_of_nonneg_right a1 b0
  have h3 : x * b ≤ x * y := Int.mul_le_mul_of_nonneg_left b1 (by omega)
  omega
theorem ang_iff {ring st0 angle t : Int} (hr : 0 < ring) (hs : 0 ≤ st0 ∧ st0 < ring) (ha : 0 ≤ angle ∧ angle < ring) : (st0 + t) % ring = angle ↔ t % ring = (angle - st0 + ring) % ring := by
  rw [Int.add_emod_right]
  constructor
  · intro h
    have h1 : t = st0 + t - st0 := by omega
    rw [h1, Int.sub_emod, h]
    rw [Int.sub_emod angle st0 ring, Int.emod_eq_of_lt ha.1 ha.2]
  · intro h
    rw [Int.add_emod, h, ← Int.add_emod, show st0 + (angle - st0) = angle by omega, Int.emod_eq_of_lt ha.1 ha.2]
/-- the steps of one angle: first, first + ring .. -/
theorem fs_steps {ring first tu t : Int} (hr : 0 < ring) (hf : 0 ≤ first ∧ first < ring) (t0 : 0 ≤ t) (t1 : t < ring * tu) (h : t % ring = first) : ∃ k, 0 ≤ k ∧ k < tu ∧ t = first + k * ring := by
  have h2 : ring * (t / ring) + t % ring = t := Int.mul_ediv_add_emod t ring
  refine ⟨t / ring, Int.ediv_nonneg t0 (by omega), Int.ediv_lt_of_lt_mul hr (by rw [Int.mul_comm]; exact t1), ?_⟩
  rw [Int.mul_comm (t / ring)]
  omega
theorem fs_found {ring st0 angle w sd ho radius k : Int} (hr : 0 < ring) (hw : 0 < w) (hs : 0 ≤ st0 ∧ st0 < ring) (ha : 0 ≤ angle ∧ angle < ring) {first : Int} (hf : first = (angle - st0 + ring) % ring) (k0 : 0 ≤ k) (k1 : k < tn ring w) (hk : rad w sd ho ((first + k * ring) % w) = radius) (hb : ∀ j, 0 ≤ j → j < k → rad w sd ho ((first + j * ring) % w) ≠ radius) :
    isFirst (fun t => (st0 + t) % ring = angle ∧ rad w sd ho (t % w) = radius) (pd ring w) (first + k * ring) := by
  have f0 : 0 ≤ first ∧ first < ring := by rw [hf]; exact ⟨Int.emod_nonneg _ (by omega), Int.emod_lt_of_pos _ hr⟩
  have m0 : 0 ≤ k * ring := Int.mul_nonneg k0 (by omega)
  have m1 : (k + 1) * ring ≤ tn ring w * ring := Int.mul_le_mul_of_nonneg_right (by omega) (by omega)
  have m2 : (k + 1) * ring = k * ring + ring := by rw [Int.add_mul, Int.one_mul]
  have m3 : pd ring w = tn ring w * ring := by unfold pd; rw [Int.mul_comm]
  refine Or.inl ⟨by omega, by omega, ⟨?_, hk⟩, ?_⟩
  · rw [ang_iff hr hs ha, Int.add_mul_emod_self_right, ← hf, Int.emod_eq_of_lt f0.1 f0.2]
  · intro t t0 t1 ⟨q1, q2⟩
    rw [ang_iff hr hs ha, ← hf] at q1
    obtain ⟨j, j0, j1, rfl⟩ := fs_steps hr f0 t0 (show t < ring * tn ring w by rw [Int.mul_comm]; omega) q1
    have : j < k := by
      by_cases hjk : j < k
      · exact hjk
      · have : k * ring ≤ j * ring := Int.mul_le_mul_of_nonneg_right (by omega) (by omega)
        omega
    exact hb j j0 this q2
theorem fs_none {ring st0 angle w sd ho radius : Int} (hr : 0 < ring) (hw : 0 < w) (hs : 0 ≤ st0 ∧ st0 < ring) (ha : 0 ≤ angle ∧ angle < ring) {first : Int} (hf : first = (angle - st0 + ring) % ring) (hb : ∀ j, 0 ≤ j → j < tn ring w → rad w sd ho ((first + j * ring) % w) ≠ radius) :
    isFirst (fun t => (st0 + t) % ring = angle ∧ rad w sd ho (t % w) = radius) (pd ring w) (-9) := by
  have f0 : 0 ≤ first ∧ first < ring := by rw [hf]; exact ⟨Int.emod_nonneg _ (by omega), Int.emod_lt_of_pos _ hr⟩
  refine Or.inr ⟨rfl, ?_⟩
  intro t t0 t1 ⟨q1, q2⟩
  rw [ang_iff hr hs ha, ← hf] at q1
  obtain ⟨j, j0, j1, rfl⟩ := fs_steps hr f0 t0 t1 q1
  exact hb j j0 j1 q2
theorem gu_up {α : Type} (g : Nat → α) (k : Nat) (x y : α) : va_up (va_up g k x) k y = va_up g k y := by
  funext j
  by_cases h : j = k <;> simp [va_up, h]
abbrev oL (w sd ho st0 : Int) : va_E := .inr (3, [.int (iz w), .int (iz sd), .int (iz ho), .int (iz st0)])
theorem lcm_range {a b : Int} (a0 : 5 ≤ a) (a1 : a ≤ 60) (b0 : 5 ≤ b) (b1 : b ≤ 60) : 1 ≤ a / gd a b * b ∧ a / gd a b * b ≤ 3600 := by
  have h := dv_pos (show 0 < a by omega) (gd_pos (b := b) (show 0 < a by omega)) (gd_dvd_left a b)
  have h2 := mul_r (a := a / gd a b) (b := b) (x := 60) (y := 60) (by omega) (by omega) (by omega) (by omega)
  have h3 : 1 * b ≤ a / gd a b * b := Int.mul_le_mul_of_nonneg_right h.1 (by omega)
  omega
