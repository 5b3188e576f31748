/-! BITS: raw longs by naturals, Long.bitCount -/
abbrev aW (κ : gKap) (len : Nat) (W9 : Int → Nat) : va_E := aJ κ len (fun i => lN (W9 i))
def vuN (f : Int → Nat) (z : Int) (x : Nat) : Int → Nat := fun i => if i = z then x else f i
theorem vuJ_N (f : Int → Nat) (z : Int) (x : Nat) : vuJ (fun i => lN (f i)) z (lN x) = fun i => lN (vuN f z x i) := by
  funext i
  by_cases h : i = z <;> simp [vuJ, vuN, h]
theorem lN_inj {a b : Nat} (ha : a < 2 ^ 64) (hb : b < 2 ^ 64) : lN a = lN b ↔ a = b := by
  constructor
  · intro h
    have h1 : BitVec.ofNat 64 a = BitVec.ofNat 64 b := congrArg Int64.toBitVec h
    have h2 := congrArg BitVec.toNat h1
    rw [BitVec.toNat_ofNat, BitVec.toNat_ofNat, Nat.mod_eq_of_lt ha, Nat.mod_eq_of_lt hb] at h2
    exact h2
  · intro h
    rw [h]
theorem lN_shr {x : Nat} (hx : x < 2 ^ 64) {k : Int} {j : Nat} (hk : (iz k).toInt64.toUInt64 &&& Int64.toUInt64 63 = UInt64.ofNat j) (hj : j < 64) : ((lN x).toUInt64 >>> ((iz k).toInt64.toUInt64 &&& Int64.toUInt64 63)).toInt64 = lN (x / 2 ^ j) := by
  rw [hk]
  apply Int64.toBitVec_inj.1
  show ((lN x).toUInt64 >>> UInt64.ofNat j).toBitVec = BitVec.ofNat 64 (x / 2 ^ j)
  apply BitVec.eq_of_toNat_eq
  have h1 : ((lN x).toUInt64).toNat = x := by
    show (BitVec.ofNat 64 x).toNat = x
    rw [BitVec.toNat_ofNat, Nat.mod_eq_of_lt hx]
  have h2 : (UInt64.ofNat j).toNat = j := by
    rw [UInt64.toNat_ofNat']
    omega
  show ((lN x).toUInt64 >>> UInt64.ofNat j).toNat = _
  rw [UInt64.toNat_shiftRight, h1, h2, BitVec.toNat_ofNat, Nat.mod_eq_of_lt hj, Nat.shiftRight_eq_div_pow]
  have h3 : x / 2 ^ j ≤ x := Nat.div_le_self _ _
  rw [Nat.mod_eq_of_lt (by omega)]
theorem lN_l2i (x : Nat) : (lN x).toInt32 = iz (x : Int) := by
  have h : lN x = Int64.ofInt (x : Int) := Int64.ofInt_eq_ofNat.symm
  rw [h]
  exact Int64.toInt32_ofInt
theorem iz_and (a b : Nat) : iz (a : Int) &&& iz (b : Int) = iz ((a &&& b : Nat) : Int) := by
  rw [iz_nI, iz_nI, iz_nI]
  apply Int32.toBitVec_inj.1
  show BitVec.ofNat 32 a &&& BitVec.ofNat 32 b = BitVec.ofNat 32 (a &&& b)
  exact BitVec.ofNat_and.symm
section GN
variable {p : Program} {l : Launch} {e : Env} {R : Room} {s : State} {m : MethodId} {args : Array Value} {below : List Frame} {meth : Method} {c : Code} {H : Heap} {locs : List Loc} {cells slots : Nat} {Q : State → Prop}
variable {cc : ByteArray} {nL pc : Nat} {ls : Array Slot} {rest : List Value} {Ts : List Cond} {own : String} {κ : gKap} {B n : Nat} {ad : Nat → Nat} {g : Nat → va_E}
theorem g_lushrN (C : gC p c cc nL s m args Ts own κ B n ad) {x : Nat} {k : Int} (j : Nat) (hk : (iz k).toInt64.toUInt64 &&& Int64.toUInt64 63 = UInt64.ofNat j) (hj : j < 64) (hx : x < 2 ^ 64) (d : decode cc pc = .ok (.lushr, 1)) (kk : W p l e R s m args below meth c H locs cells slots Q (F0 m (pc + 1) ls (.long (lN (x / 2 ^ j)) :: rest))) : W p l e R s m args below meth c H locs cells slots Q (F0 m pc ls (.int (iz k) :: .long (lN x) :: rest)) :=
  lv_lushr C.1.1 C.1.2.1 d (lN_shr hx hk hj) kk
theorem g_landN (C : gC p c cc nL s m args Ts own κ B n ad) {a b : Nat} (d : decode cc pc = .ok (.land, 1)) (kk : W p l e R s m args below meth c H locs cells slots Q (F0 m (pc + 1) ls (.long (lN (a &&& b)) :: rest))) : W p l e R s m args below meth c H locs cells slots Q (F0 m pc ls (.long (lN b) :: .long (lN a) :: rest)) := by
  refine lv_land C.1.1 C.1.2.1 d ?_
  rw [fb_andL]
  exact kk
theorem g_lorN (C : gC p c cc nL s m args Ts own κ B n ad) {a b : Nat} (d : decode cc pc = .ok (.lor, 1)) (kk : W p l e R s m args below meth c H locs cells slots Q (F0 m (pc + 1) ls (.long (lN (a ||| b)) :: rest))) : W p l e R s m args below meth c H locs cells slots Q (F0 m pc ls (.long (lN b) :: .long (lN a) :: rest)) := by
  refine lv_lor C.1.1 C.1.2.1 d ?_
  rw [fb_orL]
  exact kk
theorem g_laddN (C : gC p c cc nL s m args Ts own κ B n ad) {a b : Nat} (d : decode cc pc = .ok (.ladd, 1)) (kk : W p l e R s m args below meth c H locs cells slots Q (F0 m (pc + 1) ls (.long (lN (a + b)) :: rest))) : W p l e R s m args below meth c H locs cells slots Q (F0 m pc ls (.long (lN b) :: .long (lN a) :: rest)) := by
  refine lv_ladd C.1.1 C.1.2.1 d ?_
  rw [lN_add]
  exact kk
theorem g_lsubN (C : gC p c cc nL s m args Ts own κ B n ad) {a b : Nat} (h : b ≤ a) (d : decode cc pc = .ok (.lsub, 1)) (kk : W p l e R s m args below meth c H locs cells slots Q (F0 m (pc + 1) ls (.long (lN (a - b)) :: rest))) : W p l e R s m args below meth c H locs cells slots Q (F0 m pc ls (.long (lN b) :: .long (lN a) :: rest)) := by
  refine lv_lsub C.1.1 C.1.2.1 d ?_
  rw [lN_sub h]
  exact kk
theorem g_l2iN (C : gC p c cc nL s m args Ts own κ B n ad) {x : Nat} (d : decode cc pc = .ok (.l2i, 1)) (k : W p l e R s m args below meth c H locs cells slots Q (F0 m (pc + 1) ls (.int (iz (x : Int)) :: rest))) : W p l e R s m args below meth c H locs cells slots Q (F0 m pc ls (.long (lN x) :: rest)) :=
  lv_l2i C.1.1 C.1.2.1 d (lN_l2i x) k
theorem g_iandN (C : gC p c cc nL s m args Ts own κ B n ad) {a b : Nat} (d : decode cc pc = .ok (.iand, 1)) (k : W p l e R s m args below meth c H locs cells slots Q (F0 m (pc + 1) ls (.int (iz ((a &&& b : Nat) : Int)) :: rest))) : W p l e R s m args below meth c H locs cells slots Q (F0 m pc ls (.int (iz (b : Int)) :: .int (iz (a : Int)) :: rest)) := by
  refine lv_iand C.1.1 C.1.2.1 d ?_
  rw [iz_and]
  exact k
theorem g_ldc2N (C : gC p c cc nL s m args Ts own κ B n ad) {index : Nat} {a : Nat} (hc : Jvm.Cond.constantLong own index (lN a) ∈ Ts) (d : decode cc pc = .ok (.ldc2_w index, 3)) (k : W p l e R s m args below meth c H locs cells slots Q (F0 m (pc + 3) ls (.long (lN a) :: rest))) : W p l e R s m args below meth c H locs cells slots Q (F0 m pc ls rest) := lv_ldc2 C.1.1 C.1.2.1 C.1.2.2.2.1 (C.1.2.2.2.2 _ hc) d k
theorem g_lconstN (C : gC p c cc nL s m args Ts own κ B n ad) {i : Fin 2} {a : Nat} (d : decode cc pc = .ok (.lconst i, 1)) (hi : (i : Nat) = a) (k : W p l e R s m args below meth c H locs cells slots Q (F0 m (pc + 1) ls (.long (lN a) :: rest))) : W p l e R s m args below meth c H locs cells slots Q (F0 m pc ls rest) := lv_lconst C.1.1 C.1.2.1 d (by rw [hi]; rfl) k
theorem sh1 : ∀ k : Fin 64, lN 1 <<< ((iz (k.val : Int)).toInt64 &&& 63) = lN (2 ^ k.val) := by decide +kernel
theorem g_lshl1 (C : gC p c cc nL s m args Ts own κ B n ad) {k : Int} (h0 : 0 ≤ k) (h1 : k < 64) (d : decode cc pc = .ok (.lshl, 1)) (kk : W p l e R s m args below meth c H locs cells slots Q (F0 m (pc + 1) ls (.long (lN (2 ^ k.toNat)) :: rest))) : W p l e R s m args below meth c H locs cells slots Q (F0 m pc ls (.int (iz k) :: .long (lN 1) :: rest)) := by
  refine lv_lshl C.1.1 C.1.2.1 d ?_ kk
  have h := sh1 ⟨k.toNat, by omega⟩
  rw [show ((⟨k.toNat, by omega⟩ : Fin 64).val : Int) = k from Int.toNat_of_nonneg h0] at h
  exact h
theorem g_lcmpN (C : gC p c cc nL s m args Ts own κ B n ad) {a b : Nat} (ha : a < 2 ^ 64) (hb : b < 2 ^ 64) (d : decode cc pc = .ok (.lcmp, 1)) (k : ∀ z : Int, ((a = b ∧ z = 0) ∨ (a ≠ b ∧ (z = 1 ∨ z = -1))) → W p l e R s m args below meth c H locs cells slots Q (F0 m (pc + 1) ls (.int (iz z) :: rest))) : W p l e R s m args below meth c H locs cells slots Q (F0 m pc ls (.long (lN b) :: .long (lN a) :: rest)) := by
  refine W.lcmp C.1.1 C.1.2.1 d ?_
  by_cases h : a = b
  · subst h
    have h6 : lg_cmp (lN a) (lN a) = iz 0 := by
      unfold lg_cmp
      have : ¬ (lN a > lN a) := fun q => by
        have q1 := Int64.lt_iff_toInt_lt.mp q
        omega
      rw [if_neg this, if_pos rfl]; rfl
    rw [h6]
    exact k 0 (Or.inl ⟨rfl, rfl⟩)
  · have h4 : ¬ lN a = lN b := fun q => h ((lN_inj ha hb).mp q)
    by_cases h5 : lN a > lN b
    · have h6 : lg_cmp (lN a) (lN b) = iz 1 := by unfold lg_cmp; rw [if_pos h5]; rfl
      rw [h6]
      exact k 1 (Or.inr ⟨h, Or.inl rfl⟩)
    · have h6 : lg_cmp (lN a) (lN b) = iz (-1) := by unfold lg_cmp; rw [if_neg h5, if_neg h4]; rfl
      rw [h6]
      exact k (-1) (Or.inr ⟨h, Or.inr rfl⟩)
theorem g_lastoreN (C : gC p c cc nL s m args Ts own κ B n ad) (G : gG κ B n ad s g H locs) {pos len : Nat} {z : Int} {x : Nat} {W9 : Int → Nat} (hp : pos < n) (he : g pos = aW κ len W9) (h0 : 0 ≤ z) (h1 : z < (len : Int)) (h2 : z ≤ 2147483647) (d : decode cc pc = .ok (.lastore, 1)) (kk : ∀ (H : Heap) (locs : List Loc), gG κ B n ad s (va_up g pos (aW κ len (vuN W9 z x))) H locs → W p l e R s m args below meth c H locs cells slots Q (F0 m (pc + 1) ls rest)) : W p l e R s m args below meth c H locs cells slots Q (F0 m pc ls (.long (lN x) :: .int (iz z) :: .ref (ad pos) :: rest)) := by
  refine g_lastore C G hp he h0 h1 h2 d (fun H locs G => ?_)
  rw [vuJ_N] at G
  exact kk H locs G
end GN
/-! how many bits -/
theorem and_blk {b c9 y M : Nat} (hb : b < 256) (hc : c9 < 256) : (b + 256 * y) &&& (c9 + 256 * M) = (b &&& c9) + 256 * (y &&& M) := by
  have h1 := Nat.and_mod_two_pow (a := b + 256 * y) (b := c9 + 256 * M) (n := 8)
  have h2 := Nat.and_div_two_pow (a := b + 256 * y) (b := c9 + 256 * M) (n := 8)
  rw [show (b + 256 * y) % 2 ^ 8 = b by omega, show (c9 + 256 * M) % 2 ^ 8 = c9 by omega] at h1
  rw [show (b + 256 * y) / 2 ^ 8 = y by omega, show (c9 + 256 * M) / 2 ^ 8 = M by omega] at h2
  generalize (b + 256 * y) &&& (c9 + 256 * M) = q at h1 h2 ⊢
  omega
def mk9 (c9 : Nat) : Nat → Nat
  | 0 => 0
  | k + 1 => c9 + 256 * mk9 c9 k
def s19 (x M : Nat) : Nat := x - ((x / 2) &&& M)
def s29 (x M : Nat) : Nat := (x &&& M) + ((x / 4) &&& M)
def s39 (x M : Nat) : Nat := (x + x / 16) &&& M
def pc9 (b : Nat) : Nat := s39 (s29 (s19 b 85) 51) 15
theorem s1_lo : ∀ b, b < 256 → ∀ r, r < 2 → (b / 2 + 128 * r) &&& 85 = (b / 2) &&& 85 := by decide +kernel
theorem s2_lo : ∀ b, b < 256 → ∀ r, r < 4 → (b / 4 + 64 * r) &&& 51 = (b / 4) &&& 51 := by decide +kernel
theorem s12_b : ∀ b, b < 256 → s19 b 85 < 256 ∧ s29 (s19 b 85) 51 < 256 ∧ s29 (s19 b 85) 51 % 16 ≤ 4 ∧ s29 (s19 b 85) 51 / 16 ≤ 4 := by decide +kernel
theorem s3_lo : ∀ c9, c9 < 69 → c9 % 16 ≤ 4 → ∀ r, r < 5 → (c9 + c9 / 16 + 16 * r) &&& 15 = (c9 + c9 / 16) &&& 15 := by decide +kernel
theorem pc9_b : ∀ b, b < 256 → pc9 b = fb_ct (fun k => b.testBit k) 8 ∧ pc9 b ≤ 8 := by decide +kernel
theorem s19_blk {b y M : Nat} (hb : b < 256) : s19 (b + 256 * y) (85 + 256 * M) = s19 b 85 + 256 * s19 y M := by
  unfold s19
  have h1 : (b + 256 * y) / 2 = (b / 2 + 128 * (y % 2)) + 256 * (y / 2) := by omega
  rw [h1, and_blk (by omega) (by omega), s1_lo b hb _ (by omega)]
  have h2 : (b / 2) &&& 85 ≤ b / 2 := Nat.and_le_left
  have h3 : (y / 2) &&& M ≤ y / 2 := Nat.and_le_left
  omega
theorem s29_blk {b y M : Nat} (hb : b < 256) : s29 (b + 256 * y) (51 + 256 * M) = s29 b 51 + 256 * s29 y M := by
  unfold s29
  have h1 : (b + 256 * y) / 4 = (b / 4 + 64 * (y % 4)) + 256 * (y / 4) := by omega
  rw [h1, and_blk hb (by omega), and_blk (by omega) (by omega), s2_lo b hb _ (by omega)]
  omega
def c29 (x k : Nat) : Nat := s29 (s19 x (mk9 85 k)) (mk9 51 k)
theorem c29_blk {b y k : Nat} (hb : b < 256) : c29 (b + 256 * y) (k + 1) = s29 (s19 b 85) 51 + 256 * c29 y k := by
  unfold c29
  show s29 (s19 (b + 256 * y) (85 + 256 * mk9 85 k)) (51 + 256 * mk9 51 k) = _
  rw [s19_blk hb, s29_blk (s12_b b hb).1]
theorem c29_0 : c29 0 0 = 0 := by decide
theorem c29_lo {y k : Nat} (hy : y < 256 ^ k) : c29 y k % 16 ≤ 4 := by
  cases k with
  | zero =>
    have : y = 0 := by
      rw [Nat.pow_zero] at hy
      omega
    subst this
    rw [c29_0]
    omega
  | succ k =>
    have h1 : y = y % 256 + 256 * (y / 256) := by omega
    rw [h1, c29_blk (by omega)]
    have := (s12_b (y % 256) (by omega)).2.2.1
    omega
def t39 (x k : Nat) : Nat := s39 (c29 x k) (mk9 15 k)
theorem t39_blk {b y k : Nat} (hb : b < 256) (hy : y < 256 ^ k) : t39 (b + 256 * y) (k + 1) = pc9 b + 256 * t39 y k := by
  unfold t39
  rw [c29_blk hb]
  have h1 := c29_lo hy
  obtain ⟨-, h2, h3, h4⟩ := s12_b b hb
  show s39 (s29 (s19 b 85) 51 + 256 * c29 y k) (15 + 256 * mk9 15 k) = pc9 b + 256 * s39 (c29 y k) (mk9 15 k)
  unfold pc9
  generalize c29 y k = z at h1 ⊢
  generalize s29 (s19 b 85) 51 = c9 at h2 h3 h4 ⊢
  unfold s39
  have h5 : c9 + 256 * z + (c9 + 256 * z) / 16 = (c9 + c9 / 16 + 16 * (z % 16)) + 256 * (z + z / 16) := by omega
  rw [h5, and_blk (by omega) (by omega), s3_lo c9 (by omega) h3 _ (by omega)]
theorem ct_blk {b y : Nat} (hb : b < 256) (k : Nat) : fb_ct (fun i => (b + 256 * y).testBit i) (8 + k) = fb_ct (fun i => b.testBit i) 8 + fb_ct (fun i => y.testBit i) k := by
  rw [fb_ct_split]
  have h : ∀ i, (b + 256 * y).testBit i = if i < 8 then b.testBit i else y.testBit (i - 8) := by
    intro i
    have := Nat.testBit_two_pow_mul_add y (b := b) (i := 8) (by omega) i
    rw [show 2 ^ 8 * y + b = b + 256 * y by omega] at this
    exact this
  congr 1
  · exact fb_ct_cong (fun i hi => by rw [h i, if_pos hi])
  · exact fb_ct_cong (fun i _ => by
      show (b + 256 * y).testBit (8 + i) = _
      rw [h (8 + i), if_neg (by omega), show 8 + i - 8 = i by omega])
theorem bits_64 {x : Nat} (hx : x < 2 ^ 64) : ∃ p0 p1 p2 p3 p4 p5 p6 p7 : Nat, p0 ≤ 8 ∧ p1 ≤ 8 ∧ p2 ≤ 8 ∧ p3 ≤ 8 ∧ p4 ≤ 8 ∧ p5 ≤ 8 ∧ p6 ≤ 8 ∧ p7 ≤ 8 ∧ t39 x 8 = p0 + 256 * (p1 + 256 * (p2 + 256 * (p3 + 256 * (p4 + 256 * (p5 + 256 * (p6 + 256 * p7)))))) ∧ fb_ct (fun k => x.testBit k) 64 = p0 + p1 + p2 + p3 + p4 + p5 + p6 + p7 := by
  obtain ⟨x1, hx1⟩ : ∃ x1, x1 = x / 256 := ⟨_, rfl⟩
  obtain ⟨x2, hx2⟩ : ∃ x2, x2 = x1 / 256 := ⟨_, rfl⟩
  obtain ⟨x3, hx3⟩ : ∃ x3, x3 = x2 / 256 := ⟨_, rfl⟩
  obtain ⟨x4, hx4⟩ : ∃ x4, x4 = x3 / 256 := ⟨_, rfl⟩
  obtain ⟨x5, hx5⟩ : ∃ x5, x5 = x4 / 256 := ⟨_, rfl⟩
  obtain ⟨x6, hx6⟩ : ∃ x6, x6 = x5 / 256 := ⟨_, rfl⟩
  obtain ⟨x7, hx7⟩ : ∃ x7, x7 = x6 / 256 := ⟨_, rfl⟩
  have e : ∀ (y z k : Nat), z = y / 256 → y < 256 ^ (k + 1) → t39 y (k + 1) = pc9 (y % 256) + 256 * t39 z k ∧ fb_ct (fun i => y.testBit i) (8 + 8 * k) = pc9 (y % 256) + fb_ct (fun i => z.testBit i) (8 * k) ∧ pc9 (y % 256) ≤ 8 ∧ z < 256 ^ k := by
    intro y z k hz hy
    have h1 : y = y % 256 + 256 * z := by omega
    have h2 : z < 256 ^ k := by
      rw [Nat.pow_succ] at hy
      generalize 256 ^ k = q at hy ⊢
      omega
    have h3 := t39_blk (b := y % 256) (y := z) (k := k) (by omega) h2
    have h4 := ct_blk (b := y % 256) (y := z) (by omega) (8 * k)
    rw [← h1] at h3 h4
    have h5 := pc9_b (y % 256) (by omega)
    exact ⟨h3, by rw [h4, h5.1], h5.2, h2⟩
  obtain ⟨a0, b0, c0, d0⟩ := e x x1 7 hx1 (by omega)
  obtain ⟨a1, b1, c1, d1⟩ := e x1 x2 6 hx2 d0
  obtain ⟨a2, b2, c2, d2⟩ := e x2 x3 5 hx3 d1
  obtain ⟨a3, b3, c3, d3⟩ := e x3 x4 4 hx4 d2
  obtain ⟨a4, b4, c4, d4⟩ := e x4 x5 3 hx5 d3
  obtain ⟨a5, b5, c5, d5⟩ := e x5 x6 2 hx6 d4
  obtain ⟨a6, b6, c6, d6⟩ := e x6 x7 1 hx7 d5
  obtain ⟨a7, b7, c7, d7⟩ := e x7 (x7 / 256) 0 rfl d6
  have hz : x7 / 256 = 0 := by omega
  have ht : t39 (x7 / 256) 0 = 0 := by rw [hz]; decide
  have hf : fb_ct (fun i => (x7 / 256).testBit i) (8 * 0) = 0 := rfl
  refine ⟨_, _, _, _, _, _, _, _, c0, c1, c2, c3, c4, c5, c6, c7, ?_, ?_⟩
  · rw [a0, a1, a2, a3, a4, a5, a6, a7, ht, Nat.mul_zero, Nat.add_zero]
  · have f0 : fb_ct (fun k => x.testBit k) 64 = _ := b0
    have f1 : fb_ct (fun k => x1.testBit k) (8 * 7) = _ := b1
    have f2 : fb_ct (fun k => x2.testBit k) (8 * 6) = _ := b2
    have f3 : fb_ct (fun k => x3.testBit k) (8 * 5) = _ := b3
    have f4 : fb_ct (fun k => x4.testBit k) (8 * 4) = _ := b4
    have f5 : fb_ct (fun k => x5.testBit k) (8 * 3) = _ := b5
    have f6 : fb_ct (fun k => x6.testBit k) (8 * 2) = _ := b6
    have f7 : fb_ct (fun k => x7.testBit k) (8 * 1) = _ := b7
    rw [f0, f1, f2, f3, f4, f5, f6, f7, hf]
    omega
theorem mk9_85 : mk9 85 8 = 6148914691236517205 := by decide
theorem mk9_51 : mk9 51 8 = 3689348814741910323 := by decide
theorem mk9_15 : mk9 15 8 = 1085102592571150095 := by decide
theorem sm_step {k num z : Int} {W9 : Int → Nat} (hk : 0 ≤ k) (hn : num = (fb_sm (fun j => fb_ct (fun b => (W9 (j : Int)).testBit b) 64) k.toNat : Int)) (hz : z = (fb_ct (fun b => (W9 k).testBit b) 64 : Int)) : num + z = (fb_sm (fun j => fb_ct (fun b => (W9 (j : Int)).testBit b) 64) (k + 1).toNat : Int) := by
  have h1 : (k + 1).toNat = k.toNat + 1 := by omega
  have h2 : ((k.toNat : Nat) : Int) = k := Int.toNat_of_nonneg hk
  rw [h1, fb_sm_succ, hn, hz]
  show (_ : Int) + (_ : Int) = ((_ + fb_ct (fun b => (W9 ((k.toNat : Nat) : Int)).testBit b) 64 : Nat) : Int)
  rw [h2]
  omega
/-! sets of points and their words -/
noncomputable def dB (P : Prop) : Bool := @decide P (Classical.propDecidable P)
theorem dB_iff {P : Prop} : dB P = true ↔ P := @decide_eq_true_iff P (Classical.propDecidable P)
theorem dB_of {x : Bool} {P : Prop} (h : x = true ↔ P) : x = dB P := by
  have h2 : x = true ↔ dB P = true := h.trans dB_iff.symm
  cases x <;> cases hd : dB P <;> simp_all
theorem dB_congr {P Q : Prop} (h : P ↔ Q) : dB P = dB Q := dB_of (dB_iff.trans h)
def repW (W9 : Int → Nat) (S : Int → Int → Prop) : Prop := ∀ i : Int, 0 ≤ i → i < 602 → W9 i < 2 ^ 64 ∧ ∀ b : Nat, b < 64 → ((W9 i).testBit b = true ↔ S (64 * (i % 2) + b) (i / 2))
theorem repW.zero {W9 : Int → Nat} (h : ∀ i, 0 ≤ i → i < 602 → W9 i = 0) : repW W9 (fun _ _ => False) := by
  intro i i0 i1
  rw [h i i0 i1]
  exact ⟨by omega, fun b _ => by simp⟩
theorem repW.iff {W9 : Int → Nat} {S S' : Int → Int → Prop} (h : repW W9 S) (hs : ∀ a r, 0 ≤ a → a < 128 → 0 ≤ r → r ≤ 300 → (S a r ↔ S' a r)) : repW W9 S' := by
  intro i i0 i1
  refine ⟨(h i i0 i1).1, fun b hb => ((h i i0 i1).2 b hb).trans (hs _ _ (by omega) (by omega) (by omega) (by omega))⟩
theorem repW.cut {W9 : Int → Nat} {S : Int → Int → Prop} {a r : Int} (h : repW W9 S) (ha : 0 ≤ a ∧ a < 96) (hr : 0 ≤ r ∧ r ≤ 300) : repW (vuN W9 (2 * r + a / 64) (W9 (2 * r + a / 64) ||| 2 ^ (a % 64).toNat)) (fun a' r' => S a' r' ∨ (a' = a ∧ r' = r)) := by
  intro i i0 i1
  obtain ⟨h1, h2⟩ := h i i0 i1
  by_cases hi : i = 2 * r + a / 64
  · rw [show vuN W9 (2 * r + a / 64) (W9 (2 * r + a / 64) ||| 2 ^ (a % 64).toNat) i = W9 i ||| 2 ^ (a % 64).toNat from by simp [vuN, hi]]
    refine ⟨Nat.or_lt_two_pow h1 (Nat.pow_lt_pow_right (by omega) (by omega)), fun b hb => ?_⟩
    rw [fb_bit_set, Bool.or_eq_true, h2 b hb, decide_eq_true_iff]
    constructor
    · rintro (q | q)
      · exact Or.inl q
      · exact Or.inr ⟨by omega, by omega⟩
    · rintro (q | ⟨q1, q2⟩)
      · exact Or.inl q
      · exact Or.inr (by omega)
  · rw [show vuN W9 (2 * r + a / 64) (W9 (2 * r + a / 64) ||| 2 ^ (a % 64).toNat) i = W9 i from by simp [vuN, hi]]
    refine ⟨h1, fun b hb => (h2 b hb).trans ⟨Or.inl, ?_⟩⟩
    rintro (q | ⟨q1, q2⟩)
    · exact q
    · exact absurd (show i = 2 * r + a / 64 by omega) hi
theorem repW.both {W9 V9 : Int → Nat} {S S' : Int → Int → Prop} (h : repW W9 S) (h' : repW V9 S') : repW (fun i => W9 i &&& V9 i) (fun a r => S a r ∧ S' a r) := by
  intro i i0 i1
  obtain ⟨h1, h2⟩ := h i i0 i1
  obtain ⟨h3, h4⟩ := h' i i0 i1
  refine ⟨Nat.lt_of_le_of_lt Nat.and_le_left h1, fun b hb => ?_⟩
  rw [Nat.testBit_and, Bool.and_eq_true, h2 b hb, h4 b hb]
/-- how many points -/
noncomputable def cntS (S : Int → Int → Prop) : Nat := fb_sm (fun j => fb_ct (fun b => dB (S (64 * ((j : Int) % 2) + b) ((j : Int) / 2))) 64) 602
theorem repW.cnt {W9 : Int → Nat} {S : Int → Int → Prop} (h : repW W9 S) : fb_sm (fun j => fb_ct (fun b => (W9 (j : Int)).testBit b) 64) 602 = cntS S :=
  fb_sm_cong fun j hj => fb_ct_cong fun b hb => dB_of ((h j (by omega) (by omega)).2 b hb)
theorem repW.lt {W9 : Int → Nat} {S : Int → Int → Prop} (h : repW W9 S) : ∀ i, 0 ≤ i → i < 602 → W9 i < 2 ^ 64 := fun i i0 i1 => (h i i0 i1).1
/-- how many points at a radius -/
noncomputable def cntR (S : Int → Int → Prop) (r : Int) : Nat := fb_ct (fun a => dB (S (a : Int) r)) 128
theorem repW.atR {W9 : Int → Nat} {S : Int → Int → Prop} (h : repW W9 S) {r : Int} (r0 : 0 ≤ r) (r1 : r ≤ 300) : fb_ct (fun b => (W9 (2 * r)).testBit b) 64 + fb_ct (fun b => (W9 (2 * r + 1)).testBit b) 64 = cntR S r := by
  unfold cntR
  rw [fb_ct_split _ 64 64]
  congr 1
  · refine fb_ct_cong fun b hb => dB_of (((h (2 * r) (by omega) (by omega)).2 b hb).trans ?_)
    rw [show 64 * (2 * r % 2) + (b : Int) = (b : Int) by omega, show 2 * r / 2 = r by omega]
  · refine fb_ct_cong fun b hb => dB_of (((h (2 * r + 1) (by omega) (by omega)).2 b hb).trans ?_)
    rw [show 64 * ((2 * r + 1) % 2) + (b : Int) = ((64 + b : Nat) : Int) by omega, show (2 * r + 1) / 2 = r by omega]
theorem repW.same {W9 V9 : Int → Nat} {S S' : Int → Int → Prop} (h : repW W9 S) (h' : repW V9 S') : (∀ i, 0 ≤ i → i < 602 → W9 i = V9 i) ↔ ∀ a r, 0 ≤ a → a < 128 → 0 ≤ r → r ≤ 300 → (S a r ↔ S' a r) := by
  constructor
  · intro q a r a0 a1 r0 r1
    have e1 := (h (2 * r + a / 64) (by omega) (by omega)).2 (a % 64).toNat (by omega)
    have e2 := (h' (2 * r + a / 64) (by omega) (by omega)).2 (a % 64).toNat (by omega)
    rw [← q (2 * r + a / 64) (by omega) (by omega)] at e2
    rw [show 64 * ((2 * r + a / 64) % 2) + (((a % 64).toNat : Nat) : Int) = a by omega, show (2 * r + a / 64) / 2 = r by omega] at e1 e2
    exact e1.symm.trans e2
  · intro q i i0 i1
    obtain ⟨a1, a2⟩ := h i i0 i1
    obtain ⟨b1, b2⟩ := h' i i0 i1
    apply Nat.eq_of_testBit_eq
    intro b
    by_cases hb : b < 64
    · have e := (a2 b hb).trans ((q _ _ (by omega) (by omega) (by omega) (by omega)).trans (b2 b hb).symm)
      cases h1 : (W9 i).testBit b <;> cases h2 : (V9 i).testBit b <;> simp_all
    · rw [Nat.testBit_lt_two_pow (Nat.lt_of_lt_of_le a1 (Nat.pow_le_pow_right (by omega) (by omega))), Nat.testBit_lt_two_pow (Nat.lt_of_lt_of_le b1 (Nat.pow_le_pow_right (by omega) (by omega)))]
/-- the points of a rosette; those of its first steps, lobe by lobe -/
def PT (ring w sd ho st0 a r : Int) : Prop := ∃ t, 0 ≤ t ∧ t < pd ring w ∧ (st0 + t) % ring = a ∧ rad w sd ho (t % w) = r
def PTp (ring w sd ho st0 u j a r : Int) : Prop := ∃ t, 0 ≤ t ∧ t < pd ring w ∧ (t % w < u ∨ (t % w = u ∧ t / w < j)) ∧ (st0 + t) % ring = a ∧ rad w sd ho (t % w) = r
theorem PTp_0 {ring w sd ho st0 a r : Int} (hw : 0 < w) : ¬ PTp ring w sd ho st0 0 0 a r := by
  rintro ⟨t, t0, t1, q, -⟩
  have h1 := Int.emod_nonneg t (show w ≠ 0 by omega)
  have h2 := Int.ediv_nonneg t0 (show 0 ≤ w by omega)
  omega
theorem dm_eq {t u j w : Int} (hw : 0 < w) (h1 : t % w = u) (h2 : t / w = j) : t = u + j * w := by
  have := Int.mul_ediv_add_emod t w
  rw [h1, h2, Int.mul_comm] at this
  omega
theorem dm_of {u j w : Int} (hu : 0 ≤ u) (hw : u < w) : (u + j * w) % w = u ∧ (u + j * w) / w = j := by
  constructor
  · rw [Int.add_mul_emod_self_right, Int.emod_eq_of_lt hu hw]
  · rw [Int.add_mul_ediv_right _ _ (by omega), Int.ediv_eq_zero_of_lt hu hw]
    omega
theorem PTp_step {ring w sd ho st0 u j a r : Int} (hr : 0 < ring) (hw : 0 < w) (hu : 0 ≤ u ∧ u < w) (hj : 0 ≤ j ∧ j < lb ring w) : PTp ring w sd ho st0 u (j + 1) a r ↔ PTp ring w sd ho st0 u j a r ∨ (a = (st0 + (u + j * w)) % ring ∧ r = rad w sd ho u) := by
  have hd := dm_of (j := j) hu.1 hu.2
  constructor
  · rintro ⟨t, t0, t1, q, e1, e2⟩
    by_cases h : t % w = u ∧ t / w = j
    · have h3 := dm_eq hw h.1 h.2
      subst h3
      rw [hd.1] at e2
      exact Or.inr ⟨e1.symm, e2.symm⟩
    · exact Or.inl ⟨t, t0, t1, by omega, e1, e2⟩
  · rintro (⟨t, t0, t1, q, e1, e2⟩ | ⟨e1, e2⟩)
    · exact ⟨t, t0, t1, by omega, e1, e2⟩
    · have h1 : 0 ≤ j * w := Int.mul_nonneg hj.1 (by omega)
      have h2 : (j + 1) * w ≤ lb ring w * w := Int.mul_le_mul_of_nonneg_right (by omega) (by omega)
      have h3 : (j + 1) * w = j * w + w := by rw [Int.add_mul, Int.one_mul]
      refine ⟨u + j * w, by omega, by rw [pd_lb hr hw]; omega, by rw [hd.1, hd.2]; omega, e1.symm, by rw [hd.1]; exact e2.symm⟩
theorem PTp_next {ring w sd ho st0 u a r : Int} (hr : 0 < ring) (hw : 0 < w) : PTp ring w sd ho st0 u (lb ring w) a r ↔ PTp ring w sd ho st0 (u + 1) 0 a r := by
  constructor
  · rintro ⟨t, t0, t1, q, e⟩
    exact ⟨t, t0, t1, by omega, e⟩
  · rintro ⟨t, t0, t1, q, e⟩
    have h2 := Int.ediv_nonneg t0 (show 0 ≤ w by omega)
    have h3 : t / w < lb ring w := Int.ediv_lt_of_lt_mul hw (by rw [← pd_lb hr hw]; exact t1)
    exact ⟨t, t0, t1, by omega, e⟩
theorem PTp_all {ring w sd ho st0 a r : Int} (hw : 0 < w) : PTp ring w sd ho st0 w 0 a r ↔ PT ring w sd ho st0 a r := by
  constructor
  · rintro ⟨t, t0, t1, q, e⟩
    exact ⟨t, t0, t1, e⟩
  · rintro ⟨t, t0, t1, e⟩
    exact ⟨t, t0, t1, Or.inl (Int.emod_lt_of_pos t hw), e⟩
/-- the widest gap among the radii of the first k that have E -/
noncomputable def gpf (E : Int → Prop) : Nat → Int × Int
  | 0 => (0, -9)
  | k + 1 => @ite (Int × Int) (E (k : Int)) (Classical.propDecidable _) ((if (gpf E k).2 = -9 then (gpf E k).1 else max (gpf E k).1 ((k : Int) - (gpf E k).2)), (k : Int)) (gpf E k)
theorem gpf_in {E : Int → Prop} {k : Int} (hk : 0 ≤ k) (h : E k) : gpf E (k + 1).toNat = ((if (gpf E k.toNat).2 = -9 then (gpf E k.toNat).1 else max (gpf E k.toNat).1 (k - (gpf E k.toNat).2)), k) := by
  have h1 : (k + 1).toNat = k.toNat + 1 := by omega
  have h2 : ((k.toNat : Nat) : Int) = k := Int.toNat_of_nonneg hk
  rw [h1]
  show @ite (Int × Int) (E ((k.toNat : Nat) : Int)) (Classical.propDecidable _) _ _ = _
  rw [h2, if_pos h]
theorem gpf_out {E : Int → Prop} {k : Int} (hk : 0 ≤ k) (h : ¬ E k) : gpf E (k + 1).toNat = gpf E k.toNat := by
  have h1 : (k + 1).toNat = k.toNat + 1 := by omega
  have h2 : ((k.toNat : Nat) : Int) = k := Int.toNat_of_nonneg hk
  rw [h1]
  show @ite (Int × Int) (E ((k.toNat : Nat) : Int)) (Classical.propDecidable _) _ _ = _
  rw [h2, if_neg h]
theorem gpf_congr {E E' : Int → Prop} : ∀ k : Nat, (∀ r : Int, 0 ≤ r → r < k → (E r ↔ E' r)) → gpf E k = gpf E' k
  | 0, _ => rfl
  | k + 1, h => by
    have ih := gpf_congr k (fun r r0 r1 => h r r0 (by omega))
    by_cases q : E (k : Int)
    · have q' := (h k (by omega) (by omega)).mp q
      show @ite (Int × Int) (E (k : Int)) (Classical.propDecidable _) _ _ = @ite (Int × Int) (E' (k : Int)) (Classical.propDecidable _) _ _
      rw [if_pos q, if_pos q', ih]
    · have q' := fun z => q ((h k (by omega) (by omega)).mpr z)
      show @ite (Int × Int) (E (k : Int)) (Classical.propDecidable _) _ _ = @ite (Int × Int) (E' (k : Int)) (Classical.propDecidable _) _ _
      rw [if_neg q, if_neg q', ih]
theorem bc_sum {p0 p1 p2 p3 p4 p5 p6 p7 y3 y4 y5 y6 : Nat} (q0 : p0 ≤ 8) (q1 : p1 ≤ 8) (q2 : p2 ≤ 8) (q3 : p3 ≤ 8) (q4 : p4 ≤ 8) (q5 : p5 ≤ 8) (q6 : p6 ≤ 8) (q7 : p7 ≤ 8) (ht : y3 = p0 + 256 * (p1 + 256 * (p2 + 256 * (p3 + 256 * (p4 + 256 * (p5 + 256 * (p6 + 256 * p7))))))) (h4 : y4 = y3 + y3 / 2 ^ 8) (h5 : y5 = y4 + y4 / 2 ^ 16) (h6 : y6 = y5 + y5 / 2 ^ 32) : y6 % 128 = p0 + p1 + p2 + p3 + p4 + p5 + p6 + p7 := by
  obtain ⟨r4, hr4⟩ : ∃ r4, r4 = (p4 + p5) + 256 * ((p5 + p6) + 256 * ((p6 + p7) + 256 * p7)) := ⟨_, rfl⟩
  have a1 : y3 / 2 ^ 8 = p1 + 256 * (p2 + 256 * (p3 + 256 * (p4 + 256 * (p5 + 256 * (p6 + 256 * p7))))) := by
    rw [ht]; omega
  have a2 : y4 = (p0 + p1) + 256 * ((p1 + p2) + 256 * ((p2 + p3) + 256 * ((p3 + p4) + 256 * r4))) := by
    rw [h4, a1, ht, hr4]; omega
  have a3 : y4 / 2 ^ 16 = (p2 + p3) + 256 * ((p3 + p4) + 256 * r4) := by
    rw [a2]; clear ht h4 h5 h6 a1 hr4; omega
  obtain ⟨s4, hs4⟩ : ∃ s4, s4 = (p2 + p3 + p4 + p5) / 1 := ⟨_, rfl⟩
  have a4 : y5 = (p0 + p1 + p2 + p3) + 256 * ((p1 + p2 + p3 + p4) + 256 * ((p2 + p3 + p4 + p5) + 256 * ((p3 + p4 + p5 + p6) + 256 * ((p4 + p5 + p6 + p7) + 256 * ((p5 + p6 + p7) + 256 * ((p6 + p7) + 256 * p7)))))) := by
    rw [h5, a3, a2, hr4]; omega
  have a5 : y5 / 2 ^ 32 = (p4 + p5 + p6 + p7) + 256 * ((p5 + p6 + p7) + 256 * ((p6 + p7) + 256 * p7)) := by
    rw [a4]; clear ht h4 h5 h6 a1 a2 a3 hr4 a4; omega
  rw [h6, a5, a4]
  clear ht h4 h5 h6 a1 a2 a3 hr4 a4 a5
  omega
