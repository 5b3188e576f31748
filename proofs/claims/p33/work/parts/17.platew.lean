/-! PLATES, what writes them does to the vector -/
def shv (v : Int → Int) : Int → Int := fun i => if 26 ≤ i ∧ i ≤ 39 then v (i + 2) else v i
def ntv (v : Int → Int) (a r : Int) : Int → Int := if v 25 < 8 then vu (vu (vu v (26 + 2 * v 25) a) (27 + 2 * v 25) r) 25 (v 25 + 1) else vu (vu (vu (vu (shv v) 25 (v 25 - 1)) (26 + 2 * (v 25 - 1)) a) (27 + 2 * (v 25 - 1)) r) 25 (v 25 - 1 + 1)
def tkr (nl : Int) (v : Int → Int) (t : Int) : Int → Int := fun i => if i = 0 then t else if 4 ≤ i ∧ i ≤ 4 * nl ∧ i % 4 = 0 ∧ ¬ (0 ≤ v i ∧ v i < t) then 0 else if 26 ≤ i ∧ i < 42 ∧ i % 2 = 0 ∧ ¬ (0 ≤ v i ∧ v i < t) then 0 else v i
def drv (nl : Int) (v : Int → Int) (l : Int) : Int → Int := fun i => if 4 * l + 1 ≤ i ∧ i ≤ 4 * (nl - 1) then v (i + 4) else v i
theorem vu_vu {v : Int → Int} {z x i : Int} : vu v z x i = if i = z then x else v i := rfl
theorem sh_step {v V9 : Int → Int} {k : Int} (hk : 1 ≤ k) (hV : ∀ i, V9 i = if 26 ≤ i ∧ i < 26 + 2 * (k - 1) then v (i + 2) else v i) :
    ∀ i, vu (vu V9 (26 + 2 * (k - 1)) (V9 (26 + 2 * k))) (27 + 2 * (k - 1)) (vu V9 (26 + 2 * (k - 1)) (V9 (26 + 2 * k)) (27 + 2 * k)) i = if 26 ≤ i ∧ i < 26 + 2 * (k + 1 - 1) then v (i + 2) else v i := by
  intro i
  by_cases h1 : i = 27 + 2 * (k - 1)
  · subst h1
    rw [vu_self, vu_ne (by omega), hV, if_neg (by omega), if_pos (by omega)]
    congr 1
    omega
  · rw [vu_ne h1]
    by_cases h2 : i = 26 + 2 * (k - 1)
    · subst h2
      rw [vu_self, hV, if_neg (by omega), if_pos (by omega)]
      congr 1
      omega
    · rw [vu_ne h2, hV]
      by_cases h3 : 26 ≤ i ∧ i < 26 + 2 * (k - 1)
      · rw [if_pos h3, if_pos (by omega)]
      · rw [if_neg h3, if_neg (by omega)]
theorem sh_end {v V9 : Int → Int} {k : Int} (hk : k = 8) (hV : ∀ i, V9 i = if 26 ≤ i ∧ i < 26 + 2 * (k - 1) then v (i + 2) else v i) : V9 = shv v := by
  funext i
  rw [hV]
  unfold shv
  subst hk
  by_cases h3 : 26 ≤ i ∧ i < 26 + 2 * ((8 : Int) - 1)
  · rw [if_pos h3, if_pos (by omega)]
  · rw [if_neg h3, if_neg (by omega)]
/-- the vector behind the first k layers of a new ring -/
def tk1 (v : Int → Int) (t k : Int) : Int → Int := fun i => if i = 0 then t else if 4 ≤ i ∧ i ≤ 4 * k ∧ i % 4 = 0 ∧ ¬ (0 ≤ v i ∧ v i < t) then 0 else v i
theorem tk1_yes {v : Int → Int} {t k : Int} (hk : 0 ≤ k) (h : ¬ (0 ≤ v (4 * k + 4) ∧ v (4 * k + 4) < t)) : v4 (tk1 v t k) k (tk1 v t k (4 * k + 1)) (tk1 v t k (4 * k + 2)) (tk1 v t k (4 * k + 3)) 0 = tk1 v t (k + 1) := by
  funext i
  have hne : ∀ j, (j ≠ 4 * k + 4) → tk1 v t k j = tk1 v t (k + 1) j := by
    intro j hj
    unfold tk1
    by_cases h0 : j = 0
    · rw [if_pos h0, if_pos h0]
    · rw [if_neg h0, if_neg h0]
      by_cases h1 : 4 ≤ j ∧ j ≤ 4 * k ∧ j % 4 = 0 ∧ ¬ (0 ≤ v j ∧ v j < t)
      · rw [if_pos h1, if_pos ⟨h1.1, by omega, h1.2.2⟩]
      · rw [if_neg h1, if_neg (fun q => h1 ⟨q.1, by omega, q.2.2⟩)]
  unfold v4
  by_cases a1 : i = 4 * k + 1
  · rw [if_pos a1, hne _ (by omega), a1]
  · rw [if_neg a1]
    by_cases a2 : i = 4 * k + 2
    · rw [if_pos a2, hne _ (by omega), a2]
    · rw [if_neg a2]
      by_cases a3 : i = 4 * k + 3
      · rw [if_pos a3, hne _ (by omega), a3]
      · rw [if_neg a3]
        by_cases a4 : i = 4 * k + 4
        · rw [if_pos a4, a4]
          unfold tk1
          rw [if_neg (by omega), if_pos ⟨by omega, by omega, by omega, h⟩]
        · rw [if_neg a4, hne _ a4]
theorem tk1_no {v : Int → Int} {t k : Int} (hk : 0 ≤ k) (h : 0 ≤ v (4 * k + 4) ∧ v (4 * k + 4) < t) : tk1 v t k = tk1 v t (k + 1) := by
  funext j
  unfold tk1
  by_cases h0 : j = 0
  · rw [if_pos h0, if_pos h0]
  · rw [if_neg h0, if_neg h0]
    by_cases h1 : 4 ≤ j ∧ j ≤ 4 * k ∧ j % 4 = 0 ∧ ¬ (0 ≤ v j ∧ v j < t)
    · rw [if_pos h1, if_pos ⟨h1.1, by omega, h1.2.2⟩]
    · by_cases h2 : j = 4 * k + 4
      · rw [if_neg h1, if_neg (fun q => q.2.2.2 (by rw [h2]; exact h))]
      · rw [if_neg h1, if_neg (fun q => h1 ⟨q.1, by omega, q.2.2⟩)]
theorem tk1_0 {v : Int → Int} {t : Int} : vu v 0 t = tk1 v t 0 := by
  funext j
  unfold tk1
  by_cases h0 : j = 0
  · rw [if_pos h0, h0, vu_self]
  · rw [if_neg h0, vu_ne h0, if_neg (by omega)]
theorem tk1_at {v : Int → Int} {t k j : Int} (hj : j ≠ 0) (h : 4 * k < j ∨ j % 4 ≠ 0) : tk1 v t k j = v j := by
  unfold tk1
  rw [if_neg hj, if_neg (by omega)]
/-- .. and behind the first k sightings' angles -/
def tk2 (nl : Int) (v : Int → Int) (t k : Int) : Int → Int := fun i => if i = 0 then t else if 4 ≤ i ∧ i ≤ 4 * nl ∧ i % 4 = 0 ∧ ¬ (0 ≤ v i ∧ v i < t) then 0 else if 26 ≤ i ∧ i < 26 + 2 * k ∧ i % 2 = 0 ∧ ¬ (0 ≤ v i ∧ v i < t) then 0 else v i
theorem tk2_0 {nl : Int} {v : Int → Int} {t : Int} : tk1 v t nl = tk2 nl v t 0 := by
  funext j
  unfold tk1 tk2
  by_cases h0 : j = 0
  · rw [if_pos h0, if_pos h0]
  · rw [if_neg h0, if_neg h0]
    by_cases h1 : 4 ≤ j ∧ j ≤ 4 * nl ∧ j % 4 = 0 ∧ ¬ (0 ≤ v j ∧ v j < t)
    · rw [if_pos h1, if_pos h1]
    · rw [if_neg h1, if_neg h1, if_neg (by omega)]
theorem tk2_at {nl : Int} {v : Int → Int} {t k j : Int} (hn : nl ≤ 6) (hk : 0 ≤ k) (hj : 26 + 2 * k ≤ j) : tk2 nl v t k j = v j := by
  unfold tk2
  rw [if_neg (by omega), if_neg (by omega), if_neg (by omega)]
theorem tk2_yes {nl : Int} {v : Int → Int} {t k : Int} (hn : nl ≤ 6) (hk : 0 ≤ k) (h : ¬ (0 ≤ v (26 + 2 * k) ∧ v (26 + 2 * k) < t)) : vu (tk2 nl v t k) (26 + 2 * k) 0 = tk2 nl v t (k + 1) := by
  funext j
  by_cases hj : j = 26 + 2 * k
  · rw [hj, vu_self]
    unfold tk2
    rw [if_neg (by omega), if_neg (by omega), if_pos ⟨by omega, by omega, by omega, h⟩]
  · rw [vu_ne hj]
    unfold tk2
    by_cases h0 : j = 0
    · rw [if_pos h0, if_pos h0]
    · rw [if_neg h0, if_neg h0]
      by_cases h1 : 4 ≤ j ∧ j ≤ 4 * nl ∧ j % 4 = 0 ∧ ¬ (0 ≤ v j ∧ v j < t)
      · rw [if_pos h1, if_pos h1]
      · rw [if_neg h1, if_neg h1]
        by_cases h2 : 26 ≤ j ∧ j < 26 + 2 * k ∧ j % 2 = 0 ∧ ¬ (0 ≤ v j ∧ v j < t)
        · rw [if_pos h2, if_pos ⟨h2.1, by omega, h2.2.2⟩]
        · rw [if_neg h2, if_neg (fun q => h2 ⟨q.1, by omega, q.2.2⟩)]
theorem tk2_no {nl : Int} {v : Int → Int} {t k : Int} (hk : 0 ≤ k) (h : 0 ≤ v (26 + 2 * k) ∧ v (26 + 2 * k) < t) : tk2 nl v t k = tk2 nl v t (k + 1) := by
  funext j
  unfold tk2
  by_cases h0 : j = 0
  · rw [if_pos h0, if_pos h0]
  · rw [if_neg h0, if_neg h0]
    by_cases h1 : 4 ≤ j ∧ j ≤ 4 * nl ∧ j % 4 = 0 ∧ ¬ (0 ≤ v j ∧ v j < t)
    · rw [if_pos h1, if_pos h1]
    · rw [if_neg h1, if_neg h1]
      by_cases h2 : 26 ≤ j ∧ j < 26 + 2 * k ∧ j % 2 = 0 ∧ ¬ (0 ≤ v j ∧ v j < t)
      · rw [if_pos h2, if_pos ⟨h2.1, by omega, h2.2.2⟩]
      · by_cases h3 : j = 26 + 2 * k
        · rw [if_neg h2, if_neg (fun q => q.2.2.2 (by rw [h3]; exact h))]
        · rw [if_neg h2, if_neg (fun q => h2 ⟨q.1, by omega, q.2.2⟩)]
theorem tk2_end {nl : Int} {v : Int → Int} {t k : Int} (hk : k = 8) : tk2 nl v t k = tkr nl v t := by
  subst hk
  rfl
theorem dr_step {v V9 : Int → Int} {l k : Int} (hl : 0 ≤ l) (hk : l ≤ k) (hV : ∀ i, V9 i = if 4 * l + 1 ≤ i ∧ i ≤ 4 * k then v (i + 4) else v i) :
    ∀ i, v4 V9 k (V9 (4 * (k + 1) + 1)) (V9 (4 * (k + 1) + 2)) (V9 (4 * (k + 1) + 3)) (V9 (4 * (k + 1) + 4)) i = if 4 * l + 1 ≤ i ∧ i ≤ 4 * (k + 1) then v (i + 4) else v i := by
  intro i
  unfold v4
  by_cases a1 : i = 4 * k + 1
  · rw [if_pos a1, hV, if_neg (by omega), if_pos (by omega), a1]
    congr 1
    omega
  · rw [if_neg a1]
    by_cases a2 : i = 4 * k + 2
    · rw [if_pos a2, hV, if_neg (by omega), if_pos (by omega), a2]
      congr 1
      omega
    · rw [if_neg a2]
      by_cases a3 : i = 4 * k + 3
      · rw [if_pos a3, hV, if_neg (by omega), if_pos (by omega), a3]
        congr 1
        omega
      · rw [if_neg a3]
        by_cases a4 : i = 4 * k + 4
        · rw [if_pos a4, hV, if_neg (by omega), if_pos (by omega), a4]
          congr 1
          omega
        · rw [if_neg a4, hV]
          by_cases h3 : 4 * l + 1 ≤ i ∧ i ≤ 4 * k
          · rw [if_pos h3, if_pos (by omega)]
          · rw [if_neg h3, if_neg (by omega)]
theorem dr_end {v V9 : Int → Int} {nl l k : Int} (hk : k = nl - 1) (hV : ∀ i, V9 i = if 4 * l + 1 ≤ i ∧ i ≤ 4 * k then v (i + 4) else v i) : V9 = drv nl v l := by
  funext i
  rw [hV, hk]
  rfl
theorem v4_at {v : Int → Int} {l a b c9 d i : Int} (h : i < 4 * l + 1 ∨ 4 * l + 4 < i) : v4 v l a b c9 d i = v i := by
  unfold v4
  rw [if_neg (by omega), if_neg (by omega), if_neg (by omega), if_neg (by omega)]
theorem inV.vu {v : Int → Int} {z x : Int} (h : inV v) (hx : inI x) : inV (vu v z x) := by
  intro i i0 i1
  by_cases hi : i = z
  · rw [hi, vu_self]; exact hx
  · rw [vu_ne hi]; exact h i i0 i1
theorem inV.v4 {v : Int → Int} {l a b c9 d : Int} (h : inV v) (ha : inI a) (hb : inI b) (hc : inI c9) (hd : inI d) : inV (v4 v l a b c9 d) := by
  intro i i0 i1
  show inI (if i = 4 * l + 1 then a else if i = 4 * l + 2 then b else if i = 4 * l + 3 then c9 else if i = 4 * l + 4 then d else v i)
  split
  · exact ha
  · split
    · exact hb
    · split
      · exact hc
      · split
        · exact hd
        · exact h i i0 i1
theorem inV.shv {v : Int → Int} (h : inV v) : inV (shv v) := by
  intro i i0 i1
  show inI (if 26 ≤ i ∧ i ≤ 39 then v (i + 2) else v i)
  split
  · exact h _ (by omega) (by omega)
  · exact h _ i0 i1
theorem inV.ntv {v : Int → Int} {a r : Int} (h : inV v) (h25 : 0 ≤ v 25 ∧ v 25 ≤ 8) (ha : inI a) (hr : inI r) : inV (ntv v a r) := by
  show inV (if v 25 < 8 then _ else _)
  split
  · exact ((h.vu ha).vu hr).vu ⟨by omega, by omega⟩
  · exact (((h.shv.vu ⟨by omega, by omega⟩).vu ha).vu hr).vu ⟨by omega, by omega⟩
theorem bc_layer {V9 v2 : Int → Int} {k : Int} (h : ∀ i, 1 ≤ i → i ≤ 4 * k → V9 i = v2 i) : ∀ i, 1 ≤ i → i ≤ 4 * (k + 1) → v4 V9 k (v2 (4 * k + 1)) (v2 (4 * k + 2)) (v2 (4 * k + 3)) (v2 (4 * k + 4)) i = v2 i := by
  intro i i0 i1
  unfold v4
  by_cases a1 : i = 4 * k + 1
  · rw [if_pos a1, a1]
  · rw [if_neg a1]
    by_cases a2 : i = 4 * k + 2
    · rw [if_pos a2, a2]
    · rw [if_neg a2]
      by_cases a3 : i = 4 * k + 3
      · rw [if_pos a3, a3]
      · rw [if_neg a3]
        by_cases a4 : i = 4 * k + 4
        · rw [if_pos a4, a4]
        · rw [if_neg a4]
          exact h i i0 (by omega)
theorem ntv_lt {U9 : Int → Int} {i a r : Int} (h : U9 25 = i) (h8 : i < 8) : ntv U9 a r = vu (vu (vu U9 (26 + 2 * i) a) (27 + 2 * i) r) 25 (i + 1) := by
  unfold ntv
  rw [if_pos (by omega), h]
theorem bc_n0 {U9 v2 : Int → Int} {i a r : Int} (h0 : U9 0 = v2 0) (h : U9 25 = i) (hi : 0 ≤ i) (h8 : i < 8) : ntv U9 a r 0 = v2 0 := by
  rw [ntv_lt h h8, vu_ne (by omega), vu_ne (by omega), vu_ne (by omega), h0]
theorem bc_n25 {U9 : Int → Int} {i a r : Int} (h : U9 25 = i) (h8 : i < 8) : ntv U9 a r 25 = i + 1 := by
  rw [ntv_lt h h8, vu_self]
theorem bc_nl {U9 v2 : Int → Int} {nl i a r : Int} (h : U9 25 = i) (hi : 0 ≤ i) (h8 : i < 8) (hn : nl ≤ 6) (hl : ∀ j, 1 ≤ j → j ≤ 4 * nl → U9 j = v2 j) : ∀ j, 1 ≤ j → j ≤ 4 * nl → ntv U9 a r j = v2 j := by
  intro j j0 j1
  rw [ntv_lt h h8, vu_ne (by omega), vu_ne (by omega), vu_ne (by omega), hl j j0 j1]
theorem bc_ns {U9 v2 : Int → Int} {i : Int} (h : U9 25 = i) (hi : 0 ≤ i) (h8 : i < 8) (hs : ∀ j, 26 ≤ j → j < 26 + 2 * i → U9 j = v2 j) : ∀ j, 26 ≤ j → j < 26 + 2 * (i + 1) → ntv U9 (v2 (26 + 2 * i)) (v2 (27 + 2 * i)) j = v2 j := by
  intro j j0 j1
  rw [ntv_lt h h8, vu_ne (by omega)]
  by_cases a1 : j = 27 + 2 * i
  · rw [a1, vu_self]
  · rw [vu_ne a1]
    by_cases a2 : j = 26 + 2 * i
    · rw [a2, vu_self]
    · rw [vu_ne a2, hs j j0 (by omega)]
