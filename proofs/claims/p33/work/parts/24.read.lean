/-! READING a text: the same function for the class and for the reference -/
def rdN (T9 : Int → Int) (L9 lo hi : Int) : Nat → Int → Int → Int → Int × Int
  | 0, fr, _, q => (fr, q)
  | k + 1, fr, u, q => if q < L9 ∧ 48 ≤ T9 q ∧ T9 q ≤ 57 ∧ fr + (T9 q - 48) * (u / 10) ≤ hi ∧ lo ≤ fr + (T9 q - 48) * (u / 10) + u / 10 - 1 then rdN T9 L9 lo hi k (fr + (T9 q - 48) * (u / 10)) (u / 10) (q + 1) else (-1, q)
def rd (T9 : Int → Int) (L9 lo hi dg q : Int) : Int × Int := if dg = 2 then rdN T9 L9 lo hi 2 0 100 q else rdN T9 L9 lo hi 3 0 1000 q
theorem rdN_yes {T9 : Int → Int} {L9 lo hi fr u q : Int} {k : Int} (hk : 0 < k) (h : q < L9 ∧ 48 ≤ T9 q ∧ T9 q ≤ 57 ∧ fr + (T9 q - 48) * (u / 10) ≤ hi ∧ lo ≤ fr + (T9 q - 48) * (u / 10) + u / 10 - 1) : rdN T9 L9 lo hi k.toNat fr u q = rdN T9 L9 lo hi (k - 1).toNat (fr + (T9 q - 48) * (u / 10)) (u / 10) (q + 1) := by
  have h1 : k.toNat = (k - 1).toNat + 1 := by omega
  rw [h1]
  exact if_pos h
theorem rdN_no {T9 : Int → Int} {L9 lo hi fr u q : Int} {k : Int} (hk : 0 < k) (h : ¬ (q < L9 ∧ 48 ≤ T9 q ∧ T9 q ≤ 57 ∧ fr + (T9 q - 48) * (u / 10) ≤ hi ∧ lo ≤ fr + (T9 q - 48) * (u / 10) + u / 10 - 1)) : rdN T9 L9 lo hi k.toNat fr u q = (-1, q) := by
  have h1 : k.toNat = (k - 1).toNat + 1 := by omega
  rw [h1]
  exact if_neg h
theorem rd_range {T9 : Int → Int} {L9 lo hi dg q : Int} (hlo : 0 ≤ lo) (hq : 0 ≤ q ∧ q ≤ L9) (hd : dg = 2 ∨ dg = 3) : ((rd T9 L9 lo hi dg q).1 = -1 ∨ (lo ≤ (rd T9 L9 lo hi dg q).1 ∧ (rd T9 L9 lo hi dg q).1 ≤ hi)) ∧ q ≤ (rd T9 L9 lo hi dg q).2 ∧ (rd T9 L9 lo hi dg q).2 ≤ L9 := by
  unfold rd
  rcases hd with rfl | rfl
  · rw [if_pos rfl]
    simp only [rdN]
    repeat' split
    all_goals (dsimp only; omega)
  · rw [if_neg (by omega)]
    simp only [rdN]
    repeat' split
    all_goals (dsimp only; omega)
def rgS (T9 : Int → Int) (L9 nl : Int) (v : Int → Int) : Bool × Int × Int × (Int → Int) := if 0 < L9 ∧ T9 0 = 69 then (if (rd T9 L9 12 96 2 1).1 = -1 then (false, (rd T9 L9 12 96 2 1).2, nl, v) else (true, (rd T9 L9 12 96 2 1).2, 0, vu (vu v 0 (rd T9 L9 12 96 2 1).1) 25 0)) else (false, 0, nl, v)
def rlS (T9 : Int → Int) (L9 sd q nl : Int) (v : Int → Int) : Bool × Int × Int × (Int → Int) :=
  if (rd T9 L9 5 60 2 (q + 1)).1 = -1 then (false, (rd T9 L9 5 60 2 (q + 1)).2, nl, v)
  else if (rd T9 L9 0 20 2 (rd T9 L9 5 60 2 (q + 1)).2).1 = -1 then (false, (rd T9 L9 0 20 2 (rd T9 L9 5 60 2 (q + 1)).2).2, nl, v)
  else if (rd T9 L9 0 (v 0 - 1) 2 (rd T9 L9 0 20 2 (rd T9 L9 5 60 2 (q + 1)).2).2).1 = -1 then (false, (rd T9 L9 0 (v 0 - 1) 2 (rd T9 L9 0 20 2 (rd T9 L9 5 60 2 (q + 1)).2).2).2, nl, v)
  else (true, (rd T9 L9 0 (v 0 - 1) 2 (rd T9 L9 0 20 2 (rd T9 L9 5 60 2 (q + 1)).2).2).2, nl + 1, v4 v nl (rd T9 L9 5 60 2 (q + 1)).1 sd (rd T9 L9 0 20 2 (rd T9 L9 5 60 2 (q + 1)).2).1 (rd T9 L9 0 (v 0 - 1) 2 (rd T9 L9 0 20 2 (rd T9 L9 5 60 2 (q + 1)).2).2).1)
def rsS (T9 : Int → Int) (L9 q nl : Int) (v : Int → Int) : Bool × Int × Int × (Int → Int) :=
  if (rd T9 L9 0 (v 0 - 1) 2 (q + 1)).1 = -1 then (false, (rd T9 L9 0 (v 0 - 1) 2 (q + 1)).2, nl, v)
  else if (rd T9 L9 0 300 3 (rd T9 L9 0 (v 0 - 1) 2 (q + 1)).2).1 = -1 then (false, (rd T9 L9 0 300 3 (rd T9 L9 0 (v 0 - 1) 2 (q + 1)).2).2, nl, v)
  else (true, (rd T9 L9 0 300 3 (rd T9 L9 0 (v 0 - 1) 2 (q + 1)).2).2, nl, ntv v (rd T9 L9 0 (v 0 - 1) 2 (q + 1)).1 (rd T9 L9 0 300 3 (rd T9 L9 0 (v 0 - 1) 2 (q + 1)).2).1)
def rpS (T9 : Int → Int) (L9 q nl : Int) (v : Int → Int) : Bool × Int × Int × (Int → Int) :=
  if T9 q = 105 then (if 6 ≤ nl then (false, q, nl, v) else rlS T9 L9 0 q nl v)
  else if T9 q = 111 then (if 6 ≤ nl then (false, q, nl, v) else rlS T9 L9 1 q nl v)
  else if T9 q = 115 then (if 8 ≤ v 25 then (false, q, nl, v) else rsS T9 L9 q nl v)
  else (false, q, nl, v)
def rdS (T9 : Int → Int) (L9 : Int) : Nat → Int → Int → (Int → Int) → Int × Int × (Int → Int)
  | 0, _, nl, v => (-9, nl, v)
  | k + 1, q, nl, v => if q < L9 then (if (rpS T9 L9 q nl v).1 = true then rdS T9 L9 k (rpS T9 L9 q nl v).2.1 (rpS T9 L9 q nl v).2.2.1 (rpS T9 L9 q nl v).2.2.2 else ((rpS T9 L9 q nl v).2.1, (rpS T9 L9 q nl v).2.2.1, (rpS T9 L9 q nl v).2.2.2)) else (-9, nl, v)
def rtS (T9 : Int → Int) (L9 nl : Int) (v : Int → Int) : Int × Int × (Int → Int) := if (rgS T9 L9 nl v).1 = true then rdS T9 L9 100 (rgS T9 L9 nl v).2.1 (rgS T9 L9 nl v).2.2.1 (rgS T9 L9 nl v).2.2.2 else ((rgS T9 L9 nl v).2.1, (rgS T9 L9 nl v).2.2.1, (rgS T9 L9 nl v).2.2.2)
/-- what a plate being read must be, and stays -/
def okR (nl : Int) (v : Int → Int) : Prop := okPl nl v ∧ inV v
theorem v4_lay {v : Int → Int} {l a b c9 d : Int} : v4 v l a b c9 d (4 * l + 1) = a ∧ v4 v l a b c9 d (4 * l + 2) = b ∧ v4 v l a b c9 d (4 * l + 3) = c9 ∧ v4 v l a b c9 d (4 * l + 4) = d := by
  unfold v4
  refine ⟨if_pos rfl, ?_, ?_, ?_⟩
  · rw [if_neg (by omega), if_pos rfl]
  · rw [if_neg (by omega), if_neg (by omega), if_pos rfl]
  · rw [if_neg (by omega), if_neg (by omega), if_neg (by omega), if_pos rfl]
theorem ntv_ge {v : Int → Int} {a r : Int} (h : ¬ v 25 < 8) : ntv v a r = vu (vu (vu (vu (shv v) 25 (v 25 - 1)) (26 + 2 * (v 25 - 1)) a) (27 + 2 * (v 25 - 1)) r) 25 (v 25 - 1 + 1) := if_neg h
theorem okPl.put {nl : Int} {v : Int → Int} {a b c9 d : Int} (h : okPl nl v) (hn : nl < 6) (ha : okL a b c9) (hd : 0 ≤ d ∧ d < v 0) : okPl (nl + 1) (v4 v nl a b c9 d) := by
  obtain ⟨h1, h2, h3, h4, h5⟩ := h
  have e0 : v4 v nl a b c9 d 0 = v 0 := v4_at (by omega)
  have e25 : v4 v nl a b c9 d 25 = v 25 := v4_at (by omega)
  refine ⟨by omega, by rw [e0]; exact h2, by rw [e25]; exact h3, fun l l0 l1 => ?_, fun i i0 i1 => ?_⟩
  · rw [e0]
    by_cases hl : l = nl
    · subst hl
      obtain ⟨q1, q2, q3, q4⟩ := v4_lay (v := v) (l := l) (a := a) (b := b) (c9 := c9) (d := d)
      rw [q1, q2, q3, q4]
      exact ⟨ha, hd⟩
    · rw [v4_at (by omega), v4_at (by omega), v4_at (by omega), v4_at (by omega)]
      exact h4 l l0 (by omega)
  · rw [e25] at i1
    rw [e0, v4_at (by omega), v4_at (by omega)]
    exact h5 i i0 i1
theorem okPl.note9 {nl : Int} {v : Int → Int} {a r : Int} (h : okPl nl v) (ha : 0 ≤ a ∧ a < v 0) (hr : 0 ≤ r ∧ r ≤ 300) : okPl nl (ntv v a r) ∧ ntv v a r 0 = v 0 ∧ ntv v a r 25 = (if v 25 < 8 then v 25 + 1 else 8) := by
  obtain ⟨h1, h2, h3, h4, h5⟩ := h
  by_cases hc : v 25 < 8
  · have e := ntv_lt (U9 := v) (i := v 25) (a := a) (r := r) rfl hc
    have e0 : ntv v a r 0 = v 0 := by rw [e, vu_ne (by omega), vu_ne (by omega), vu_ne (by omega)]
    have e25 : ntv v a r 25 = v 25 + 1 := by rw [e, vu_self]
    refine ⟨⟨h1, by rw [e0]; exact h2, by rw [e25]; omega, fun l l0 l1 => ?_, fun i i0 i1 => ?_⟩, e0, by rw [e25, if_pos hc]⟩
    · rw [e0, e, vu_ne (by omega), vu_ne (by omega), vu_ne (by omega), vu_ne (by omega), vu_ne (by omega), vu_ne (by omega), vu_ne (by omega), vu_ne (by omega), vu_ne (by omega), vu_ne (by omega), vu_ne (by omega), vu_ne (by omega)]
      exact h4 l l0 l1
    · rw [e25] at i1
      rw [e0, e]
      by_cases hi : i = v 25
      · rw [hi, vu_ne (by omega), vu_ne (by omega), vu_self, vu_ne (by omega), vu_self]
        exact ⟨ha, hr⟩
      · rw [vu_ne (by omega), vu_ne (by omega), vu_ne (by omega), vu_ne (by omega), vu_ne (by omega), vu_ne (by omega)]
        exact h5 i i0 (by omega)
  · have h8 : v 25 = 8 := by omega
    have e : ntv v a r = vu (vu (vu (vu (shv v) 25 7) 40 a) 41 r) 25 8 := by
      have e1 := ntv_ge (v := v) (a := a) (r := r) hc
      rw [h8] at e1
      exact e1
    have sh : ∀ j, (j < 26 ∨ 39 < j) → shv v j = v j := fun j hj => if_neg (by omega)
    have sh2 : ∀ j, 26 ≤ j → j ≤ 39 → shv v j = v (j + 2) := fun j j0 j1 => if_pos ⟨j0, j1⟩
    have e0 : ntv v a r 0 = v 0 := by rw [e, vu_ne (by omega), vu_ne (by omega), vu_ne (by omega), vu_ne (by omega), sh _ (by omega)]
    have e25 : ntv v a r 25 = 8 := by rw [e, vu_self]
    refine ⟨⟨h1, by rw [e0]; exact h2, by rw [e25]; omega, fun l l0 l1 => ?_, fun i i0 i1 => ?_⟩, e0, by rw [e25, if_neg hc]⟩
    · have q : ∀ j, 1 ≤ j → j ≤ 24 → ntv v a r j = v j := fun j j0 j1 => by rw [e, vu_ne (by omega), vu_ne (by omega), vu_ne (by omega), vu_ne (by omega), sh _ (by omega)]
      rw [e0, q _ (by omega) (by omega), q _ (by omega) (by omega), q _ (by omega) (by omega), q _ (by omega) (by omega)]
      exact h4 l l0 l1
    · rw [e25] at i1
      by_cases hi : i = 7
      · rw [e0, e, hi, vu_ne (by omega), vu_ne (by omega), show (26 : Int) + 2 * 7 = 40 by decide, vu_self, vu_ne (by omega), show (27 : Int) + 2 * 7 = 41 by decide, vu_self]
        exact ⟨ha, hr⟩
      · have q : ∀ j, 26 ≤ j → j ≤ 39 → ntv v a r j = v (j + 2) := fun j j0 j1 => by rw [e, vu_ne (by omega), vu_ne (by omega), vu_ne (by omega), vu_ne (by omega), sh2 _ j0 j1]
        rw [e0, q _ (by omega) (by omega), q _ (by omega) (by omega)]
        have := h5 (i + 1) (by omega) (by omega)
        rw [show 26 + 2 * (i + 1) = 26 + 2 * i + 2 by omega, show 27 + 2 * (i + 1) = 27 + 2 * i + 2 by omega] at this
        exact this
theorem okPl.emp {v : Int → Int} {t : Int} (ht : 12 ≤ t ∧ t ≤ 96) : okPl 0 (vu (vu v 0 t) 25 0) := by
  have e0 : vu (vu v 0 t) 25 0 0 = t := by rw [vu_ne (by omega), vu_self]
  have e25 : vu (vu v 0 t) 25 0 25 = 0 := vu_self _ _ _
  exact ⟨by omega, by rw [e0]; exact ht, by rw [e25]; omega, fun l l0 l1 => by omega, fun i i0 i1 => by rw [e25] at i1; omega⟩
theorem pair4 {A1 A2 A3 A4 : Type} (r : A1 × A2 × A3 × A4) : r = (r.1, r.2.1, r.2.2.1, r.2.2.2) := rfl
/-- a part that is read: on, and the plate stays one -/
theorem rlS_ok {T9 : Int → Int} {L9 sd q nl : Int} {v : Int → Int} (hq : 0 ≤ q ∧ q < L9) (hL : L9 ≤ 100) (h : okR nl v) (hn : nl < 6) (hs : 0 ≤ sd ∧ sd ≤ 1) : (q ≤ (rlS T9 L9 sd q nl v).2.1 ∧ (rlS T9 L9 sd q nl v).2.1 ≤ L9) ∧ okR (rlS T9 L9 sd q nl v).2.2.1 (rlS T9 L9 sd q nl v).2.2.2 ∧ ((rlS T9 L9 sd q nl v).1 = true → q + 1 ≤ (rlS T9 L9 sd q nl v).2.1) := by
  have h0 := h.1.2.1
  have a1 := rd_range (T9 := T9) (L9 := L9) (lo := 5) (hi := 60) (dg := 2) (q := q + 1) (by omega) (by omega) (Or.inl rfl)
  have a2 := rd_range (T9 := T9) (L9 := L9) (lo := 0) (hi := 20) (dg := 2) (q := (rd T9 L9 5 60 2 (q + 1)).2) (by omega) (by omega) (Or.inl rfl)
  have a3 := rd_range (T9 := T9) (L9 := L9) (lo := 0) (hi := v 0 - 1) (dg := 2) (q := (rd T9 L9 0 20 2 (rd T9 L9 5 60 2 (q + 1)).2).2) (by omega) (by omega) (Or.inl rfl)
  unfold rlS
  split
  · exact ⟨by dsimp only; omega, h, fun z => by cases z⟩
  · split
    · exact ⟨by dsimp only; omega, h, fun z => by cases z⟩
    · split
      · exact ⟨by dsimp only; omega, h, fun z => by cases z⟩
      · refine ⟨by dsimp only; omega, ⟨h.1.put hn (by omega) (by omega), h.2.v4 (by omega) (by omega) (by omega) (by omega)⟩, fun _ => by dsimp only; omega⟩
theorem rsS_ok {T9 : Int → Int} {L9 q nl : Int} {v : Int → Int} (hq : 0 ≤ q ∧ q < L9) (hL : L9 ≤ 100) (h : okR nl v) : (q ≤ (rsS T9 L9 q nl v).2.1 ∧ (rsS T9 L9 q nl v).2.1 ≤ L9) ∧ okR (rsS T9 L9 q nl v).2.2.1 (rsS T9 L9 q nl v).2.2.2 ∧ ((rsS T9 L9 q nl v).1 = true → q + 1 ≤ (rsS T9 L9 q nl v).2.1) := by
  have h0 := h.1.2.1
  have a1 := rd_range (T9 := T9) (L9 := L9) (lo := 0) (hi := v 0 - 1) (dg := 2) (q := q + 1) (by omega) (by omega) (Or.inl rfl)
  have a2 := rd_range (T9 := T9) (L9 := L9) (lo := 0) (hi := 300) (dg := 3) (q := (rd T9 L9 0 (v 0 - 1) 2 (q + 1)).2) (by omega) (by omega) (Or.inr rfl)
  unfold rsS
  split
  · exact ⟨by dsimp only; omega, h, fun z => by cases z⟩
  · split
    · exact ⟨by dsimp only; omega, h, fun z => by cases z⟩
    · exact ⟨by dsimp only; omega, ⟨(h.1.note9 (by omega) (by omega)).1, h.2.ntv h.1.2.2.1 (by omega) (by omega)⟩, fun _ => by dsimp only; omega⟩
theorem rpS_ok {T9 : Int → Int} {L9 q nl : Int} {v : Int → Int} (hq : 0 ≤ q ∧ q < L9) (hL : L9 ≤ 100) (h : okR nl v) : (q ≤ (rpS T9 L9 q nl v).2.1 ∧ (rpS T9 L9 q nl v).2.1 ≤ L9) ∧ okR (rpS T9 L9 q nl v).2.2.1 (rpS T9 L9 q nl v).2.2.2 ∧ ((rpS T9 L9 q nl v).1 = true → q + 1 ≤ (rpS T9 L9 q nl v).2.1) := by
  have hf : (q ≤ q ∧ q ≤ L9) ∧ okR nl v ∧ ((false : Bool) = true → q + 1 ≤ q) := ⟨by omega, h, fun z => by cases z⟩
  unfold rpS
  split
  · split
    · exact hf
    · exact rlS_ok hq hL h (by omega) (by omega)
  · split
    · split
      · exact hf
      · exact rlS_ok hq hL h (by omega) (by omega)
    · split
      · split
        · exact hf
        · exact rsS_ok hq hL h
      · exact hf
theorem rgS_ok {T9 : Int → Int} {L9 nl : Int} {v : Int → Int} (hL : 0 ≤ L9 ∧ L9 ≤ 100) (hv : inV v) (h : (rgS T9 L9 nl v).1 = true) : (3 ≤ (rgS T9 L9 nl v).2.1 ∨ 1 ≤ (rgS T9 L9 nl v).2.1) ∧ (rgS T9 L9 nl v).2.1 ≤ L9 ∧ okR (rgS T9 L9 nl v).2.2.1 (rgS T9 L9 nl v).2.2.2 := by
  unfold rgS at h ⊢
  by_cases h1 : 0 < L9 ∧ T9 0 = 69
  · have a1 := rd_range (T9 := T9) (L9 := L9) (lo := 12) (hi := 96) (dg := 2) (q := 1) (by omega) (by omega) (Or.inl rfl)
    rw [if_pos h1] at h ⊢
    by_cases h2 : (rd T9 L9 12 96 2 1).1 = -1
    · rw [if_pos h2] at h
      cases h
    · rw [if_neg h2]
      exact ⟨by dsimp only; omega, by dsimp only; omega, okPl.emp (by omega), (hv.vu (by omega)).vu ⟨by omega, by omega⟩⟩
  · rw [if_neg h1] at h
    cases h
theorem rd_start {T9 : Int → Int} {L9 lo hi dg q i u : Int} (hd : dg = 2 ∨ dg = 3) (hi9 : i = dg) (hu : (i = 0 ∧ u = 1) ∨ (i = 1 ∧ u = 10) ∨ (i = 2 ∧ u = 100) ∨ (i = 3 ∧ u = 1000)) : rdN T9 L9 lo hi (dg - 0).toNat 0 u q = rd T9 L9 lo hi dg q := by
  unfold rd
  rcases hd with rfl | rfl
  · rw [if_pos rfl, show u = 100 by omega]
    rfl
  · rw [if_neg (by omega), show u = 1000 by omega]
    rfl
