/-! SIM: what is told of a plate depends on what two vectors have in common -/
section SIM
variable {nl l x y : Int} {v f : Int → Int}
theorem sim.clay (s9 : sim nl v f) (h0 : 0 ≤ l) (h1 : l < nl) : v (4 * l + 1) = f (4 * l + 1) ∧ v (4 * l + 2) = f (4 * l + 2) ∧ v (4 * l + 3) = f (4 * l + 3) ∧ v (4 * l + 4) = f (4 * l + 4) :=
  ⟨s9.2.2.1 _ (by omega) (by omega), s9.2.2.1 _ (by omega) (by omega), s9.2.2.1 _ (by omega) (by omega), s9.2.2.1 _ (by omega) (by omega)⟩
theorem PTl_sim (s9 : sim nl v f) (h0 : 0 ≤ l) (h1 : l < nl) : PTl v l x y ↔ PTl f l x y := by
  obtain ⟨e1, e2, e3, e4⟩ := s9.clay h0 h1
  unfold PTl
  rw [s9.1, e1, e2, e3, e4]
theorem FITw_sim {w sd ho st0 : Int} (s9 : sim nl v f) : FITw v w sd ho st0 ↔ FITw f w sd ho st0 := by
  unfold FITw
  rw [s9.1, s9.2.1]
  constructor
  · intro h i i0 i1
    have := h i i0 i1
    rw [s9.2.2.2 _ (by omega) (by omega), s9.2.2.2 _ (by omega) (by omega)] at this
    exact this
  · intro h i i0 i1
    rw [s9.2.2.2 _ (by omega) (by omega), s9.2.2.2 _ (by omega) (by omega)]
    exact h i i0 i1
theorem FITl_sim (s9 : sim nl v f) (h0 : 0 ≤ l) (h1 : l < nl) : FITl v l ↔ FITl f l := by
  obtain ⟨e1, e2, e3, e4⟩ := s9.clay h0 h1
  unfold FITl
  rw [e1, e2, e3, e4]
  exact FITw_sim s9
theorem fitN_sim (s9 : sim nl v f) : fitN nl v = fitN nl f := by
  unfold fitN
  exact congrArg (fun q : Nat => (q : Int)) (fb_ct_cong fun k hk => dB_congr (FITl_sim s9 (by omega) (by omega)))
theorem thrN_sim (s9 : sim nl v f) : thrN nl v x y = thrN nl f x y := by
  unfold thrN
  exact congrArg (fun q : Nat => (q : Int)) (fb_ct_cong fun k hk => dB_congr (PTl_sim s9 (by omega) (by omega)))
theorem CBf_sim {k : Int} (s9 : sim nl v f) (h0 : 0 ≤ l) (h1 : l < nl) (k0 : 0 ≤ k) (k1 : k < nl) : CBf v k l ↔ CBf f k l := by
  obtain ⟨e1, _⟩ := s9.clay h0 h1
  obtain ⟨d1, _⟩ := s9.clay k0 k1
  unfold CBf
  rw [s9.1, e1, d1]
theorem cutN_sim (s9 : sim nl v f) (h0 : 0 ≤ l) (h1 : l < nl) : cutN nl v l = cutN nl f l := by
  unfold cutN
  exact congrArg (fun q : Nat => (q : Int)) (fb_ct_cong fun k hk => dB_congr (and_congr_right fun _ => CBf_sim s9 h0 h1 (by omega) (by omega)))
theorem lsr_sim (s9 : sim nl v f) (h0 : 0 ≤ l) (h1 : l < nl) : lsr v l = lsr f l := by
  obtain ⟨e1, e2, e3, e4⟩ := s9.clay h0 h1
  unfold lsr
  rw [e1, e2, e3]
theorem grr_sim (s9 : sim nl v f) (h0 : 0 ≤ l) (h1 : l < nl) : grr v l = grr f l := by
  obtain ⟨e1, e2, e3, e4⟩ := s9.clay h0 h1
  unfold grr
  rw [e1, e2, e3]
theorem lsA_sim (s9 : sim nl v f) : ∀ k : Nat, (k : Int) ≤ nl → lsA v k = lsA f k
  | 0, _ => rfl
  | k + 1, h => by
    have ih := lsA_sim s9 k (by omega)
    have e := lsr_sim s9 (l := (k : Int)) (by omega) (by omega)
    show (if lsA v k = -9 ∨ lsr v (k : Int) < lsA v k then lsr v (k : Int) else lsA v k) = (if lsA f k = -9 ∨ lsr f (k : Int) < lsA f k then lsr f (k : Int) else lsA f k)
    rw [ih, e]
theorem grA_sim (s9 : sim nl v f) : ∀ k : Nat, (k : Int) ≤ nl → grA v k = grA f k
  | 0, _ => rfl
  | k + 1, h => by
    have ih := grA_sim s9 k (by omega)
    have e := grr_sim s9 (l := (k : Int)) (by omega) (by omega)
    show (if grA v k < grr v (k : Int) then grr v (k : Int) else grA v k) = (if grA f k < grr f (k : Int) then grr f (k : Int) else grA f k)
    rw [ih, e]
theorem tgA_sim (s9 : sim nl v f) : ∀ k : Nat, (k : Int) ≤ nl → tgA v k = tgA f k
  | 0, _ => rfl
  | k + 1, h => by
    have ih := tgA_sim s9 k (by omega)
    obtain ⟨e1, _⟩ := s9.clay (l := (k : Int)) (by omega) (by omega)
    have a := tgA_step v (k := (k : Int)) (by omega)
    have b := tgA_step f (k := (k : Int)) (by omega)
    rw [show ((k : Int) + 1).toNat = k + 1 by omega, show ((k : Int)).toNat = k by omega] at a b
    rw [a, b, ih, s9.1, e1]
theorem whS_sim {sd ho st0 : Int} (s9 : sim nl v f) : ∀ k : Nat, whS v sd ho st0 k = whS f sd ho st0 k
  | 0 => rfl
  | k + 1 => by
    have ih := whS_sim (sd := sd) (ho := ho) (st0 := st0) s9 k
    by_cases h : FITw v (5 + (k : Int)) sd ho st0
    · have h' := (FITw_sim s9).mp h
      have a := whS_in (w := 5 + (k : Int)) (by omega) h
      have b := whS_in (w := 5 + (k : Int)) (by omega) h'
      rw [show (5 + (k : Int) + 1 - 5).toNat = k + 1 by omega, show (5 + (k : Int) - 5).toNat = k by omega] at a b
      rw [a, b, ih]
    · have h' : ¬ FITw f (5 + (k : Int)) sd ho st0 := fun q => h ((FITw_sim s9).mpr q)
      have a := whS_out (w := 5 + (k : Int)) (by omega) h
      have b := whS_out (w := 5 + (k : Int)) (by omega) h'
      rw [show (5 + (k : Int) + 1 - 5).toNat = k + 1 by omega, show (5 + (k : Int) - 5).toNat = k by omega] at a b
      rw [a, b, ih]
theorem sim.cvu (s9 : sim nl v f) {z a : Int} (h0 : 1 ≤ z) (h1 : z ≤ 24) : sim nl (vu v z a) (vu f z a) := by
  refine ⟨by rw [vu_ne (by omega), vu_ne (by omega)]; exact s9.1, by rw [vu_ne (by omega), vu_ne (by omega)]; exact s9.2.1, fun i i0 i1 => ?_, fun i i0 i1 => ?_⟩
  · by_cases h : i = z
    · rw [h, vu_self, vu_self]
    · rw [vu_ne h, vu_ne h]; exact s9.2.2.1 i i0 i1
  · rw [vu_ne (show (25 : Int) ≠ z by omega)] at i1
    rw [vu_ne (by omega), vu_ne (by omega)]
    exact s9.2.2.2 i i0 i1
theorem sim.csee0 (s9 : sim nl v f) : sim nl (vu v 25 0) (vu f 25 0) := by
  refine ⟨by rw [vu_ne (by omega), vu_ne (by omega)]; exact s9.1, by rw [vu_self, vu_self], fun i i0 i1 => ?_, fun i i0 i1 => ?_⟩
  · by_cases h : i = 25
    · rw [h, vu_self, vu_self]
    · rw [vu_ne h, vu_ne h]; exact s9.2.2.1 i i0 i1
  · rw [vu_self] at i1
    omega
theorem sim.cv4 (s9 : sim nl v f) {a b c9 d : Int} (hn : 0 ≤ nl ∧ nl < 6) : sim (nl + 1) (v4 v nl a b c9 d) (v4 f nl a b c9 d) := by
  have e : ∀ u : Int → Int, v4 u nl a b c9 d 0 = u 0 := fun u => v4_at (by omega)
  have e2 : ∀ u : Int → Int, v4 u nl a b c9 d 25 = u 25 := fun u => v4_at (by omega)
  refine ⟨by rw [e, e]; exact s9.1, by rw [e2, e2]; exact s9.2.1, fun i i0 i1 => ?_, fun i i0 i1 => ?_⟩
  · by_cases h : i ≤ 4 * nl
    · rw [v4_at (by omega), v4_at (by omega)]; exact s9.2.2.1 i i0 h
    · obtain ⟨q1, q2, q3, q4⟩ := v4_lay (v := v) (l := nl) (a := a) (b := b) (c9 := c9) (d := d)
      obtain ⟨p1, p2, p3, p4⟩ := v4_lay (v := f) (l := nl) (a := a) (b := b) (c9 := c9) (d := d)
      have h4 : i = 4 * nl + 1 ∨ i = 4 * nl + 2 ∨ i = 4 * nl + 3 ∨ i = 4 * nl + 4 := by omega
      rcases h4 with h4 | h4 | h4 | h4 <;> rw [h4]
      · rw [q1, p1]
      · rw [q2, p2]
      · rw [q3, p3]
      · rw [q4, p4]
  · rw [e2] at i1
    rw [v4_at (by omega), v4_at (by omega)]
    exact s9.2.2.2 i i0 i1
theorem sim.cdrv (s9 : sim nl v f) (hl : 0 ≤ l ∧ l < nl) (hn : nl ≤ 6) : sim (nl - 1) (drv nl v l) (drv nl f l) := by
  have e : ∀ (u : Int → Int) (i : Int), (i < 4 * l + 1 ∨ 4 * (nl - 1) < i) → drv nl u l i = u i := fun u i hi => if_neg (by omega)
  have e2 : ∀ (u : Int → Int) (i : Int), 4 * l + 1 ≤ i → i ≤ 4 * (nl - 1) → drv nl u l i = u (i + 4) := fun u i i0 i1 => if_pos ⟨i0, i1⟩
  refine ⟨by rw [e _ _ (by omega), e _ _ (by omega)]; exact s9.1, by rw [e _ _ (by omega), e _ _ (by omega)]; exact s9.2.1, fun i i0 i1 => ?_, fun i i0 i1 => ?_⟩
  · by_cases h : i < 4 * l + 1
    · rw [e _ _ (by omega), e _ _ (by omega)]; exact s9.2.2.1 i i0 (by omega)
    · rw [e2 _ _ (by omega) (by omega), e2 _ _ (by omega) (by omega)]; exact s9.2.2.1 _ (by omega) (by omega)
  · rw [e _ 25 (by omega)] at i1
    rw [e _ _ (by omega), e _ _ (by omega)]
    exact s9.2.2.2 i i0 i1
theorem tkr_25 {t : Int} (u : Int → Int) : tkr nl u t 25 = u 25 := by
  unfold tkr
  rw [if_neg (by omega), if_neg (by omega), if_neg (by omega)]
theorem tkr_congr {t i : Int} (h : v i = f i) : tkr nl v t i = tkr nl f t i := by
  unfold tkr
  rw [h]
theorem sim.ctkr {t : Int} (s9 : sim nl v f) : sim nl (tkr nl v t) (tkr nl f t) := by
  refine ⟨tkr_congr s9.1, tkr_congr s9.2.1, fun i i0 i1 => tkr_congr (s9.2.2.1 i i0 i1), fun i i0 i1 => ?_⟩
  rw [tkr_25] at i1
  exact tkr_congr (s9.2.2.2 i i0 i1)
theorem tk2_sim {t : Int} (hn : 0 ≤ nl ∧ nl ≤ 6) (h25 : 0 ≤ f 25 ∧ f 25 ≤ 8) : sim nl (tk2 nl f t (f 25)) (tkr nl f t) := by
  have e : ∀ i, i < 26 + 2 * f 25 → tk2 nl f t (f 25) i = tkr nl f t i := by
    intro i hi
    unfold tk2 tkr
    by_cases h0 : i = 0
    · rw [if_pos h0, if_pos h0]
    · rw [if_neg h0, if_neg h0]
      by_cases h1 : 4 ≤ i ∧ i ≤ 4 * nl ∧ i % 4 = 0 ∧ ¬ (0 ≤ f i ∧ f i < t)
      · rw [if_pos h1, if_pos h1]
      · rw [if_neg h1, if_neg h1]
        by_cases h2 : 26 ≤ i ∧ i < 26 + 2 * f 25 ∧ i % 2 = 0 ∧ ¬ (0 ≤ f i ∧ f i < t)
        · rw [if_pos h2, if_pos ⟨h2.1, by omega, h2.2.2⟩]
        · rw [if_neg h2, if_neg (fun q => h2 ⟨q.1, hi, q.2.2⟩)]
  refine ⟨e _ (by omega), e _ (by omega), fun i i0 i1 => e i (by omega), fun i i0 i1 => ?_⟩
  rw [tkr_25] at i1
  exact e i i1
theorem sim.cntv {a r : Int} (s9 : sim nl v f) (h25 : 0 ≤ f 25 ∧ f 25 ≤ 8) (hn : nl ≤ 6) : sim nl (ntv v a r) (ntv f a r) := by
  have hv : v 25 = f 25 := s9.2.1
  by_cases hc : f 25 < 8
  · have e1 : ntv v a r = vu (vu (vu v (26 + 2 * f 25) a) (27 + 2 * f 25) r) 25 (f 25 + 1) := by rw [ntv_lt rfl (by omega), hv]
    have e2 : ntv f a r = vu (vu (vu f (26 + 2 * f 25) a) (27 + 2 * f 25) r) 25 (f 25 + 1) := ntv_lt rfl hc
    rw [e1, e2]
    refine ⟨by rw [vu_ne (by omega), vu_ne (by omega), vu_ne (by omega), vu_ne (by omega), vu_ne (by omega), vu_ne (by omega)]; exact s9.1, by rw [vu_self, vu_self], fun i i0 i1 => ?_, fun i i0 i1 => ?_⟩
    · rw [vu_ne (by omega), vu_ne (by omega), vu_ne (by omega), vu_ne (by omega), vu_ne (by omega), vu_ne (by omega)]
      exact s9.2.2.1 i i0 i1
    · rw [vu_self] at i1
      rw [vu_ne (by omega), vu_ne (show i ≠ 25 by omega)]
      by_cases h1 : i = 27 + 2 * f 25
      · rw [h1, vu_self, vu_self]
      · rw [vu_ne h1, vu_ne h1]
        by_cases h2 : i = 26 + 2 * f 25
        · rw [h2, vu_self, vu_self]
        · rw [vu_ne h2, vu_ne h2]
          exact s9.2.2.2 i i0 (by omega)
  · have h8 : f 25 = 8 := by omega
    have e1 : ntv v a r = vu (vu (vu (vu (shv v) 25 7) 40 a) 41 r) 25 8 := by
      have q := ntv_ge (v := v) (a := a) (r := r) (by omega)
      rw [hv, h8] at q
      exact q
    have e2 : ntv f a r = vu (vu (vu (vu (shv f) 25 7) 40 a) 41 r) 25 8 := by
      have q := ntv_ge (v := f) (a := a) (r := r) (by omega)
      rw [h8] at q
      exact q
    rw [e1, e2]
    have sh : ∀ (u : Int → Int) (j : Int), (j < 26 ∨ 39 < j) → shv u j = u j := fun u j hj => if_neg (by omega)
    have sh2 : ∀ (u : Int → Int) (j : Int), 26 ≤ j → j ≤ 39 → shv u j = u (j + 2) := fun u j j0 j1 => if_pos ⟨j0, j1⟩
    refine ⟨?_, by rw [vu_self, vu_self], fun i i0 i1 => ?_, fun i i0 i1 => ?_⟩
    · rw [vu_ne (by omega), vu_ne (by omega), vu_ne (by omega), vu_ne (by omega), sh _ _ (by omega), vu_ne (by omega), vu_ne (by omega), vu_ne (by omega), vu_ne (by omega), sh _ _ (by omega)]
      exact s9.1
    · rw [vu_ne (by omega), vu_ne (by omega), vu_ne (by omega), vu_ne (by omega), sh _ _ (by omega), vu_ne (by omega), vu_ne (by omega), vu_ne (by omega), vu_ne (by omega), sh _ _ (by omega)]
      exact s9.2.2.1 i i0 i1
    · rw [vu_self] at i1
      rw [vu_ne (by omega), vu_ne (show i ≠ 25 by omega)]
      by_cases h1 : i = 41
      · rw [h1, vu_self, vu_self]
      · rw [vu_ne h1, vu_ne h1]
        by_cases h2 : i = 40
        · rw [h2, vu_self, vu_self]
        · rw [vu_ne h2, vu_ne h2, vu_ne (by omega), vu_ne (by omega), sh2 _ _ (by omega) (by omega), sh2 _ _ (by omega) (by omega)]
          exact s9.2.2.2 _ (by omega) (by omega)
theorem cmOK_sim {kd c2 c3 c4 c5 : Int} (s9 : sim nl v f) (h2 : 0 ≤ c2) (h3 : 0 ≤ c3) : cmOK kd c2 c3 c4 c5 nl v ↔ cmOK kd c2 c3 c4 c5 nl f := by
  unfold cmOK
  by_cases k1 : kd = 1
  · rw [if_pos k1, if_pos k1, s9.1]
  rw [if_neg k1, if_neg k1]
  by_cases k2 : kd = 2
  · rw [if_pos k2, if_pos k2]
  rw [if_neg k2, if_neg k2]
  by_cases k3 : kd = 3
  · rw [if_pos k3, if_pos k3]
  rw [if_neg k3, if_neg k3]
  by_cases k4 : kd = 4
  · rw [if_pos k4, if_pos k4]
  rw [if_neg k4, if_neg k4]
  by_cases k5 : kd = 5
  · rw [if_pos k5, if_pos k5]
    refine and_congr_right fun a => and_congr_right fun b => ?_
    rw [show cntS (fun x y => PTl v c2 x y ∧ PTl v c3 x y) = cntS (fun x y => PTl f c2 x y ∧ PTl f c3 x y) from cntS_congr (fun x y _ _ _ _ => and_congr (PTl_sim s9 h2 a) (PTl_sim s9 h3 b))]
  rw [if_neg k5, if_neg k5]
  by_cases k6 : kd = 6
  · rw [if_pos k6, if_pos k6]
    refine and_congr_right fun a => ?_
    rw [s9.1, (s9.clay h2 a).1]
  rw [if_neg k6, if_neg k6]
  by_cases k7 : kd = 7
  · rw [if_pos k7, if_pos k7]
    refine and_congr_right fun a => and_congr_right fun b => ?_
    obtain ⟨e1, e2, e3, e4⟩ := s9.clay h2 a
    obtain ⟨d1, d2, d3, d4⟩ := s9.clay h3 b
    rw [s9.1, e1, e2, e3, e4, d1, d2, d3, d4]
  rw [if_neg k7, if_neg k7]
  by_cases k8 : kd = 8
  · rw [if_pos k8, if_pos k8, fitN_sim s9]
  rw [if_neg k8, if_neg k8]
  by_cases k9 : kd = 9
  · rw [if_pos k9, if_pos k9]
    refine and_congr_right fun a => ?_
    rw [s9.1, (s9.clay h2 a).1]
  rw [if_neg k9, if_neg k9]
theorem cmP_sim {kd c2 c3 c4 c5 : Int} (s9 : sim nl v f) (hn : 0 ≤ nl ∧ nl ≤ 6) (h2 : 0 ≤ c2) (h3 : 0 ≤ c3) (hc : cmOK kd c2 c3 c4 c5 nl f) : (cmP kd c2 c3 c4 c5 nl v).1 = (cmP kd c2 c3 c4 c5 nl f).1 ∧ sim (cmP kd c2 c3 c4 c5 nl f).1 (cmP kd c2 c3 c4 c5 nl v).2 (cmP kd c2 c3 c4 c5 nl f).2 := by
  unfold cmOK at hc
  unfold cmP
  by_cases k1 : kd = 1
  · rw [if_pos k1] at hc
    rw [if_pos k1, if_pos k1]
    exact ⟨rfl, s9.cvu (by omega) (by omega)⟩
  rw [if_neg k1] at hc
  rw [if_neg k1, if_neg k1]
  by_cases k2 : kd = 2
  · rw [if_pos k2] at hc
    rw [if_pos k2, if_pos k2]
    exact ⟨rfl, s9.cdrv ⟨h2, hc.2.2⟩ hn.2⟩
  rw [if_neg k2] at hc
  rw [if_neg k2, if_neg k2]
  by_cases k3 : kd = 3
  · rw [if_pos k3, if_pos k3]
    exact ⟨rfl, s9.ctkr⟩
  rw [if_neg k3] at hc
  rw [if_neg k3, if_neg k3]
  by_cases k4 : kd = 4
  · rw [if_pos k4] at hc
    rw [if_pos k4, if_pos k4]
    exact ⟨rfl, s9.cv4 ⟨hn.1, hc.2.2.2⟩⟩
  rw [if_neg k4, if_neg k4]
  exact ⟨rfl, s9⟩
theorem cmQ_okP {grp : Int} (h : okPl nl v) (hg : 0 ≤ grp ∧ grp < 100000) (hc : cmG grp nl v) : okPl (cmQ grp nl v).1 (cmQ grp nl v).2 := by
  have hn := h.1
  have hr := h.2.1
  unfold cmG cmOK at hc
  unfold cmQ cmP
  by_cases h1 : grp / 10000 % 10 = 1
  · rw [if_pos h1] at hc ⊢
    exact h.ch ⟨by omega, hc.1⟩ hc.2
  rw [if_neg h1] at hc ⊢
  by_cases h2 : grp / 10000 % 10 = 2
  · rw [if_pos h2] at hc ⊢
    exact h.dr ⟨by omega, hc.2.2⟩
  rw [if_neg h2] at hc ⊢
  by_cases h3 : grp / 10000 % 10 = 3
  · rw [if_pos h3] at hc ⊢
    exact h.tk ⟨hc.2.2.1, hc.2.2.2⟩
  rw [if_neg h3] at hc ⊢
  by_cases h4 : grp / 10000 % 10 = 4
  · rw [if_pos h4] at hc ⊢
    exact h.put hc.2.2.2 ⟨by omega, by omega, by omega⟩ ⟨by omega, by omega⟩
  rw [if_neg h4]
  exact h
theorem rsF_sim {G9 : Int → Int} {m9 : Int} (hG : ∀ i, 0 ≤ G9 i ∧ G9 i < 100000) : ∀ (k : Nat) (i nl : Int) (v f : Int → Int), okPl nl f → sim nl v f → rsF G9 m9 k i nl v = rsF G9 m9 k i nl f
  | 0, _, _, _, _, _, _ => rfl
  | k + 1, i, nl, v, f, hok, s9 => by
    have hgi := hG i
    have e : cmG (G9 i) nl v ↔ cmG (G9 i) nl f := cmOK_sim s9 (by omega) (by omega)
    by_cases him : i < m9
    · by_cases hc : cmG (G9 i) nl f
      · have hc' := e.mpr hc
        have p := cmP_sim (kd := G9 i / 10000 % 10) (c2 := G9 i / 1000 % 10) (c3 := G9 i / 100 % 10) (c4 := G9 i / 10 % 10) (c5 := G9 i % 10) s9 hok.1 (by omega) (by omega) hc
        have a : rsF G9 m9 (k + 1) i nl v = rsF G9 m9 k (i + 1) (cmQ (G9 i) nl v).1 (cmQ (G9 i) nl v).2 := (if_pos him).trans (if_pos hc')
        have b : rsF G9 m9 (k + 1) i nl f = rsF G9 m9 k (i + 1) (cmQ (G9 i) nl f).1 (cmQ (G9 i) nl f).2 := (if_pos him).trans (if_pos hc)
        have p1 : (cmQ (G9 i) nl v).1 = (cmQ (G9 i) nl f).1 := p.1
        rw [a, b, p1]
        exact rsF_sim hG k (i + 1) _ _ _ (cmQ_okP hok hgi hc) p.2
      · have hc' : ¬ cmG (G9 i) nl v := fun q => hc (e.mp q)
        have a : rsF G9 m9 (k + 1) i nl v = i := (if_pos him).trans (if_neg hc')
        have b : rsF G9 m9 (k + 1) i nl f = i := (if_pos him).trans (if_neg hc)
        rw [a, b]
    · have a : rsF G9 m9 (k + 1) i nl v = -9 := if_neg him
      have b : rsF G9 m9 (k + 1) i nl f = -9 := if_neg him
      rw [a, b]
end SIM
