/-! THE LAW: what holds between two calls -/
def LSc (κ : gKap) (ad : Nat → Nat) (g : Nat → va_E) (tl nl ns old cnt m0 m1 : Int) (T9 v vs w0 w1 F9 : Int → Int) (P9 : Nat → Int × (Int → Int)) : Prop :=
  isX κ ad g tl ∧ g 1 = aCh κ 100 T9 ∧ isPl κ ad g 2 nl v ∧ isPl κ ad g 12 ns vs ∧ isHi κ ad g 22 old cnt P9 ∧ g 165 = aZ κ 2 F9 ∧ isPl κ ad g 166 m0 w0 ∧ isPl κ ad g 176 m1 w1 ∧ isBn κ ad g 186
def hsR (old cnt : Int) (P9 : Nat → Int × (Int → Int)) (pa : Int → Int) : Prop := ∀ k : Int, 0 ≤ k → k < cnt → (P9 ((old + k) % 14).toNat).1 = pa (43 * k) ∧ sim (pa (43 * k)) (P9 ((old + k) % 14).toNat).2 (fun i => pa (43 * k + 1 + i)) ∧ okPl (pa (43 * k)) (fun i => pa (43 * k + 1 + i))
def slR (s0 m0 : Int) (w0 : Int → Int) (sv : Int → Int) (k : Int) : Prop := s0 = 1 → m0 = sv k ∧ sim m0 w0 (fun i => sv (k + 1 + i)) ∧ okPl m0 (fun i => sv (k + 1 + i))
def LSp (tl nl cnt old m0 m1 s0 s1 : Int) (T9 v vs f w0 w1 F9 pa sv : Int → Int) (P9 : Nat → Int × (Int → Int)) : Prop :=
  (0 ≤ tl ∧ tl ≤ 100) ∧ (∀ i, 0 ≤ i → i < 100 → 0 ≤ T9 i ∧ T9 i ≤ 255) ∧ okPl nl f ∧ sim nl v f ∧ inV v ∧ inV vs ∧ (0 ≤ old ∧ old < 14) ∧ (0 ≤ cnt ∧ cnt ≤ 14) ∧ (∀ j : Nat, j < 14 → inV (P9 j).2) ∧ hsR old cnt P9 pa ∧ inV w0 ∧ inV w1 ∧ ((s0 = 0 ∨ s0 = 1) ∧ (s1 = 0 ∨ s1 = 1)) ∧ (F9 0 = s0 ∧ F9 1 = s1) ∧ slR s0 m0 w0 sv 0 ∧ slR s1 m1 w1 sv 43
def LI (κ : gKap) (ad : Nat → Nat) (g : Nat → va_E) (th b9 : Int) : Prop := ∃ (tl nl ns old cnt m0 m1 s0 s1 : Int) (T9 v vs f w0 w1 F9 pa sv : Int → Int) (P9 : Nat → Int × (Int → Int)),
  LSc κ ad g tl nl ns old cnt m0 m1 T9 v vs w0 w1 F9 P9 ∧ LSp tl nl cnt old m0 m1 s0 s1 T9 v vs f w0 w1 F9 pa sv P9 ∧ jkM κ ad g nl th tl s0 s1 cnt b9 f T9 pa sv
def LE (κ : gKap) (ad : Nat → Nat) (g : Nat → va_E) (z zm b9 : Int) : Prop := LI κ ad g z b9 ∧ (0 ≤ z ∧ z ≤ 2) ∧ ∃ o9 : Int → Int64, g 200 = aJ κ 1 o9 ∧ (z = 0 → o9 0 = jz (rI zm))
section LIS
variable {κ : gKap} {ad : Nat → Nat} {g g' : Nat → va_E} {tl nl ns old cnt m0 m1 th s0 s1 b9 c9 : Int} {T9 v vs f w0 w1 F9 pa sv X9 : Int → Int} {P9 : Nat → Int × (Int → Int)}
theorem isX.far (h : isX κ ad g tl) (hq : ∀ q, q < 186 → g' q = g q) : isX κ ad g' tl := ⟨(hq _ (by omega)).trans h.1, (hq _ (by omega)).trans h.2⟩
theorem LSc.far (h : LSc κ ad g tl nl ns old cnt m0 m1 T9 v vs w0 w1 F9 P9) (hq : ∀ q, q < 192 → g' q = g q) : LSc κ ad g' tl nl ns old cnt m0 m1 T9 v vs w0 w1 F9 P9 := by
  obtain ⟨h1, h2, h3, h4, h5, h6, h7, h8, h9⟩ := h
  exact ⟨h1.far (fun q hh => hq q (by omega)), (hq _ (by omega)).trans h2, h3.far (fun q _ _ => hq q (by omega)), h4.far (fun q _ _ => hq q (by omega)), h5.far (fun q _ _ => hq q (by omega)), (hq _ (by omega)).trans h6, h7.far (fun q _ _ => hq q (by omega)), h8.far (fun q _ _ => hq q (by omega)), h9.far (fun q _ _ => hq q (by omega))⟩
theorem LSc.bench (h : LSc κ ad g tl nl ns old cnt m0 m1 T9 v vs w0 w1 F9 P9) (hb : isBn κ ad g' 186) (hf : frB g g' 186) : LSc κ ad g' tl nl ns old cnt m0 m1 T9 v vs w0 w1 F9 P9 := by
  obtain ⟨h1, h2, h3, h4, h5, h6, h7, h8, h9⟩ := h
  have hq : ∀ q, q < 186 → g' q = g q := fun q hh => hf q (Or.inl hh)
  exact ⟨h1.far hq, (hq _ (by omega)).trans h2, h3.far (fun q _ _ => hq q (by omega)), h4.far (fun q _ _ => hq q (by omega)), h5.far (fun q _ _ => hq q (by omega)), (hq _ (by omega)).trans h6, h7.far (fun q _ _ => hq q (by omega)), h8.far (fun q _ _ => hq q (by omega)), hb⟩
theorem jkM.far {ly tx rm : Int} (h : jkM κ ad g ly th tx s0 s1 rm b9 f X9 pa sv) (hq : ∀ q, 192 ≤ q → q < 200 → g' q = g q) : jkM κ ad g' ly th tx s0 s1 rm b9 f X9 pa sv := by
  obtain ⟨mk, rl, a0, wr, M9, q9, be, h1, h2, h3, h4, h5, h6, h7, h8, h9⟩ := h
  exact ⟨mk, rl, a0, wr, M9, q9, be, (hq _ (by omega) (by omega)).trans h1, (hq _ (by omega) (by omega)).trans h2, (hq _ (by omega) (by omega)).trans h3, (hq _ (by omega) (by omega)).trans h4, (hq _ (by omega) (by omega)).trans h5, (hq _ (by omega) (by omega)).trans h6, (hq _ (by omega) (by omega)).trans h7, (hq _ (by omega) (by omega)).trans h8, h9⟩
theorem jkM.up {ly tx rm : Int} (h : jkM κ ad g ly th tx s0 s1 rm b9 f X9 pa sv) (hb : b9 ≤ c9) : jkM κ ad g ly th tx s0 s1 rm c9 f X9 pa sv := by
  obtain ⟨mk, rl, a0, wr, M9, q9, be, h1, h2, h3, h4, h5, h6, h7, h8, h9, h10⟩ := h
  exact ⟨mk, rl, a0, wr, M9, q9, be, h1, h2, h3, h4, h5, h6, h7, h8, ⟨h9.1, by omega⟩, h10⟩
theorem LI.thr (h : LI κ ad g th b9) (l : Launch) (B : Nat) : ∃ fs, g 192 = .inr (8, fs) ∧ Met l yX8_thrown wsX8_thrown ({ frames := 0, cells := 0, slots := 0, locals := 0 }) (gPre κ B 201 ad g [.ref (ad 192)]) (gQi κ B 201 ad (fun z g' => g' = g ∧ (z = th))) 0 0 (gFree B) := by
  obtain ⟨tl, nl, ns, old, cnt, m0, m1, s0, s1, T9, v, vs, f, w0, w1, F9, pa, sv, P9, -, -, mk, rl, a0, wr, M9, q9, be, h1, -⟩ := h
  exact ⟨_, h1, c_X8_thrown l κ B 201 ad g nl th mk tl rl a0 wr s0 s1 cnt (by omega) h1⟩
theorem LI.x0 (h : LI κ ad g th b9) : ∃ fs, g 0 = .inr (7, fs) := by
  obtain ⟨tl, nl, ns, old, cnt, m0, m1, s0, s1, T9, v, vs, f, w0, w1, F9, pa, sv, P9, hC, -⟩ := h
  exact ⟨_, hC.1.1⟩
theorem hsR.oth {pa' : Int → Int} (h : hsR old cnt P9 pa) (e : ∀ i, 0 ≤ i → i < 43 * cnt → pa' i = pa i) (hc : ∀ k, 0 ≤ k → k < cnt → 0 ≤ pa (43 * k + 1 + 25) ∧ pa (43 * k + 1 + 25) ≤ 8 ∧ pa (43 * k) ≤ 6) : hsR old cnt P9 pa' := fun k k0 k1 => by
  obtain ⟨h1, h2, h3⟩ := h k k0 k1
  have hcc := hc k k0 k1
  have e0 := e (43 * k) (by omega) (by omega)
  have ee : ∀ i, 0 ≤ i → i < 42 → pa' (43 * k + 1 + i) = pa (43 * k + 1 + i) := fun i i0 i1 => e _ (by omega) (by omega)
  have s9 : sim (pa (43 * k)) (fun i => pa (43 * k + 1 + i)) (fun i => pa' (43 * k + 1 + i)) := by
    refine ⟨(ee 0 (by omega) (by omega)).symm, (ee 25 (by omega) (by omega)).symm, fun i i0 i1 => (ee i (by omega) (by omega)).symm, fun i i0 i1 => (ee i (by omega) ?_).symm⟩
    have e25 := ee 25 (by omega) (by omega)
    have i2 : i < 26 + 2 * pa' (43 * k + 1 + 25) := i1
    omega
  rw [e0]
  exact ⟨h1, h2.tr s9, h3.sim s9⟩
end LIS
/-! texts: the answer doesn't depend on what is left over -/
section RTS
variable {T9 v f : Int → Int} {L9 nl q : Int}
theorem rlS_sim {sd : Int} (s9 : sim nl v f) (hn : 0 ≤ nl ∧ nl < 6) : (rlS T9 L9 sd q nl v).1 = (rlS T9 L9 sd q nl f).1 ∧ (rlS T9 L9 sd q nl v).2.1 = (rlS T9 L9 sd q nl f).2.1 ∧ (rlS T9 L9 sd q nl v).2.2.1 = (rlS T9 L9 sd q nl f).2.2.1 ∧ sim (rlS T9 L9 sd q nl f).2.2.1 (rlS T9 L9 sd q nl v).2.2.2 (rlS T9 L9 sd q nl f).2.2.2 := by
  unfold rlS
  rw [s9.1]
  split
  · exact ⟨rfl, rfl, rfl, s9⟩
  · split
    · exact ⟨rfl, rfl, rfl, s9⟩
    · split
      · exact ⟨rfl, rfl, rfl, s9⟩
      · exact ⟨rfl, rfl, rfl, s9.cv4 hn⟩
theorem rsS_sim (s9 : sim nl v f) (h25 : 0 ≤ f 25 ∧ f 25 ≤ 8) (hn : nl ≤ 6) : (rsS T9 L9 q nl v).1 = (rsS T9 L9 q nl f).1 ∧ (rsS T9 L9 q nl v).2.1 = (rsS T9 L9 q nl f).2.1 ∧ (rsS T9 L9 q nl v).2.2.1 = (rsS T9 L9 q nl f).2.2.1 ∧ sim (rsS T9 L9 q nl f).2.2.1 (rsS T9 L9 q nl v).2.2.2 (rsS T9 L9 q nl f).2.2.2 := by
  unfold rsS
  rw [s9.1]
  split
  · exact ⟨rfl, rfl, rfl, s9⟩
  · split
    · exact ⟨rfl, rfl, rfl, s9⟩
    · exact ⟨rfl, rfl, rfl, s9.cntv h25 hn⟩
theorem rpS_sim (s9 : sim nl v f) (h25 : 0 ≤ f 25 ∧ f 25 ≤ 8) (hn : 0 ≤ nl ∧ nl ≤ 6) : (rpS T9 L9 q nl v).1 = (rpS T9 L9 q nl f).1 ∧ (rpS T9 L9 q nl v).2.1 = (rpS T9 L9 q nl f).2.1 ∧ (rpS T9 L9 q nl v).2.2.1 = (rpS T9 L9 q nl f).2.2.1 ∧ sim (rpS T9 L9 q nl f).2.2.1 (rpS T9 L9 q nl v).2.2.2 (rpS T9 L9 q nl f).2.2.2 := by
  unfold rpS
  rw [s9.2.1]
  split
  · split
    · exact ⟨rfl, rfl, rfl, s9⟩
    · exact rlS_sim s9 (by omega)
  · split
    · split
      · exact ⟨rfl, rfl, rfl, s9⟩
      · exact rlS_sim s9 (by omega)
    · split
      · split
        · exact ⟨rfl, rfl, rfl, s9⟩
        · exact rsS_sim s9 h25 hn.2
      · exact ⟨rfl, rfl, rfl, s9⟩
theorem rdS_sim (hL : L9 ≤ 100) : ∀ (k : Nat) (q nl : Int) (v f : Int → Int), 0 ≤ q → q ≤ L9 → okR nl f → sim nl v f → (rdS T9 L9 k q nl v).1 = (rdS T9 L9 k q nl f).1 ∧ (rdS T9 L9 k q nl v).2.1 = (rdS T9 L9 k q nl f).2.1 ∧ sim (rdS T9 L9 k q nl f).2.1 (rdS T9 L9 k q nl v).2.2 (rdS T9 L9 k q nl f).2.2
  | 0, _, _, _, _, _, _, _, s9 => ⟨rfl, rfl, s9⟩
  | k + 1, q, nl, v, f, q0, q1, hok, s9 => by
    by_cases hq : q < L9
    · obtain ⟨a1, a2, a3, a4⟩ := rpS_sim (T9 := T9) (L9 := L9) (q := q) s9 hok.1.2.2.1 hok.1.1
      have hk := rpS_ok (T9 := T9) (L9 := L9) (q := q) (nl := nl) (v := f) ⟨q0, hq⟩ hL hok
      by_cases hc : (rpS T9 L9 q nl f).1 = true
      · have e1 : rdS T9 L9 (k + 1) q nl v = rdS T9 L9 k (rpS T9 L9 q nl v).2.1 (rpS T9 L9 q nl v).2.2.1 (rpS T9 L9 q nl v).2.2.2 := (if_pos hq).trans (if_pos (a1.trans hc))
        have e2 : rdS T9 L9 (k + 1) q nl f = rdS T9 L9 k (rpS T9 L9 q nl f).2.1 (rpS T9 L9 q nl f).2.2.1 (rpS T9 L9 q nl f).2.2.2 := (if_pos hq).trans (if_pos hc)
        rw [e1, e2, a2, a3]
        exact rdS_sim hL k _ _ _ _ (by omega) hk.1.2 hk.2.1 a4
      · have e1 : rdS T9 L9 (k + 1) q nl v = ((rpS T9 L9 q nl v).2.1, (rpS T9 L9 q nl v).2.2.1, (rpS T9 L9 q nl v).2.2.2) := (if_pos hq).trans (if_neg (by rw [a1]; exact hc))
        have e2 : rdS T9 L9 (k + 1) q nl f = ((rpS T9 L9 q nl f).2.1, (rpS T9 L9 q nl f).2.2.1, (rpS T9 L9 q nl f).2.2.2) := (if_pos hq).trans (if_neg hc)
        rw [e1, e2]
        exact ⟨a2, a3, a4⟩
    · have e1 : rdS T9 L9 (k + 1) q nl v = (-9, nl, v) := if_neg hq
      have e2 : rdS T9 L9 (k + 1) q nl f = (-9, nl, f) := if_neg hq
      rw [e1, e2]
      exact ⟨rfl, rfl, s9⟩
theorem rtS_sim {nl2 : Int} (hL : 0 ≤ L9 ∧ L9 ≤ 100) (hf : inV f) : (rtS T9 L9 nl v).1 = (rtS T9 L9 nl2 f).1 ∧ ((rtS T9 L9 nl2 f).1 = -9 → (rtS T9 L9 nl v).2.1 = (rtS T9 L9 nl2 f).2.1 ∧ sim (rtS T9 L9 nl2 f).2.1 (rtS T9 L9 nl v).2.2 (rtS T9 L9 nl2 f).2.2) := by
  unfold rtS
  by_cases hg : 0 < L9 ∧ T9 0 = 69
  · by_cases hr : (rd T9 L9 12 96 2 1).1 = -1
    · have e1 : ∀ n u, rgS T9 L9 n u = (false, (rd T9 L9 12 96 2 1).2, n, u) := fun n u => by unfold rgS; rw [if_pos hg, if_pos hr]
      have hrr := rd_range (T9 := T9) (L9 := L9) (lo := 12) (hi := 96) (dg := 2) (q := 1) (by omega) (by omega) (Or.inl rfl)
      rw [e1, e1]
      refine ⟨rfl, fun q => ?_⟩
      have q2 : (rd T9 L9 12 96 2 1).2 = -9 := q
      omega
    · have e1 : ∀ n u, rgS T9 L9 n u = (true, (rd T9 L9 12 96 2 1).2, 0, vu (vu u 0 (rd T9 L9 12 96 2 1).1) 25 0) := fun n u => by unfold rgS; rw [if_pos hg, if_neg hr]
      have hok := rgS_ok (T9 := T9) (L9 := L9) (nl := nl2) (v := f) hL hf (by rw [e1])
      rw [e1] at hok
      rw [e1, e1]
      have s9 : sim 0 (vu (vu v 0 (rd T9 L9 12 96 2 1).1) 25 0) (vu (vu f 0 (rd T9 L9 12 96 2 1).1) 25 0) := by
        refine ⟨(vu_ne (by omega)).trans (Eq.trans (vu_self _ _ _) ((vu_ne (by omega)).trans (vu_self _ _ _)).symm), Eq.trans (vu_self _ _ _) (Eq.symm (vu_self _ _ _)), fun i i0 i1 => by omega, fun i i0 i1 => ?_⟩
        rw [vu_self] at i1
        omega
      have hd := rdS_sim (T9 := T9) hL.2 100 (rd T9 L9 12 96 2 1).2 0 _ _ (by have := hok.1; dsimp only at this; omega) hok.2.1 hok.2.2 s9
      exact ⟨hd.1, fun _ => hd.2⟩
  · have e1 : ∀ n u, rgS T9 L9 n u = (false, 0, n, u) := fun n u => by unfold rgS; rw [if_neg hg]
    rw [e1, e1]
    refine ⟨rfl, fun q => ?_⟩
    have q2 : (0 : Int) = -9 := q
    omega
end RTS
/-! remembered states, as the reference lays them -/
section HST
variable {old cnt nl : Int} {P9 : Nat → Int × (Int → Int)} {pa v f U9 : Int → Int}
theorem stF_at {rw9 : Int → Int} {fr ly : Int} : stF rw9 fr ly f fr = ly := if_pos rfl
theorem stF_in {rw9 : Int → Int} {fr ly i : Int} (h0 : 0 ≤ i) (h1 : i < 42) : stF rw9 fr ly f (fr + 1 + i) = f i := by
  unfold stF
  rw [if_neg (by omega), if_pos (by omega), show fr + 1 + i - fr - 1 = i by omega]
theorem stF_out {rw9 : Int → Int} {fr ly i : Int} (h : i < fr ∨ fr + 43 ≤ i) : stF rw9 fr ly f i = rw9 i := by
  unfold stF
  rw [if_neg (by omega), if_neg (by omega)]
theorem sim_stF {rw9 : Int → Int} {fr ly : Int} (hok : okPl nl f) : sim nl f (fun i => stF rw9 fr ly f (fr + 1 + i)) := by
  refine ⟨(stF_in (by omega) (by omega)).symm, (stF_in (by omega) (by omega)).symm, fun i i0 i1 => (stF_in (by omega) (by have := hok.1; omega)).symm, fun i i0 i1 => ?_⟩
  have h25 : stF rw9 fr ly f (fr + 1 + 25) = f 25 := stF_in (by omega) (by omega)
  have i2 : i < 26 + 2 * stF rw9 fr ly f (fr + 1 + 25) := i1
  rw [h25] at i2
  exact (stF_in (by omega) (by have := hok.2.2.1; omega)).symm
theorem hsR_bd (h : hsR old cnt P9 pa) : ∀ k, 0 ≤ k → k < cnt → 0 ≤ pa (43 * k + 1 + 25) ∧ pa (43 * k + 1 + 25) ≤ 8 ∧ pa (43 * k) ≤ 6 := fun k k0 k1 => by
  have := (h k k0 k1).2.2
  exact ⟨this.2.2.1.1, this.2.2.1.2, this.1.2⟩
/-- one more state on both sides -/
theorem hsR_rem (ho : 0 ≤ old ∧ old < 14) (hc : 0 ≤ cnt ∧ cnt ≤ 14) (h : hsR old cnt P9 pa) (hU : sim nl U9 f) (hok : okPl nl f) :
    hsR (if cnt < 14 then old else (old + 1) % 14) (remC cnt) (fun j => if j = ((old + cnt) % 14).toNat then (nl, U9) else P9 j) (rmF pa cnt nl f) := by
  intro k k0 k1
  unfold remC at k1
  by_cases h14 : cnt < 14
  · rw [if_pos h14] at k1 ⊢
    unfold rmF
    rw [if_pos h14]
    by_cases hk : k = cnt
    · rw [hk]
      dsimp only
      rw [if_pos rfl]
      have e : stF pa (43 * cnt) nl f (43 * cnt) = nl := stF_at
      rw [e]
      exact ⟨rfl, hU.tr (sim_stF hok), hok.sim (sim_stF hok)⟩
    · dsimp only
      rw [if_neg (by omega)]
      have hh : hsR old cnt P9 (stF pa (43 * cnt) nl f) := h.oth (fun i i0 i1 => stF_out (by omega)) (hsR_bd h)
      exact hh k k0 (by omega)
  · rw [if_neg h14] at k1 ⊢
    unfold rmF
    rw [if_neg h14]
    have hc14 : cnt = 14 := by omega
    subst hc14
    by_cases hk : k = 13
    · rw [hk]
      dsimp only
      rw [if_pos (by omega)]
      have e : stF (shF pa) 559 nl f (43 * 13) = nl := stF_at
      rw [e]
      have e2 := sim_stF (rw9 := shF pa) (fr := 559) (ly := nl) hok
      exact ⟨rfl, hU.tr e2, hok.sim e2⟩
    · dsimp only
      rw [if_neg (by omega), show ((old + 1) % 14 + k) % 14 = (old + (k + 1)) % 14 by omega]
      obtain ⟨h1, h2, h3⟩ := h (k + 1) (by omega) (by omega)
      have e : ∀ i, 0 ≤ i → i < 43 → stF (shF pa) 559 nl f (43 * k + i) = pa (43 * (k + 1) + i) := fun i i0 i1 => by
        rw [stF_out (by omega)]
        unfold shF
        rw [if_pos (by omega), show 43 * k + i + 43 = 43 * (k + 1) + i by omega]
      have e0 : stF (shF pa) 559 nl f (43 * k) = pa (43 * (k + 1)) := by
        have := e 0 (by omega) (by omega)
        rw [Int.add_zero, Int.add_zero] at this
        exact this
      have ee : ∀ i, 0 ≤ i → i < 42 → stF (shF pa) 559 nl f (43 * k + 1 + i) = pa (43 * (k + 1) + 1 + i) := fun i i0 i1 => by
        have := e (1 + i) (by omega) (by omega)
        rw [← Int.add_assoc, ← Int.add_assoc] at this
        exact this
      have b25 : 0 ≤ pa (43 * (k + 1) + 1 + 25) ∧ pa (43 * (k + 1) + 1 + 25) ≤ 8 := h3.2.2.1
      have b6 : pa (43 * (k + 1)) ≤ 6 := h3.1.2
      have s9 : sim (pa (43 * (k + 1))) (fun i => pa (43 * (k + 1) + 1 + i)) (fun i => stF (shF pa) 559 nl f (43 * k + 1 + i)) := by
        refine ⟨(ee 0 (by omega) (by omega)).symm, (ee 25 (by omega) (by omega)).symm, fun i i0 i1 => (ee i (by omega) (by omega)).symm, fun i i0 i1 => (ee i (by omega) ?_).symm⟩
        have e25 := ee 25 (by omega) (by omega)
        have i2 : i < 26 + 2 * stF (shF pa) 559 nl f (43 * k + 1 + 25) := i1
        omega
      rw [e0]
      exact ⟨h1, h2.tr s9, h3.sim s9⟩
theorem hsR.less (h : hsR old cnt P9 pa) : hsR old (cnt - 1) P9 pa := fun k k0 k1 => h k k0 (by omega)
theorem hsR.none : hsR old 0 P9 pa := fun k k0 k1 => absurd k1 (by omega)
theorem brF_sim {rw9 : Int → Int} {fr n0 : Int} (hok : okPl n0 (fun i => rw9 (fr + 1 + i))) : sim n0 (fun i => rw9 (fr + 1 + i)) (brF rw9 fr f) := by
  have e : ∀ i, 0 ≤ i → i < 42 → brF rw9 fr f i = rw9 (fr + 1 + i) := fun i i0 i1 => if_pos ⟨i0, i1⟩
  have b25 : 0 ≤ rw9 (fr + 1 + 25) ∧ rw9 (fr + 1 + 25) ≤ 8 := hok.2.2.1
  refine ⟨(e 0 (by omega) (by omega)).symm, (e 25 (by omega) (by omega)).symm, fun i i0 i1 => (e i (by omega) (by have := hok.1; omega)).symm, fun i i0 i1 => (e i (by omega) ?_).symm⟩
  rw [e 25 (by omega) (by omega)] at i1
  omega
end HST
