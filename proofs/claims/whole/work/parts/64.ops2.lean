/-! THE LAW: acts, slots, texts and scripts agree -/
section ACT
variable {κ : gKap} {ad : Nat → Nat} {g gm : Nat → va_E} {tl nl nl9 ns old cnt m0 m1 s0 s1 n9 k : Int} {T9 v v9 vs f f9 w0 w1 F9 pa sv sv9 V9 U9 : Int → Int} {P9 : Nat → Int × (Int → Int)}
theorem act_fin (hC : LSc κ ad g tl nl ns old cnt m0 m1 T9 v vs w0 w1 F9 P9) (hp : LSp tl nl cnt old m0 m1 s0 s1 T9 v vs f w0 w1 F9 pa sv P9) (hre : remX κ ad gm old cnt P9 nl v) (hpl9 : isPl κ ad gm 2 nl9 v9) (hf1 : ∀ q, (q < 2 ∨ 12 ≤ q) → (q < 22 ∨ 164 ≤ q) → gm q = g q) (hok9 : okPl nl9 f9) (hsim9 : sim nl9 v9 f9) (hin9 : inV v9) :
    ∃ (old9 : Int) (P99 : Nat → Int × (Int → Int)), LSc κ ad gm tl nl9 ns old9 (remC cnt) m0 m1 T9 v9 vs w0 w1 F9 P99 ∧ LSp tl nl9 (remC cnt) old9 m0 m1 s0 s1 T9 v9 vs f9 w0 w1 F9 (rmF pa cnt nl f) sv P99 := by
  obtain ⟨htl, hTr, hok, hsim, hin, hins, hol, hct, hinP, hhs, hin0, hin1, hs01, hF01, hsl0, hsl1⟩ := hp
  obtain ⟨hX, hT, hpl, hps, hhi, hF, hp0, hp1, hbn⟩ := hC
  obtain ⟨U9, hi9, hU, hUin⟩ := hre
  refine ⟨_, _, ⟨⟨(hf1 _ (by omega) (by omega)).trans hX.1, (hf1 _ (by omega) (by omega)).trans hX.2⟩, (hf1 _ (by omega) (by omega)).trans hT, hpl9, hps.far (fun q _ _ => hf1 q (by omega) (by omega)), hi9, (hf1 _ (by omega) (by omega)).trans hF, hp0.far (fun q _ _ => hf1 q (by omega) (by omega)), hp1.far (fun q _ _ => hf1 q (by omega) (by omega)), hbn.far (fun q _ _ => hf1 q (by omega) (by omega))⟩, htl, hTr, hok9, hsim9, hin9, hins, ?_, ?_, fun j hj => ?_, hsR_rem hol hct hhs (hU.tr hsim) hok, hin0, hin1, hs01, hF01, hsl0, hsl1⟩
  · split <;> omega
  · unfold remC; split <;> omega
  · show inV (if j = ((old + cnt) % 14).toNat then (nl, U9) else P9 j).2
    split
    · exact hUin
    · exact hinP j hj
theorem LSc.spare (h : LSc κ ad g tl nl ns old cnt m0 m1 T9 v vs w0 w1 F9 P9) (hs : isPl κ ad gm 12 n9 V9) (hf : ∀ q, q < 192 → (q < 12 ∨ 22 ≤ q) → gm q = g q) : LSc κ ad gm tl nl n9 old cnt m0 m1 T9 v V9 w0 w1 F9 P9 := by
  obtain ⟨h1, h2, h3, h4, h5, h6, h7, h8, h9⟩ := h
  exact ⟨⟨(hf _ (by omega) (by omega)).trans h1.1, (hf _ (by omega) (by omega)).trans h1.2⟩, (hf _ (by omega) (by omega)).trans h2, h3.far (fun q _ _ => hf q (by omega) (by omega)), hs, h5.far (fun q _ _ => hf q (by omega) (by omega)), (hf _ (by omega) (by omega)).trans h6, h7.far (fun q _ _ => hf q (by omega) (by omega)), h8.far (fun q _ _ => hf q (by omega) (by omega)), h9.far (fun q _ _ => hf q (by omega) (by omega))⟩
theorem slR_new {fr : Int} (hok : okPl nl f) (hU : sim nl U9 f) : nl = stF sv fr nl f fr ∧ sim nl U9 (fun i => stF sv fr nl f (fr + 1 + i)) ∧ okPl nl (fun i => stF sv fr nl f (fr + 1 + i)) :=
  ⟨stF_at.symm, hU.tr (sim_stF hok), hok.sim (sim_stF hok)⟩
theorem slR.oth (h : slR s0 m0 w0 sv k) (e : ∀ i, k ≤ i → i < k + 43 → sv9 i = sv i) : slR s0 m0 w0 sv9 k := fun q => by
  obtain ⟨h1, h2, h3⟩ := h q
  have e0 := e k (by omega) (by omega)
  have ee : ∀ i, 0 ≤ i → i < 42 → sv9 (k + 1 + i) = sv (k + 1 + i) := fun i i0 i1 => e _ (by omega) (by omega)
  have b25 : 0 ≤ sv (k + 1 + 25) ∧ sv (k + 1 + 25) ≤ 8 := h3.2.2.1
  have b6 : m0 ≤ 6 := h3.1.2
  have s9 : sim m0 (fun i => sv (k + 1 + i)) (fun i => sv9 (k + 1 + i)) := by
    refine ⟨(ee 0 (by omega) (by omega)).symm, (ee 25 (by omega) (by omega)).symm, fun i i0 i1 => (ee i (by omega) (by omega)).symm, fun i i0 i1 => (ee i (by omega) ?_).symm⟩
    have e25 := ee 25 (by omega) (by omega)
    have i2 : i < 26 + 2 * sv9 (k + 1 + 25) := i1
    omega
  exact ⟨h1.trans e0.symm, h2.tr s9, h3.sim s9⟩
end ACT
theorem op_setRing (l : Launch) (hlf : l.stackTraces = false) (κ : gKap) (B : Nat) (ad : Nat → Nat) (g : Nat → va_E) (th b9 : Int) (te : Int) (hte : inI te) (hb : 0 ≤ b9 ∧ b9 ≤ 700000000) (h : LI κ ad g th b9) {o9 : Int → Int64} (ho : g 200 = aJ κ 1 o9) :
  ∃ CL : Int → (Nat → va_E) → Prop, Met l yL_setRing wsL_setRing ({ frames := 7, cells := 1, slots := 6, locals := 116 }) (gPreY κ B 201 ad g [.ref (ad 0), .int (iz te), .ref (ad 200)]) (gQi κ B 201 ad CL) 1 6 (gFree B) ∧ ∀ z g1, CL z g1 → (∃ fs, g1 192 = .inr (8, fs)) ∧ ∃ MP : Int → (Nat → va_E) → Prop, Met l yX8_setRing wsX8_setRing ({ frames := 2, cells := 0, slots := 0, locals := 45 }) (gPre κ B 201 ad g1 [.ref (ad 192), .int (iz te)]) (gQi κ B 201 ad MP) 0 0 (gFree B) ∧ ∀ zm g2, MP zm g2 → LE κ ad g2 z zm (b9 + 1000) := by
  obtain ⟨tl, nl, ns, old, cnt, m0, m1, s0, s1, T9, v, vs, f, w0, w1, F9, pa, sv, P9, hC, hp, hj⟩ := h
  obtain ⟨htl, hTr, hok, hsim, hin, hins, hol, hct, hinP, hhs, hin0, hin1, hs01, hF01, hsl0, hsl1⟩ := id hp
  obtain ⟨hX, hT, hpl, hps, hhi, hF, hp0, hp1, hbn⟩ := id hC
  have hokv : okPl nl v := hok.sim hsim.symm
  obtain ⟨mk, rl, a09, wr, M9, q9, be, hM, hN, hK, hTm, hRd, hPa, hBe, hVv, hmk, hMr, hinq⟩ := id hj
  have hv0 := hsim.1
  have hv25 := hsim.2.1
  refine ⟨_, w_L_setRing l κ B 201 ad g te (c_X7_setRing l hlf κ B 201 ad g tl nl v old cnt P9 te (by omega) hX hpl hokv hin hhi hol hct hinP hte ) (by omega) hX.1 ho (fun z g' q => q.2.2.2.2 200 (by omega) (by omega)) (fun E g9 q => q.1), fun z g1 hz => ?_⟩
  rcases hz with ⟨rfl, r, gm, ⟨hc, hr, hre, hpl9, hf1⟩, rfl⟩ | ⟨rfl, hx⟩
  · have hok9 : okPl (nl) (tk2 nl f te (f 25)) := (hok.tk hc).sim (tk2_sim hok.1 hok.2.2.1).symm
    have hsim9 : sim (nl) (tkr nl v te) (tk2 nl f te (f 25)) := hsim.ctkr.tr (tk2_sim hok.1 hok.2.2.1).symm
    have hin9 : inV (tkr nl v te) := hin.tk hc
    obtain ⟨old9, P99, hC1, hp1⟩ := act_fin hC hp hre hpl9 hf1 hok9 hsim9 hin9
    have hmg : ∀ q, 192 ≤ q → q < 200 → gm q = g q := fun q q0 q1 => hf1 q (by omega) (by omega)
    have hmo : ∀ q, 192 ≤ q → q < 200 → (va_up gm 200 (aJ κ 1 (vuJ o9 0 (jz (rI r))))) q = g q := fun q q0 q1 => (gu_ne (by omega)).trans (hmg q q0 q1)
    refine ⟨⟨_, (hmo 192 (by omega) (by omega)).trans hM⟩, _, c_X8_setRing l κ B 201 ad _ nl th mk tl rl a09 wr s0 s1 cnt f M9 T9 q9 pa be sv te (by omega) ((hmo 192 (by omega) (by omega)).trans hM) ((hmo 193 (by omega) (by omega)).trans hN) ((hmo 194 (by omega) (by omega)).trans hK) ((hmo 195 (by omega) (by omega)).trans hTm) ((hmo 196 (by omega) (by omega)).trans hRd) ((hmo 197 (by omega) (by omega)).trans hPa) ((hmo 198 (by omega) (by omega)).trans hBe) ((hmo 199 (by omega) (by omega)).trans hVv) hok (by omega) hMr hinq  hct hte, fun zm g2 hpost => ?_⟩
    obtain ⟨hR, hfr⟩ := hpost
    rcases hR with ⟨c9, hjk⟩ | ⟨⟨c9, hz9⟩, hjk⟩
    · first | (exfalso; omega; done) | exact absurd hc c9
    · exact ⟨⟨tl, nl, ns, old9, remC cnt, m0, m1, s0, s1, T9, (tkr nl v te), vs, (tk2 nl f te (f 25)), w0, w1, F9, rmF pa cnt nl f, sv, P99, (hC1.far (fun q hq => gu_ne (by omega))).far (fun q hq => hfr q (Or.inl hq)), hp1, hjk.up (by omega)⟩, by omega, _, (hfr 200 (by omega)).trans (gu_self _ _ _), fun _ => by rw [show r = zm from (by rw [hr, hz9, hv0])]; simp [vuJ]⟩
  · obtain ⟨_, c1, rfl⟩ := hx
    refine ⟨⟨_, hM⟩, _, c_X8_setRing l κ B 201 ad _ nl th mk tl rl a09 wr s0 s1 cnt f M9 T9 q9 pa be sv te (by omega) hM hN hK hTm hRd hPa hBe hVv hok (by omega) hMr hinq  hct hte, fun zm g2 hpost => ?_⟩
    obtain ⟨hR, hfr⟩ := hpost
    rcases hR with ⟨c9, hjk⟩ | ⟨⟨c9, hz9⟩, hjk⟩
    · exact ⟨⟨tl, nl, ns, old, cnt, m0, m1, s0, s1, T9, v, vs, f, w0, w1, F9, pa, sv, P9, hC.far (fun q hq => hfr q (Or.inl hq)), hp, hjk.up (by omega)⟩, by omega, o9, (hfr 200 (by omega)).trans ho, fun q => by omega⟩
    · first | (exfalso; omega; done) | exact absurd c9 c1
theorem op_addLayer (l : Launch) (hlf : l.stackTraces = false) (κ : gKap) (B : Nat) (ad : Nat → Nat) (g : Nat → va_E) (th b9 : Int) (qw : Int) (qs : Int) (qh : Int) (qt : Int) (hqw : inI qw) (hqs : inI qs) (hqh : inI qh) (hqt : inI qt) (hb : 0 ≤ b9 ∧ b9 ≤ 700000000) (h : LI κ ad g th b9) {o9 : Int → Int64} (ho : g 200 = aJ κ 1 o9) :
  ∃ CL : Int → (Nat → va_E) → Prop, Met l yL_addLayer wsL_addLayer ({ frames := 7, cells := 1, slots := 6, locals := 118 }) (gPreY κ B 201 ad g [.ref (ad 0), .int (iz qw), .int (iz qs), .int (iz qh), .int (iz qt), .ref (ad 200)]) (gQi κ B 201 ad CL) 1 6 (gFree B) ∧ ∀ z g1, CL z g1 → (∃ fs, g1 192 = .inr (8, fs)) ∧ ∃ MP : Int → (Nat → va_E) → Prop, Met l yX8_addLayer wsX8_addLayer ({ frames := 4, cells := 0, slots := 0, locals := 92 }) (gPre κ B 201 ad g1 [.ref (ad 192), .int (iz qw), .int (iz qs), .int (iz qh), .int (iz qt)]) (gQi κ B 201 ad MP) 0 0 (gFree B) ∧ ∀ zm g2, MP zm g2 → LE κ ad g2 z zm (b9 + 1000) := by
  obtain ⟨tl, nl, ns, old, cnt, m0, m1, s0, s1, T9, v, vs, f, w0, w1, F9, pa, sv, P9, hC, hp, hj⟩ := h
  obtain ⟨htl, hTr, hok, hsim, hin, hins, hol, hct, hinP, hhs, hin0, hin1, hs01, hF01, hsl0, hsl1⟩ := id hp
  obtain ⟨hX, hT, hpl, hps, hhi, hF, hp0, hp1, hbn⟩ := id hC
  have hokv : okPl nl v := hok.sim hsim.symm
  obtain ⟨mk, rl, a09, wr, M9, q9, be, hM, hN, hK, hTm, hRd, hPa, hBe, hVv, hmk, hMr, hinq⟩ := id hj
  have hv0 := hsim.1
  have hv25 := hsim.2.1
  refine ⟨_, w_L_addLayer l κ B 201 ad g qw qs qh qt (c_X7_addLayer l hlf κ B 201 ad g tl nl v old cnt P9 qw qs qh qt (by omega) hX hpl hokv hin hhi hol hct hinP hqw hqs hqh hqt ) (by omega) hX.1 ho (fun z g' q => q.2.2.2.2 200 (by omega) (by omega)) (fun E g9 q => q.elim (fun q => Or.inl q.1) (fun q => Or.inr q.1)), fun z g1 hz => ?_⟩
  rcases hz with ⟨rfl, r, gm, ⟨hc, hr, hre, hpl9, hf1⟩, rfl⟩ | ⟨rfl, hx⟩ | ⟨rfl, hx⟩
  · have hok9 : okPl (nl + 1) (v4 f nl qw qs qh qt) := hok.put (by omega) ⟨by omega, by omega, by omega⟩ ⟨by omega, by omega⟩
    have hsim9 : sim (nl + 1) (v4 v nl qw qs qh qt) (v4 f nl qw qs qh qt) := hsim.cv4 ⟨hok.1.1, by omega⟩
    have hin9 : inV (v4 v nl qw qs qh qt) := hin.v4 hqw hqs hqh hqt
    obtain ⟨old9, P99, hC1, hp1⟩ := act_fin hC hp hre hpl9 hf1 hok9 hsim9 hin9
    have hmg : ∀ q, 192 ≤ q → q < 200 → gm q = g q := fun q q0 q1 => hf1 q (by omega) (by omega)
    have hmo : ∀ q, 192 ≤ q → q < 200 → (va_up gm 200 (aJ κ 1 (vuJ o9 0 (jz (rI r))))) q = g q := fun q q0 q1 => (gu_ne (by omega)).trans (hmg q q0 q1)
    refine ⟨⟨_, (hmo 192 (by omega) (by omega)).trans hM⟩, _, c_X8_addLayer l κ B 201 ad _ nl th mk tl rl a09 wr s0 s1 cnt f M9 T9 q9 pa be sv qw qs qh qt (by omega) ((hmo 192 (by omega) (by omega)).trans hM) ((hmo 193 (by omega) (by omega)).trans hN) ((hmo 194 (by omega) (by omega)).trans hK) ((hmo 195 (by omega) (by omega)).trans hTm) ((hmo 196 (by omega) (by omega)).trans hRd) ((hmo 197 (by omega) (by omega)).trans hPa) ((hmo 198 (by omega) (by omega)).trans hBe) ((hmo 199 (by omega) (by omega)).trans hVv) hok (by omega) hMr hinq  hct hqw hqs hqh hqt, fun zm g2 hpost => ?_⟩
    obtain ⟨hR, hfr⟩ := hpost
    rcases hR with ⟨c9, hjk⟩ | ⟨c9, hjk⟩ | ⟨⟨c9, hz9⟩, hjk⟩
    · first | (exfalso; omega; done) | exact absurd hc c9
    · first | (exfalso; omega; done) | exact absurd hc c9
    · exact ⟨⟨tl, nl + 1, ns, old9, remC cnt, m0, m1, s0, s1, T9, (v4 v nl qw qs qh qt), vs, (v4 f nl qw qs qh qt), w0, w1, F9, rmF pa cnt nl f, sv, P99, (hC1.far (fun q hq => gu_ne (by omega))).far (fun q hq => hfr q (Or.inl hq)), hp1, hjk.up (by omega)⟩, by omega, _, (hfr 200 (by omega)).trans (gu_self _ _ _), fun _ => by rw [show r = zm from (by rw [hr, hz9])]; simp [vuJ]⟩
  · rcases hx with ⟨e9, c1, rfl⟩ | ⟨e9, c1, rfl⟩
    · refine ⟨⟨_, hM⟩, _, c_X8_addLayer l κ B 201 ad _ nl th mk tl rl a09 wr s0 s1 cnt f M9 T9 q9 pa be sv qw qs qh qt (by omega) hM hN hK hTm hRd hPa hBe hVv hok (by omega) hMr hinq  hct hqw hqs hqh hqt, fun zm g2 hpost => ?_⟩
      obtain ⟨hR, hfr⟩ := hpost
      rcases hR with ⟨c9, hjk⟩ | ⟨c9, hjk⟩ | ⟨⟨c9, hz9⟩, hjk⟩
      · exact ⟨⟨tl, nl, ns, old, cnt, m0, m1, s0, s1, T9, v, vs, f, w0, w1, F9, pa, sv, P9, hC.far (fun q hq => hfr q (Or.inl hq)), hp, hjk.up (by omega)⟩, by omega, o9, (hfr 200 (by omega)).trans ho, fun q => by omega⟩
      · first | (exfalso; omega; done) | exact absurd c9 c1
      · first | (exfalso; omega; done) | exact absurd c9 c1
    · exact absurd e9 (by decide)
  · rcases hx with ⟨e9, c1, rfl⟩ | ⟨e9, c1, rfl⟩
    · exact absurd e9 (by decide)
    · refine ⟨⟨_, hM⟩, _, c_X8_addLayer l κ B 201 ad _ nl th mk tl rl a09 wr s0 s1 cnt f M9 T9 q9 pa be sv qw qs qh qt (by omega) hM hN hK hTm hRd hPa hBe hVv hok (by omega) hMr hinq  hct hqw hqs hqh hqt, fun zm g2 hpost => ?_⟩
      obtain ⟨hR, hfr⟩ := hpost
      rcases hR with ⟨c9, hjk⟩ | ⟨c9, hjk⟩ | ⟨⟨c9, hz9⟩, hjk⟩
      · first | (exfalso; omega; done) | exact absurd c9 c1
      · exact ⟨⟨tl, nl, ns, old, cnt, m0, m1, s0, s1, T9, v, vs, f, w0, w1, F9, pa, sv, P9, hC.far (fun q hq => hfr q (Or.inl hq)), hp, hjk.up (by omega)⟩, by omega, o9, (hfr 200 (by omega)).trans ho, fun q => by omega⟩
      · first | (exfalso; omega; done) | exact absurd c9 c1
theorem op_change (l : Launch) (hlf : l.stackTraces = false) (κ : gKap) (B : Nat) (ad : Nat → Nat) (g : Nat → va_E) (th b9 : Int) (li : Int) (wh : Int) (x9 : Int) (hli : inI li) (hwh : inI wh) (hx9 : inI x9) (hb : 0 ≤ b9 ∧ b9 ≤ 700000000) (h : LI κ ad g th b9) {o9 : Int → Int64} (ho : g 200 = aJ κ 1 o9) :
  ∃ CL : Int → (Nat → va_E) → Prop, Met l yL_change wsL_change ({ frames := 7, cells := 1, slots := 6, locals := 118 }) (gPreY κ B 201 ad g [.ref (ad 0), .int (iz li), .int (iz wh), .int (iz x9), .ref (ad 200)]) (gQi κ B 201 ad CL) 1 6 (gFree B) ∧ ∀ z g1, CL z g1 → (∃ fs, g1 192 = .inr (8, fs)) ∧ ∃ MP : Int → (Nat → va_E) → Prop, Met l yX8_change wsX8_change ({ frames := 3, cells := 0, slots := 0, locals := 68 }) (gPre κ B 201 ad g1 [.ref (ad 192), .int (iz li), .int (iz wh), .int (iz x9)]) (gQi κ B 201 ad MP) 0 0 (gFree B) ∧ ∀ zm g2, MP zm g2 → LE κ ad g2 z zm (b9 + 1000) := by
  obtain ⟨tl, nl, ns, old, cnt, m0, m1, s0, s1, T9, v, vs, f, w0, w1, F9, pa, sv, P9, hC, hp, hj⟩ := h
  obtain ⟨htl, hTr, hok, hsim, hin, hins, hol, hct, hinP, hhs, hin0, hin1, hs01, hF01, hsl0, hsl1⟩ := id hp
  obtain ⟨hX, hT, hpl, hps, hhi, hF, hp0, hp1, hbn⟩ := id hC
  have hokv : okPl nl v := hok.sim hsim.symm
  obtain ⟨mk, rl, a09, wr, M9, q9, be, hM, hN, hK, hTm, hRd, hPa, hBe, hVv, hmk, hMr, hinq⟩ := id hj
  have hv0 := hsim.1
  have hv25 := hsim.2.1
  refine ⟨_, w_L_change l κ B 201 ad g li wh x9 (c_X7_change l hlf κ B 201 ad g tl nl v old cnt P9 li wh x9 (by omega) hX hpl hokv hin hhi hol hct hinP hli hwh hx9 ) (by omega) hX.1 ho (fun z g' q => q.2.2.2.2 200 (by omega) (by omega)) (fun E g9 q => q.elim (fun q => Or.inl q.1) (fun q => Or.inr q.1)), fun z g1 hz => ?_⟩
  rcases hz with ⟨rfl, r, gm, ⟨hc, hr, hre, hpl9, hf1⟩, rfl⟩ | ⟨rfl, hx⟩ | ⟨rfl, hx⟩
  · have hok9 : okPl (nl) (vu f (4 * li + 1 + wh) x9) := hok.ch hc.1 (by omega)
    have hsim9 : sim (nl) (vu v (4 * li + 1 + wh) x9) (vu f (4 * li + 1 + wh) x9) := hsim.cvu (by omega) (by have := hok.1; omega)
    have hin9 : inV (vu v (4 * li + 1 + wh) x9) := hin.vu hx9
    obtain ⟨old9, P99, hC1, hp1⟩ := act_fin hC hp hre hpl9 hf1 hok9 hsim9 hin9
    have hmg : ∀ q, 192 ≤ q → q < 200 → gm q = g q := fun q q0 q1 => hf1 q (by omega) (by omega)
    have hmo : ∀ q, 192 ≤ q → q < 200 → (va_up gm 200 (aJ κ 1 (vuJ o9 0 (jz (rI r))))) q = g q := fun q q0 q1 => (gu_ne (by omega)).trans (hmg q q0 q1)
    refine ⟨⟨_, (hmo 192 (by omega) (by omega)).trans hM⟩, _, c_X8_change l κ B 201 ad _ nl th mk tl rl a09 wr s0 s1 cnt f M9 T9 q9 pa be sv li wh x9 (by omega) ((hmo 192 (by omega) (by omega)).trans hM) ((hmo 193 (by omega) (by omega)).trans hN) ((hmo 194 (by omega) (by omega)).trans hK) ((hmo 195 (by omega) (by omega)).trans hTm) ((hmo 196 (by omega) (by omega)).trans hRd) ((hmo 197 (by omega) (by omega)).trans hPa) ((hmo 198 (by omega) (by omega)).trans hBe) ((hmo 199 (by omega) (by omega)).trans hVv) hok (by omega) hMr hinq  hct hli hwh hx9, fun zm g2 hpost => ?_⟩
    obtain ⟨hR, hfr⟩ := hpost
    rcases hR with ⟨c9, hjk⟩ | ⟨c9, hjk⟩ | ⟨⟨c9, hz9⟩, hjk⟩
    · first | (exfalso; omega; done) | exact absurd hc c9
    · first | (exfalso; omega; done) | exact absurd hc c9
    · exact ⟨⟨tl, nl, ns, old9, remC cnt, m0, m1, s0, s1, T9, (vu v (4 * li + 1 + wh) x9), vs, (vu f (4 * li + 1 + wh) x9), w0, w1, F9, rmF pa cnt nl f, sv, P99, (hC1.far (fun q hq => gu_ne (by omega))).far (fun q hq => hfr q (Or.inl hq)), hp1, hjk.up (by omega)⟩, by omega, _, (hfr 200 (by omega)).trans (gu_self _ _ _), fun _ => by rw [show r = zm from (by rw [hr, hz9]; exact hsim.2.2.1 _ (by omega) (by omega))]; simp [vuJ]⟩
  · rcases hx with ⟨e9, c1, rfl⟩ | ⟨e9, c1, rfl⟩
    · refine ⟨⟨_, hM⟩, _, c_X8_change l κ B 201 ad _ nl th mk tl rl a09 wr s0 s1 cnt f M9 T9 q9 pa be sv li wh x9 (by omega) hM hN hK hTm hRd hPa hBe hVv hok (by omega) hMr hinq  hct hli hwh hx9, fun zm g2 hpost => ?_⟩
      obtain ⟨hR, hfr⟩ := hpost
      rcases hR with ⟨c9, hjk⟩ | ⟨c9, hjk⟩ | ⟨⟨c9, hz9⟩, hjk⟩
      · exact ⟨⟨tl, nl, ns, old, cnt, m0, m1, s0, s1, T9, v, vs, f, w0, w1, F9, pa, sv, P9, hC.far (fun q hq => hfr q (Or.inl hq)), hp, hjk.up (by omega)⟩, by omega, o9, (hfr 200 (by omega)).trans ho, fun q => by omega⟩
      · first | (exfalso; omega; done) | exact absurd c9 c1
      · first | (exfalso; omega; done) | exact absurd c9 c1
    · exact absurd e9 (by decide)
  · rcases hx with ⟨e9, c1, rfl⟩ | ⟨e9, c1, rfl⟩
    · exact absurd e9 (by decide)
    · refine ⟨⟨_, hM⟩, _, c_X8_change l κ B 201 ad _ nl th mk tl rl a09 wr s0 s1 cnt f M9 T9 q9 pa be sv li wh x9 (by omega) hM hN hK hTm hRd hPa hBe hVv hok (by omega) hMr hinq  hct hli hwh hx9, fun zm g2 hpost => ?_⟩
      obtain ⟨hR, hfr⟩ := hpost
      rcases hR with ⟨c9, hjk⟩ | ⟨c9, hjk⟩ | ⟨⟨c9, hz9⟩, hjk⟩
      · first | (exfalso; omega; done) | exact absurd c9 c1
      · exact ⟨⟨tl, nl, ns, old, cnt, m0, m1, s0, s1, T9, v, vs, f, w0, w1, F9, pa, sv, P9, hC.far (fun q hq => hfr q (Or.inl hq)), hp, hjk.up (by omega)⟩, by omega, o9, (hfr 200 (by omega)).trans ho, fun q => by omega⟩
      · first | (exfalso; omega; done) | exact absurd c9 c1
theorem op_remove (l : Launch) (hlf : l.stackTraces = false) (κ : gKap) (B : Nat) (ad : Nat → Nat) (g : Nat → va_E) (th b9 : Int) (li : Int) (hli : inI li) (hb : 0 ≤ b9 ∧ b9 ≤ 700000000) (h : LI κ ad g th b9) {o9 : Int → Int64} (ho : g 200 = aJ κ 1 o9) :
  ∃ CL : Int → (Nat → va_E) → Prop, Met l yL_remove wsL_remove ({ frames := 7, cells := 1, slots := 6, locals := 115 }) (gPreY κ B 201 ad g [.ref (ad 0), .int (iz li), .ref (ad 200)]) (gQi κ B 201 ad CL) 1 6 (gFree B) ∧ ∀ z g1, CL z g1 → (∃ fs, g1 192 = .inr (8, fs)) ∧ ∃ MP : Int → (Nat → va_E) → Prop, Met l yX8_remove wsX8_remove ({ frames := 2, cells := 0, slots := 0, locals := 46 }) (gPre κ B 201 ad g1 [.ref (ad 192), .int (iz li)]) (gQi κ B 201 ad MP) 0 0 (gFree B) ∧ ∀ zm g2, MP zm g2 → LE κ ad g2 z zm (b9 + 1000) := by
  obtain ⟨tl, nl, ns, old, cnt, m0, m1, s0, s1, T9, v, vs, f, w0, w1, F9, pa, sv, P9, hC, hp, hj⟩ := h
  obtain ⟨htl, hTr, hok, hsim, hin, hins, hol, hct, hinP, hhs, hin0, hin1, hs01, hF01, hsl0, hsl1⟩ := id hp
  obtain ⟨hX, hT, hpl, hps, hhi, hF, hp0, hp1, hbn⟩ := id hC
  have hokv : okPl nl v := hok.sim hsim.symm
  obtain ⟨mk, rl, a09, wr, M9, q9, be, hM, hN, hK, hTm, hRd, hPa, hBe, hVv, hmk, hMr, hinq⟩ := id hj
  have hv0 := hsim.1
  have hv25 := hsim.2.1
  refine ⟨_, w_L_remove l κ B 201 ad g li (c_X7_remove l hlf κ B 201 ad g tl nl v old cnt P9 li (by omega) hX hpl hokv hin hhi hol hct hinP hli ) (by omega) hX.1 ho (fun z g' q => q.2.2.2.2 200 (by omega) (by omega)) (fun E g9 q => q.1), fun z g1 hz => ?_⟩
  rcases hz with ⟨rfl, r, gm, ⟨hc, hr, hre, hpl9, hf1⟩, rfl⟩ | ⟨rfl, hx⟩
  · have hok9 : okPl (nl - 1) (dpF f li) := (hok.dr hc).sim (dp_sim hc hok.1.2).symm
    have hsim9 : sim (nl - 1) (drv nl v li) (dpF f li) := (hsim.cdrv hc hok.1.2).tr (dp_sim hc hok.1.2).symm
    have hin9 : inV (drv nl v li) := hin.dr hok.1.2 hc.1
    obtain ⟨old9, P99, hC1, hp1⟩ := act_fin hC hp hre hpl9 hf1 hok9 hsim9 hin9
    have hmg : ∀ q, 192 ≤ q → q < 200 → gm q = g q := fun q q0 q1 => hf1 q (by omega) (by omega)
    have hmo : ∀ q, 192 ≤ q → q < 200 → (va_up gm 200 (aJ κ 1 (vuJ o9 0 (jz (rI r))))) q = g q := fun q q0 q1 => (gu_ne (by omega)).trans (hmg q q0 q1)
    refine ⟨⟨_, (hmo 192 (by omega) (by omega)).trans hM⟩, _, c_X8_remove l κ B 201 ad _ nl th mk tl rl a09 wr s0 s1 cnt f M9 T9 q9 pa be sv li (by omega) ((hmo 192 (by omega) (by omega)).trans hM) ((hmo 193 (by omega) (by omega)).trans hN) ((hmo 194 (by omega) (by omega)).trans hK) ((hmo 195 (by omega) (by omega)).trans hTm) ((hmo 196 (by omega) (by omega)).trans hRd) ((hmo 197 (by omega) (by omega)).trans hPa) ((hmo 198 (by omega) (by omega)).trans hBe) ((hmo 199 (by omega) (by omega)).trans hVv) hok (by omega) hMr hinq  hct hli, fun zm g2 hpost => ?_⟩
    obtain ⟨hR, hfr⟩ := hpost
    rcases hR with ⟨c9, hjk⟩ | ⟨⟨c9, hz9⟩, hjk⟩
    · first | (exfalso; omega; done) | exact absurd hc c9
    · exact ⟨⟨tl, nl - 1, ns, old9, remC cnt, m0, m1, s0, s1, T9, (drv nl v li), vs, (dpF f li), w0, w1, F9, rmF pa cnt nl f, sv, P99, (hC1.far (fun q hq => gu_ne (by omega))).far (fun q hq => hfr q (Or.inl hq)), hp1, hjk.up (by omega)⟩, by omega, _, (hfr 200 (by omega)).trans (gu_self _ _ _), fun _ => by rw [show r = zm from (by rw [hr, hz9])]; simp [vuJ]⟩
  · obtain ⟨_, c1, rfl⟩ := hx
    refine ⟨⟨_, hM⟩, _, c_X8_remove l κ B 201 ad _ nl th mk tl rl a09 wr s0 s1 cnt f M9 T9 q9 pa be sv li (by omega) hM hN hK hTm hRd hPa hBe hVv hok (by omega) hMr hinq  hct hli, fun zm g2 hpost => ?_⟩
    obtain ⟨hR, hfr⟩ := hpost
    rcases hR with ⟨c9, hjk⟩ | ⟨⟨c9, hz9⟩, hjk⟩
    · exact ⟨⟨tl, nl, ns, old, cnt, m0, m1, s0, s1, T9, v, vs, f, w0, w1, F9, pa, sv, P9, hC.far (fun q hq => hfr q (Or.inl hq)), hp, hjk.up (by omega)⟩, by omega, o9, (hfr 200 (by omega)).trans ho, fun q => by omega⟩
    · first | (exfalso; omega; done) | exact absurd c9 c1
theorem op_see (l : Launch) (hlf : l.stackTraces = false) (κ : gKap) (B : Nat) (ad : Nat → Nat) (g : Nat → va_E) (th b9 : Int) (an : Int) (ra : Int) (han : inI an) (hra : inI ra) (hb : 0 ≤ b9 ∧ b9 ≤ 700000000) (h : LI κ ad g th b9) {o9 : Int → Int64} (ho : g 200 = aJ κ 1 o9) :
  ∃ CL : Int → (Nat → va_E) → Prop, Met l yL_see wsL_see ({ frames := 7, cells := 1, slots := 6, locals := 145 }) (gPreY κ B 201 ad g [.ref (ad 0), .int (iz an), .int (iz ra), .ref (ad 200)]) (gQi κ B 201 ad CL) 1 6 (gFree B) ∧ ∀ z g1, CL z g1 → (∃ fs, g1 192 = .inr (8, fs)) ∧ ∃ MP : Int → (Nat → va_E) → Prop, Met l yX8_see wsX8_see ({ frames := 6, cells := 0, slots := 0, locals := 142 }) (gPre κ B 201 ad g1 [.ref (ad 192), .int (iz an), .int (iz ra)]) (gQi κ B 201 ad MP) 0 0 (gFree B) ∧ ∀ zm g2, MP zm g2 → LE κ ad g2 z zm (b9 + 1000) := by
  obtain ⟨tl, nl, ns, old, cnt, m0, m1, s0, s1, T9, v, vs, f, w0, w1, F9, pa, sv, P9, hC, hp, hj⟩ := h
  obtain ⟨htl, hTr, hok, hsim, hin, hins, hol, hct, hinP, hhs, hin0, hin1, hs01, hF01, hsl0, hsl1⟩ := id hp
  obtain ⟨hX, hT, hpl, hps, hhi, hF, hp0, hp1, hbn⟩ := id hC
  have hokv : okPl nl v := hok.sim hsim.symm
  obtain ⟨mk, rl, a09, wr, M9, q9, be, hM, hN, hK, hTm, hRd, hPa, hBe, hVv, hmk, hMr, hinq⟩ := id hj
  have hv0 := hsim.1
  have hv25 := hsim.2.1
  refine ⟨_, w_L_see l κ B 201 ad g an ra (c_X7_see l hlf κ B 201 ad g tl nl v old cnt P9 an ra (by omega) hX hpl hokv hin hhi hol hct hinP han hra ) (by omega) hX.1 ho (fun z g' q => q.2.2.2.2 200 (by omega) (by omega)) (fun E g9 q => q.1), fun z g1 hz => ?_⟩
  rcases hz with ⟨rfl, r, gm, ⟨hc, hr, hre, hpl9, hf1⟩, rfl⟩ | ⟨rfl, hx⟩
  · have hok9 : okPl (nl) (ntv f an ra) := (hok.note9 (by omega) hc.2).1
    have hsim9 : sim (nl) (ntv v an ra) (ntv f an ra) := hsim.cntv hok.2.2.1 hok.1.2
    have hin9 : inV (ntv v an ra) := hin.ntv (by rw [hv25]; exact hok.2.2.1) (by omega) (by omega)
    obtain ⟨old9, P99, hC1, hp1⟩ := act_fin hC hp hre hpl9 hf1 hok9 hsim9 hin9
    have hmg : ∀ q, 192 ≤ q → q < 200 → gm q = g q := fun q q0 q1 => hf1 q (by omega) (by omega)
    have hmo : ∀ q, 192 ≤ q → q < 200 → (va_up gm 200 (aJ κ 1 (vuJ o9 0 (jz (rI r))))) q = g q := fun q q0 q1 => (gu_ne (by omega)).trans (hmg q q0 q1)
    refine ⟨⟨_, (hmo 192 (by omega) (by omega)).trans hM⟩, _, c_X8_see l κ B 201 ad _ nl th mk tl rl a09 wr s0 s1 cnt f M9 T9 q9 pa be sv an ra (by omega) ((hmo 192 (by omega) (by omega)).trans hM) ((hmo 193 (by omega) (by omega)).trans hN) ((hmo 194 (by omega) (by omega)).trans hK) ((hmo 195 (by omega) (by omega)).trans hTm) ((hmo 196 (by omega) (by omega)).trans hRd) ((hmo 197 (by omega) (by omega)).trans hPa) ((hmo 198 (by omega) (by omega)).trans hBe) ((hmo 199 (by omega) (by omega)).trans hVv) hok (by omega) hMr hinq  hct han hra, fun zm g2 hpost => ?_⟩
    obtain ⟨hR, hfr⟩ := hpost
    rcases hR with ⟨c9, hjk⟩ | ⟨⟨c9, hz9⟩, hjk⟩
    · first | (exfalso; omega; done) | exact absurd hc c9
    · exact ⟨⟨tl, nl, ns, old9, remC cnt, m0, m1, s0, s1, T9, (ntv v an ra), vs, (ntv f an ra), w0, w1, F9, rmF pa cnt nl f, sv, P99, (hC1.far (fun q hq => gu_ne (by omega))).far (fun q hq => hfr q (Or.inl hq)), hp1, hjk.up (by omega)⟩, by omega, _, (hfr 200 (by omega)).trans (gu_self _ _ _), fun _ => by rw [show r = zm from (by rw [hr, hz9, fitN_sim hsim9])]; simp [vuJ]⟩
  · obtain ⟨_, c1, rfl⟩ := hx
    refine ⟨⟨_, hM⟩, _, c_X8_see l κ B 201 ad _ nl th mk tl rl a09 wr s0 s1 cnt f M9 T9 q9 pa be sv an ra (by omega) hM hN hK hTm hRd hPa hBe hVv hok (by omega) hMr hinq  hct han hra, fun zm g2 hpost => ?_⟩
    obtain ⟨hR, hfr⟩ := hpost
    rcases hR with ⟨c9, hjk⟩ | ⟨⟨c9, hz9⟩, hjk⟩
    · exact ⟨⟨tl, nl, ns, old, cnt, m0, m1, s0, s1, T9, v, vs, f, w0, w1, F9, pa, sv, P9, hC.far (fun q hq => hfr q (Or.inl hq)), hp, hjk.up (by omega)⟩, by omega, o9, (hfr 200 (by omega)).trans ho, fun q => by omega⟩
    · first | (exfalso; omega; done) | exact absurd c9 c1
theorem op_undo (l : Launch) (hlf : l.stackTraces = false) (κ : gKap) (B : Nat) (ad : Nat → Nat) (g : Nat → va_E) (th b9 : Int)   (hb : 0 ≤ b9 ∧ b9 ≤ 700000000) (h : LI κ ad g th b9) {o9 : Int → Int64} (ho : g 200 = aJ κ 1 o9) :
  ∃ CL : Int → (Nat → va_E) → Prop, Met l yL_undo wsL_undo ({ frames := 7, cells := 1, slots := 6, locals := 114 }) (gPreY κ B 201 ad g [.ref (ad 0), .ref (ad 200)]) (gQi κ B 201 ad CL) 1 6 (gFree B) ∧ ∀ z g1, CL z g1 → (∃ fs, g1 192 = .inr (8, fs)) ∧ ∃ MP : Int → (Nat → va_E) → Prop, Met l yX8_undo wsX8_undo ({ frames := 1, cells := 0, slots := 0, locals := 23 }) (gPre κ B 201 ad g1 [.ref (ad 192)]) (gQi κ B 201 ad MP) 0 0 (gFree B) ∧ ∀ zm g2, MP zm g2 → LE κ ad g2 z zm (b9 + 1000) := by
  obtain ⟨tl, nl, ns, old, cnt, m0, m1, s0, s1, T9, v, vs, f, w0, w1, F9, pa, sv, P9, hC, hp, hj⟩ := h
  obtain ⟨htl, hTr, hok, hsim, hin, hins, hol, hct, hinP, hhs, hin0, hin1, hs01, hF01, hsl0, hsl1⟩ := id hp
  obtain ⟨hX, hT, hpl, hps, hhi, hF, hp0, hp1, hbn⟩ := id hC
  have hokv : okPl nl v := hok.sim hsim.symm
  obtain ⟨mk, rl, a09, wr, M9, q9, be, hM, hN, hK, hTm, hRd, hPa, hBe, hVv, hmk, hMr, hinq⟩ := id hj
  have hv0 := hsim.1
  have hv25 := hsim.2.1
  have hJ : 1 ≤ cnt → (0 ≤ (P9 ((old + (cnt - 1)) % 14).toNat).1 ∧ (P9 ((old + (cnt - 1)) % 14).toNat).1 ≤ 6) ∧ 0 ≤ (P9 ((old + (cnt - 1)) % 14).toNat).2 25 ∧ (P9 ((old + (cnt - 1)) % 14).toNat).2 25 ≤ 8 := fun q => by
    obtain ⟨h1, h2, h3⟩ := hhs (cnt - 1) (by omega) (by omega)
    rw [h1, h2.2.1]
    exact ⟨h3.1, h3.2.2.1⟩
  refine ⟨_, w_L_undo l κ B 201 ad g  (c_X7_undo l hlf κ B 201 ad g tl nl v old cnt P9  (by omega) hX hpl hokv hin hhi hol hct hinP  hJ) (by omega) hX.1 ho (fun z g' q => by obtain ⟨_, _, U9, _, _, _, _, q9⟩ := q; exact q9 200 (by omega) (by omega)) (fun E g9 q => q.1), fun z g1 hz => ?_⟩
  rcases hz with ⟨rfl, r, gm, ⟨hc, hr, U9, hhi9, hpl9, hsU, hinU, hf1⟩, rfl⟩ | ⟨rfl, hx⟩
  · obtain ⟨h1, h2, h3⟩ := hhs (cnt - 1) (by omega) (by omega)
    rw [h1] at hpl9 hsU
    have hbs := brF_sim (f := f) h3
    have hok9 := h3.sim hbs
    have hsim9 := (hsU.tr h2).tr hbs
    have hmg : ∀ q, 192 ≤ q → q < 200 → gm q = g q := fun q q0 q1 => hf1 q (by omega) (by omega)
    have hC1 : LSc κ ad gm tl (pa (43 * (cnt - 1))) ns old (cnt - 1) m0 m1 T9 U9 vs w0 w1 F9 P9 := ⟨⟨(hf1 _ (by omega) (by omega)).trans hX.1, (hf1 _ (by omega) (by omega)).trans hX.2⟩, (hf1 _ (by omega) (by omega)).trans hT, hpl9, hps.far (fun q _ _ => hf1 q (by omega) (by omega)), hhi9, (hf1 _ (by omega) (by omega)).trans hF, hp0.far (fun q _ _ => hf1 q (by omega) (by omega)), hp1.far (fun q _ _ => hf1 q (by omega) (by omega)), hbn.far (fun q _ _ => hf1 q (by omega) (by omega))⟩
    have hp1 : LSp tl (pa (43 * (cnt - 1))) (cnt - 1) old m0 m1 s0 s1 T9 U9 vs (brF pa (43 * (cnt - 1)) f) w0 w1 F9 pa sv P9 := ⟨htl, hTr, hok9, hsim9, hinU, hins, hol, by omega, hinP, hhs.less, hin0, hin1, hs01, hF01, hsl0, hsl1⟩
    have hmo : ∀ q, 192 ≤ q → q < 200 → (va_up gm 200 (aJ κ 1 (vuJ o9 0 (jz (rI r))))) q = g q := fun q q0 q1 => (gu_ne (by omega)).trans (hmg q q0 q1)
    refine ⟨⟨_, (hmo 192 (by omega) (by omega)).trans hM⟩, _, c_X8_undo l κ B 201 ad _ nl th mk tl rl a09 wr s0 s1 cnt f M9 T9 q9 pa be sv  (by omega) ((hmo 192 (by omega) (by omega)).trans hM) ((hmo 193 (by omega) (by omega)).trans hN) ((hmo 194 (by omega) (by omega)).trans hK) ((hmo 195 (by omega) (by omega)).trans hTm) ((hmo 196 (by omega) (by omega)).trans hRd) ((hmo 197 (by omega) (by omega)).trans hPa) ((hmo 198 (by omega) (by omega)).trans hBe) ((hmo 199 (by omega) (by omega)).trans hVv) hok (by omega) hMr hinq  hct, fun zm g2 hpost => ?_⟩
    obtain ⟨hR, hfr⟩ := hpost
    rcases hR with ⟨c9, hjk⟩ | ⟨⟨c9, hz9⟩, hjk⟩
    · first | (exfalso; omega; done) | exact absurd hc c9
    · exact ⟨⟨tl, pa (43 * (cnt - 1)), ns, old, cnt - 1, m0, m1, s0, s1, T9, U9, vs, (brF pa (43 * (cnt - 1)) f), w0, w1, F9, pa, sv, P9, (hC1.far (fun q hq => gu_ne (by omega))).far (fun q hq => hfr q (Or.inl hq)), hp1, hjk.up (by omega)⟩, by omega, _, (hfr 200 (by omega)).trans (gu_self _ _ _), fun _ => by rw [show r = zm from (by rw [hr, hz9])]; simp [vuJ]⟩
  · obtain ⟨_, c1, rfl⟩ := hx
    refine ⟨⟨_, hM⟩, _, c_X8_undo l κ B 201 ad _ nl th mk tl rl a09 wr s0 s1 cnt f M9 T9 q9 pa be sv  (by omega) hM hN hK hTm hRd hPa hBe hVv hok (by omega) hMr hinq  hct, fun zm g2 hpost => ?_⟩
    obtain ⟨hR, hfr⟩ := hpost
    rcases hR with ⟨c9, hjk⟩ | ⟨⟨c9, hz9⟩, hjk⟩
    · exact ⟨⟨tl, nl, ns, old, cnt, m0, m1, s0, s1, T9, v, vs, f, w0, w1, F9, pa, sv, P9, hC.far (fun q hq => hfr q (Or.inl hq)), hp, hjk.up (by omega)⟩, by omega, o9, (hfr 200 (by omega)).trans ho, fun q => by omega⟩
    · first | (exfalso; omega; done) | exact absurd c9 c1
theorem op_append (l : Launch) (hlf : l.stackTraces = false) (κ : gKap) (B : Nat) (ad : Nat → Nat) (g : Nat → va_E) (th b9 : Int) (ch : Int) (hch : inI ch) (hb : 0 ≤ b9 ∧ b9 ≤ 700000000) (h : LI κ ad g th b9) {o9 : Int → Int64} (ho : g 200 = aJ κ 1 o9) :
  ∃ CL : Int → (Nat → va_E) → Prop, Met l yL_append wsL_append ({ frames := 7, cells := 1, slots := 6, locals := 103 }) (gPreY κ B 201 ad g [.ref (ad 0), .int (iz ch), .ref (ad 200)]) (gQi κ B 201 ad CL) 1 6 (gFree B) ∧ ∀ z g1, CL z g1 → (∃ fs, g1 192 = .inr (8, fs)) ∧ ∃ MP : Int → (Nat → va_E) → Prop, Met l yX8_append wsX8_append ({ frames := 1, cells := 0, slots := 0, locals := 25 }) (gPre κ B 201 ad g1 [.ref (ad 192), .int (iz ch)]) (gQi κ B 201 ad MP) 0 0 (gFree B) ∧ ∀ zm g2, MP zm g2 → LE κ ad g2 z zm (b9 + 1000) := by
  obtain ⟨tl, nl, ns, old, cnt, m0, m1, s0, s1, T9, v, vs, f, w0, w1, F9, pa, sv, P9, hC, hp, hj⟩ := h
  obtain ⟨htl, hTr, hok, hsim, hin, hins, hol, hct, hinP, hhs, hin0, hin1, hs01, hF01, hsl0, hsl1⟩ := id hp
  obtain ⟨hX, hT, hpl, hps, hhi, hF, hp0, hp1, hbn⟩ := id hC
  have hokv : okPl nl v := hok.sim hsim.symm
  obtain ⟨mk, rl, a09, wr, M9, q9, be, hM, hN, hK, hTm, hRd, hPa, hBe, hVv, hmk, hMr, hinq⟩ := id hj
  have hv0 := hsim.1
  have hv25 := hsim.2.1
  refine ⟨_, w_L_append l κ B 201 ad g ch (c_X7_append l hlf κ B 201 ad g tl T9 ch (by omega) hX hT htl hch ) (by omega) hX.1 ho (fun z g' q => q.2.2.2.2.2 200 (by omega) (by omega)) (fun E g9 q => q.elim (fun q => Or.inl q.1) (fun q => Or.inr q.1)), fun z g1 hz => ?_⟩
  rcases hz with ⟨rfl, r, gm, ⟨hc, hc2, hr, hX9, hT9, hf1⟩, rfl⟩ | ⟨rfl, hx⟩ | ⟨rfl, hx⟩
  · have hmg : ∀ q, 192 ≤ q → q < 200 → gm q = g q := fun q q0 q1 => hf1 q (by omega) (by omega)
    have hC1 : LSc κ ad gm (tl + 1) nl ns old cnt m0 m1 (vu T9 tl ch) v vs w0 w1 F9 P9 := ⟨hX9, hT9, hpl.far (fun q _ _ => hf1 q (by omega) (by omega)), hps.far (fun q _ _ => hf1 q (by omega) (by omega)), hhi.far (fun q _ _ => hf1 q (by omega) (by omega)), (hf1 _ (by omega) (by omega)).trans hF, hp0.far (fun q _ _ => hf1 q (by omega) (by omega)), hp1.far (fun q _ _ => hf1 q (by omega) (by omega)), hbn.far (fun q _ _ => hf1 q (by omega) (by omega))⟩
    have hTr9 : ∀ i, 0 ≤ i → i < 100 → 0 ≤ vu T9 tl ch i ∧ vu T9 tl ch i ≤ 255 := fun i i0 i1 => by
      unfold vu
      split
      · exact hc
      · exact hTr i i0 i1
    have hp1 : LSp (tl + 1) nl cnt old m0 m1 s0 s1 (vu T9 tl ch) v vs f w0 w1 F9 pa sv P9 := ⟨by omega, hTr9, hok, hsim, hin, hins, hol, hct, hinP, hhs, hin0, hin1, hs01, hF01, hsl0, hsl1⟩
    have hmo : ∀ q, 192 ≤ q → q < 200 → (va_up gm 200 (aJ κ 1 (vuJ o9 0 (jz (rI r))))) q = g q := fun q q0 q1 => (gu_ne (by omega)).trans (hmg q q0 q1)
    refine ⟨⟨_, (hmo 192 (by omega) (by omega)).trans hM⟩, _, c_X8p_append l κ B 201 ad _ nl th mk tl rl a09 wr s0 s1 cnt f M9 T9 q9 pa be sv ch (by omega) ((hmo 192 (by omega) (by omega)).trans hM) ((hmo 193 (by omega) (by omega)).trans hN) ((hmo 194 (by omega) (by omega)).trans hK) ((hmo 195 (by omega) (by omega)).trans hTm) ((hmo 196 (by omega) (by omega)).trans hRd) ((hmo 197 (by omega) (by omega)).trans hPa) ((hmo 198 (by omega) (by omega)).trans hBe) ((hmo 199 (by omega) (by omega)).trans hVv) hok (by omega) hMr hinq  hch htl, fun zm g2 hpost => ?_⟩
    obtain ⟨hR, hfr⟩ := hpost
    rcases hR with ⟨c9, hjk⟩ | ⟨c9, hjk⟩ | ⟨⟨c9, hz9⟩, hjk⟩
    · first | (exfalso; omega; done) | exact absurd hc c9
    · first | (exfalso; omega; done) | exact absurd hc c9
    · exact ⟨⟨tl + 1, nl, ns, old, cnt, m0, m1, s0, s1, (vu T9 tl ch), v, vs, f, w0, w1, F9, pa, sv, P9, (hC1.far (fun q hq => gu_ne (by omega))).far (fun q hq => hfr q (Or.inl hq)), hp1, hjk.up (by omega)⟩, by omega, _, (hfr 200 (by omega)).trans (gu_self _ _ _), fun _ => by rw [show r = zm from (by rw [hr, hz9])]; simp [vuJ]⟩
  · rcases hx with ⟨e9, c1, rfl⟩ | ⟨e9, c1, rfl⟩
    · refine ⟨⟨_, hM⟩, _, c_X8p_append l κ B 201 ad _ nl th mk tl rl a09 wr s0 s1 cnt f M9 T9 q9 pa be sv ch (by omega) hM hN hK hTm hRd hPa hBe hVv hok (by omega) hMr hinq  hch htl, fun zm g2 hpost => ?_⟩
      obtain ⟨hR, hfr⟩ := hpost
      rcases hR with ⟨c9, hjk⟩ | ⟨c9, hjk⟩ | ⟨⟨c9, hz9⟩, hjk⟩
      · exact ⟨⟨tl, nl, ns, old, cnt, m0, m1, s0, s1, T9, v, vs, f, w0, w1, F9, pa, sv, P9, hC.far (fun q hq => hfr q (Or.inl hq)), hp, hjk.up (by omega)⟩, by omega, o9, (hfr 200 (by omega)).trans ho, fun q => by omega⟩
      · first | (exfalso; omega; done) | exact absurd c9 c1
      · first | (exfalso; omega; done) | exact absurd c9 c1
    · exact absurd e9 (by decide)
  · rcases hx with ⟨e9, c1, rfl⟩ | ⟨e9, c1, rfl⟩
    · exact absurd e9 (by decide)
    · refine ⟨⟨_, hM⟩, _, c_X8p_append l κ B 201 ad _ nl th mk tl rl a09 wr s0 s1 cnt f M9 T9 q9 pa be sv ch (by omega) hM hN hK hTm hRd hPa hBe hVv hok (by omega) hMr hinq  hch htl, fun zm g2 hpost => ?_⟩
      obtain ⟨hR, hfr⟩ := hpost
      rcases hR with ⟨c9, hjk⟩ | ⟨c9, hjk⟩ | ⟨⟨c9, hz9⟩, hjk⟩
      · first | (exfalso; omega; done) | exact absurd c9 c1
      · exact ⟨⟨tl, nl, ns, old, cnt, m0, m1, s0, s1, T9, v, vs, f, w0, w1, F9, pa, sv, P9, hC.far (fun q hq => hfr q (Or.inl hq)), hp, hjk.up (by omega)⟩, by omega, o9, (hfr 200 (by omega)).trans ho, fun q => by omega⟩
      · first | (exfalso; omega; done) | exact absurd c9 c1
theorem op_save (l : Launch) (hlf : l.stackTraces = false) (κ : gKap) (B : Nat) (ad : Nat → Nat) (g : Nat → va_E) (th b9 : Int) (sl : Int) (hsl : inI sl) (hb : 0 ≤ b9 ∧ b9 ≤ 700000000) (h : LI κ ad g th b9) {o9 : Int → Int64} (ho : g 200 = aJ κ 1 o9) :
  ∃ CL : Int → (Nat → va_E) → Prop, Met l yL_save wsL_save ({ frames := 7, cells := 1, slots := 6, locals := 104 }) (gPreY κ B 201 ad g [.ref (ad 0), .int (iz sl), .ref (ad 200)]) (gQi κ B 201 ad CL) 1 6 (gFree B) ∧ ∀ z g1, CL z g1 → (∃ fs, g1 192 = .inr (8, fs)) ∧ ∃ MP : Int → (Nat → va_E) → Prop, Met l yX8_save wsX8_save ({ frames := 1, cells := 0, slots := 0, locals := 25 }) (gPre κ B 201 ad g1 [.ref (ad 192), .int (iz sl)]) (gQi κ B 201 ad MP) 0 0 (gFree B) ∧ ∀ zm g2, MP zm g2 → LE κ ad g2 z zm (b9 + 1000) := by
  obtain ⟨tl, nl, ns, old, cnt, m0, m1, s0, s1, T9, v, vs, f, w0, w1, F9, pa, sv, P9, hC, hp, hj⟩ := h
  obtain ⟨htl, hTr, hok, hsim, hin, hins, hol, hct, hinP, hhs, hin0, hin1, hs01, hF01, hsl0, hsl1⟩ := id hp
  obtain ⟨hX, hT, hpl, hps, hhi, hF, hp0, hp1, hbn⟩ := id hC
  have hokv : okPl nl v := hok.sim hsim.symm
  obtain ⟨mk, rl, a09, wr, M9, q9, be, hM, hN, hK, hTm, hRd, hPa, hBe, hVv, hmk, hMr, hinq⟩ := id hj
  have hv0 := hsim.1
  have hv25 := hsim.2.1
  refine ⟨_, w_L_save l κ B 201 ad g sl (c_X7_save l hlf κ B 201 ad g tl nl v F9 m0 w0 m1 w1 sl (by omega) hX hpl hokv hin hF hp0 hin0 hp1 hin1 hsl) (by omega) hX.1 ho (fun z g' q => by obtain ⟨q1, _, U9, _, _, _, _, q9⟩ := q; exact q9 200 (by omega) (by omega)) (fun E g9 q => q.1), fun z g1 hz => ?_⟩
  rcases hz with ⟨rfl, r, gm, ⟨hc, hr, U9, hpl9, hsU, hinU, hF9, hf1⟩, rfl⟩ | ⟨rfl, hx⟩
  · have hmg : ∀ q, 192 ≤ q → q < 200 → gm q = g q := fun q q0 q1 => hf1 q (by omega) (by omega)
    have hmo : ∀ q, 192 ≤ q → q < 200 → (va_up gm 200 (aJ κ 1 (vuJ o9 0 (jz (rI r))))) q = g q := fun q q0 q1 => (gu_ne (by omega)).trans (hmg q q0 q1)
    refine ⟨⟨_, (hmo 192 (by omega) (by omega)).trans hM⟩, _, c_X8_save l κ B 201 ad _ nl th mk tl rl a09 wr s0 s1 cnt f M9 T9 q9 pa be sv sl (by omega) ((hmo 192 (by omega) (by omega)).trans hM) ((hmo 193 (by omega) (by omega)).trans hN) ((hmo 194 (by omega) (by omega)).trans hK) ((hmo 195 (by omega) (by omega)).trans hTm) ((hmo 196 (by omega) (by omega)).trans hRd) ((hmo 197 (by omega) (by omega)).trans hPa) ((hmo 198 (by omega) (by omega)).trans hBe) ((hmo 199 (by omega) (by omega)).trans hVv) hok (by omega) hMr hinq  hs01 hsl, fun zm g2 hpost => ?_⟩
    obtain ⟨hR, hfr⟩ := hpost
    have hsl9 : sl = 0 ∨ sl = 1 := by omega
    have hUf : sim nl U9 f := hsU.tr hsim
    rcases hsl9 with rfl | rfl
    · have hpl9 : isPl κ ad gm 166 nl U9 := hpl9
      rcases hR with ⟨c9, hjk⟩ | ⟨⟨c9, hz9⟩, hjk⟩ | ⟨⟨c9, hz9⟩, hjk⟩
      · exfalso; omega
      · have hC1 : LSc κ ad gm tl nl ns old cnt nl m1 T9 v vs U9 w1 (vu F9 0 1) P9 := ⟨⟨(hf1 _ (by omega) (by omega)).trans hX.1, (hf1 _ (by omega) (by omega)).trans hX.2⟩, (hf1 _ (by omega) (by omega)).trans hT, hpl.far (fun q _ _ => hf1 q (by omega) (by omega)), hps.far (fun q _ _ => hf1 q (by omega) (by omega)), hhi.far (fun q _ _ => hf1 q (by omega) (by omega)), hF9, hpl9, hp1.far (fun q _ _ => hf1 q (by omega) (by omega)), hbn.far (fun q _ _ => hf1 q (by omega) (by omega))⟩
        have hn0 : slR 1 nl U9 (stF sv (43 * 0) nl f) 0 := fun _ => slR_new hok hUf
        have hn1 : slR s1 m1 w1 (stF sv (43 * 0) nl f) 43 := hsl1.oth (fun i i0 i1 => stF_out (by omega))
        have hp9 : LSp tl nl cnt old nl m1 1 s1 T9 v vs f U9 w1 (vu F9 0 1) pa (stF sv (43 * 0) nl f) P9 := ⟨htl, hTr, hok, hsim, hin, hins, hol, hct, hinP, hhs, hinU, hin1, ⟨Or.inr rfl, hs01.2⟩, ⟨vu_self _ _ _, (vu_ne (by decide)).trans hF01.2⟩, hn0, hn1⟩
        exact ⟨⟨tl, nl, ns, old, cnt, nl, m1, 1, s1, T9, v, vs, f, U9, w1, (vu F9 0 1), pa, (stF sv (43 * 0) nl f), P9, (hC1.far (fun q hq => gu_ne (by omega))).far (fun q hq => hfr q (Or.inl hq)), hp9, hjk.up (by omega)⟩, by omega, _, (hfr 200 (by omega)).trans (gu_self _ _ _), fun _ => by rw [show r = zm from by rw [hr, hz9]]; simp [vuJ]⟩
      · exfalso; omega
    · have hpl9 : isPl κ ad gm 176 nl U9 := hpl9
      rcases hR with ⟨c9, hjk⟩ | ⟨⟨c9, hz9⟩, hjk⟩ | ⟨⟨c9, hz9⟩, hjk⟩
      · exfalso; omega
      · exfalso; omega
      · have hf2 : ∀ q, q ≠ 165 → (q < 176 ∨ 186 ≤ q) → gm q = g q := hf1
        have hC1 : LSc κ ad gm tl nl ns old cnt m0 nl T9 v vs w0 U9 (vu F9 1 1) P9 := ⟨⟨(hf2 _ (by omega) (by omega)).trans hX.1, (hf2 _ (by omega) (by omega)).trans hX.2⟩, (hf2 _ (by omega) (by omega)).trans hT, hpl.far (fun q _ _ => hf2 q (by omega) (by omega)), hps.far (fun q _ _ => hf2 q (by omega) (by omega)), hhi.far (fun q _ _ => hf2 q (by omega) (by omega)), hF9, hp0.far (fun q _ _ => hf2 q (by omega) (by omega)), hpl9, hbn.far (fun q _ _ => hf2 q (by omega) (by omega))⟩
        have hn1 : slR 1 nl U9 (stF sv (43 * 1) nl f) 43 := fun _ => slR_new hok hUf
        have hn0 : slR s0 m0 w0 (stF sv (43 * 1) nl f) 0 := hsl0.oth (fun i i0 i1 => stF_out (by omega))
        have hp9 : LSp tl nl cnt old m0 nl s0 1 T9 v vs f w0 U9 (vu F9 1 1) pa (stF sv (43 * 1) nl f) P9 := ⟨htl, hTr, hok, hsim, hin, hins, hol, hct, hinP, hhs, hin0, hinU, ⟨hs01.1, Or.inr rfl⟩, ⟨(vu_ne (by decide)).trans hF01.1, vu_self _ _ _⟩, hn0, hn1⟩
        exact ⟨⟨tl, nl, ns, old, cnt, m0, nl, s0, 1, T9, v, vs, f, w0, U9, (vu F9 1 1), pa, (stF sv (43 * 1) nl f), P9, (hC1.far (fun q hq => gu_ne (by omega))).far (fun q hq => hfr q (Or.inl hq)), hp9, hjk.up (by omega)⟩, by omega, _, (hfr 200 (by omega)).trans (gu_self _ _ _), fun _ => by rw [show r = zm from by rw [hr, hz9]]; simp [vuJ]⟩
  · obtain ⟨_, c1, rfl⟩ := hx
    refine ⟨⟨_, hM⟩, _, c_X8_save l κ B 201 ad _ nl th mk tl rl a09 wr s0 s1 cnt f M9 T9 q9 pa be sv sl (by omega) hM hN hK hTm hRd hPa hBe hVv hok (by omega) hMr hinq  hs01 hsl, fun zm g2 hpost => ?_⟩
    obtain ⟨hR, hfr⟩ := hpost
    rcases hR with ⟨c9, hjk⟩ | ⟨⟨c9, hz9⟩, hjk⟩ | ⟨⟨c9, hz9⟩, hjk⟩
    · exact ⟨⟨tl, nl, ns, old, cnt, m0, m1, s0, s1, T9, v, vs, f, w0, w1, F9, pa, sv, P9, hC.far (fun q hq => hfr q (Or.inl hq)), hp, hjk.up (by omega)⟩, by omega, o9, (hfr 200 (by omega)).trans ho, fun q => by omega⟩
    · exfalso; omega
    · exfalso; omega
theorem op_restore (l : Launch) (hlf : l.stackTraces = false) (κ : gKap) (B : Nat) (ad : Nat → Nat) (g : Nat → va_E) (th b9 : Int) (sl : Int) (hsl : inI sl) (hb : 0 ≤ b9 ∧ b9 ≤ 700000000) (h : LI κ ad g th b9) {o9 : Int → Int64} (ho : g 200 = aJ κ 1 o9) :
  ∃ CL : Int → (Nat → va_E) → Prop, Met l yL_restore wsL_restore ({ frames := 7, cells := 1, slots := 6, locals := 104 }) (gPreY κ B 201 ad g [.ref (ad 0), .int (iz sl), .ref (ad 200)]) (gQi κ B 201 ad CL) 1 6 (gFree B) ∧ ∀ z g1, CL z g1 → (∃ fs, g1 192 = .inr (8, fs)) ∧ ∃ MP : Int → (Nat → va_E) → Prop, Met l yX8_restore wsX8_restore ({ frames := 1, cells := 0, slots := 0, locals := 25 }) (gPre κ B 201 ad g1 [.ref (ad 192), .int (iz sl)]) (gQi κ B 201 ad MP) 0 0 (gFree B) ∧ ∀ zm g2, MP zm g2 → LE κ ad g2 z zm (b9 + 1000) := by
  obtain ⟨tl, nl, ns, old, cnt, m0, m1, s0, s1, T9, v, vs, f, w0, w1, F9, pa, sv, P9, hC, hp, hj⟩ := h
  obtain ⟨htl, hTr, hok, hsim, hin, hins, hol, hct, hinP, hhs, hin0, hin1, hs01, hF01, hsl0, hsl1⟩ := id hp
  obtain ⟨hX, hT, hpl, hps, hhi, hF, hp0, hp1, hbn⟩ := id hC
  have hokv : okPl nl v := hok.sim hsim.symm
  obtain ⟨mk, rl, a09, wr, M9, q9, be, hM, hN, hK, hTm, hRd, hPa, hBe, hVv, hmk, hMr, hinq⟩ := id hj
  have hv0 := hsim.1
  have hv25 := hsim.2.1
  have hF01b : ∀ i, 0 ≤ i → i < 2 → F9 i = 0 ∨ F9 i = 1 := fun i i0 i1 => by
    have h9 : i = 0 ∨ i = 1 := by omega
    rcases h9 with rfl | rfl
    · rw [hF01.1]; exact hs01.1
    · rw [hF01.2]; exact hs01.2
  have hk0 : F9 0 = 1 → okPl m0 w0 := fun q => by
    obtain ⟨_, h2, h3⟩ := hsl0 (hF01.1.symm.trans q)
    exact h3.sim h2.symm
  have hk1 : F9 1 = 1 → okPl m1 w1 := fun q => by
    obtain ⟨_, h2, h3⟩ := hsl1 (hF01.2.symm.trans q)
    exact h3.sim h2.symm
  refine ⟨_, w_L_restore l κ B 201 ad g sl (c_X7_restore l hlf κ B 201 ad g tl nl v old cnt P9 F9 m0 w0 m1 w1 sl (by omega) hX hpl hokv hin hhi hol hct hinP hF hp0 hin0 hp1 hin1 hsl hF01b hk0 hk1) (by omega) hX.1 ho (fun z g' q => by obtain ⟨_, _, mm, ww, U9, _, _, _, _, _, _, q9⟩ := q; exact q9 200 (by omega) (by omega)) (fun E g9 q => q.elim (fun q => Or.inl q.1) (fun q => Or.inr q.1)), fun z g1 hz => ?_⟩
  rcases hz with ⟨rfl, r, gm, ⟨hc, hF1, mm, ww, U9, hwh, hr, hpl9, hsU, hinU, hhi9, hf1⟩, rfl⟩ | ⟨rfl, hx⟩ | ⟨rfl, hx⟩
  · have hmg : ∀ q, 192 ≤ q → q < 200 → gm q = g q := fun q q0 q1 => hf1 q (by omega) (by omega)
    have hmo : ∀ q, 192 ≤ q → q < 200 → (va_up gm 200 (aJ κ 1 (vuJ o9 0 (jz (rI r))))) q = g q := fun q q0 q1 => (gu_ne (by omega)).trans (hmg q q0 q1)
    refine ⟨⟨_, (hmo 192 (by omega) (by omega)).trans hM⟩, _, c_X8_restore l κ B 201 ad _ nl th mk tl rl a09 wr s0 s1 cnt f M9 T9 q9 pa be sv sl (by omega) ((hmo 192 (by omega) (by omega)).trans hM) ((hmo 193 (by omega) (by omega)).trans hN) ((hmo 194 (by omega) (by omega)).trans hK) ((hmo 195 (by omega) (by omega)).trans hTm) ((hmo 196 (by omega) (by omega)).trans hRd) ((hmo 197 (by omega) (by omega)).trans hPa) ((hmo 198 (by omega) (by omega)).trans hBe) ((hmo 199 (by omega) (by omega)).trans hVv) hok (by omega) hMr hinq  hs01 hsl, fun zm g2 hpost => ?_⟩
    obtain ⟨hR, hfr⟩ := hpost
    have hst : mm = sv (43 * sl) ∧ sim mm ww (fun i => sv (43 * sl + 1 + i)) ∧ okPl mm (fun i => sv (43 * sl + 1 + i)) ∧ ((sl = 0 ∧ s0 = 1) ∨ (sl = 1 ∧ s1 = 1)) := by
      rcases hwh with ⟨rfl, rfl, rfl⟩ | ⟨rfl, rfl, rfl⟩
      · have hs := hF01.1.symm.trans hF1
        obtain ⟨h1, h2, h3⟩ := hsl0 hs
        exact ⟨h1, h2, h3, Or.inl ⟨rfl, hs⟩⟩
      · have hs := hF01.2.symm.trans hF1
        obtain ⟨h1, h2, h3⟩ := hsl1 hs
        exact ⟨h1, h2, h3, Or.inr ⟨rfl, hs⟩⟩
    obtain ⟨h1, h2, h3, h4⟩ := hst
    rcases hR with ⟨c9, hjk⟩ | ⟨⟨c9, c8⟩, hjk⟩ | ⟨⟨c9, c8, hz9⟩, hjk⟩
    · exfalso; omega
    · exfalso; omega
    · have hbs := brF_sim (f := f) h3
      have hok9 := h3.sim hbs
      have hsim9 := (hsU.tr h2).tr hbs
      rw [h1] at hpl9 hok9 hsim9
      have hC1 : LSc κ ad gm tl (sv (43 * sl)) ns 0 0 m0 m1 T9 U9 vs w0 w1 F9 P9 := ⟨⟨(hf1 _ (by omega) (by omega)).trans hX.1, (hf1 _ (by omega) (by omega)).trans hX.2⟩, (hf1 _ (by omega) (by omega)).trans hT, hpl9, hps.far (fun q _ _ => hf1 q (by omega) (by omega)), hhi9, (hf1 _ (by omega) (by omega)).trans hF, hp0.far (fun q _ _ => hf1 q (by omega) (by omega)), hp1.far (fun q _ _ => hf1 q (by omega) (by omega)), hbn.far (fun q _ _ => hf1 q (by omega) (by omega))⟩
      have hp9 : LSp tl (sv (43 * sl)) 0 0 m0 m1 s0 s1 T9 U9 vs (brF sv (43 * sl) f) w0 w1 F9 pa sv P9 := ⟨htl, hTr, hok9, hsim9, hinU, hins, by omega, by omega, hinP, hsR.none, hin0, hin1, hs01, hF01, hsl0, hsl1⟩
      exact ⟨⟨tl, sv (43 * sl), ns, 0, 0, m0, m1, s0, s1, T9, U9, vs, (brF sv (43 * sl) f), w0, w1, F9, pa, sv, P9, (hC1.far (fun q hq => gu_ne (by omega))).far (fun q hq => hfr q (Or.inl hq)), hp9, hjk.up (by omega)⟩, by omega, _, (hfr 200 (by omega)).trans (gu_self _ _ _), fun _ => by rw [show r = zm from by rw [hr, hz9, h1]]; simp [vuJ]⟩
  · rcases hx with ⟨e9, c1, rfl⟩ | ⟨e9, c1, rfl⟩
    · refine ⟨⟨_, hM⟩, _, c_X8_restore l κ B 201 ad _ nl th mk tl rl a09 wr s0 s1 cnt f M9 T9 q9 pa be sv sl (by omega) hM hN hK hTm hRd hPa hBe hVv hok (by omega) hMr hinq  hs01 hsl, fun zm g2 hpost => ?_⟩
      obtain ⟨hR, hfr⟩ := hpost
      rcases hR with ⟨c9, hjk⟩ | ⟨⟨c9, c8⟩, hjk⟩ | ⟨⟨c9, c8, hz9⟩, hjk⟩
      · exact ⟨⟨tl, nl, ns, old, cnt, m0, m1, s0, s1, T9, v, vs, f, w0, w1, F9, pa, sv, P9, hC.far (fun q hq => hfr q (Or.inl hq)), hp, hjk.up (by omega)⟩, by omega, o9, (hfr 200 (by omega)).trans ho, fun q => by omega⟩
      · exfalso; omega
      · exfalso; omega
    · exact absurd e9 (by decide)
  · rcases hx with ⟨e9, c1, rfl⟩ | ⟨e9, c1, rfl⟩
    · exact absurd e9 (by decide)
    · refine ⟨⟨_, hM⟩, _, c_X8_restore l κ B 201 ad _ nl th mk tl rl a09 wr s0 s1 cnt f M9 T9 q9 pa be sv sl (by omega) hM hN hK hTm hRd hPa hBe hVv hok (by omega) hMr hinq  hs01 hsl, fun zm g2 hpost => ?_⟩
      obtain ⟨hR, hfr⟩ := hpost
      have hw9 : (sl = 0 ∧ s0 = 0) ∨ (sl = 1 ∧ s1 = 0) := by
        have h9 : sl = 0 ∨ sl = 1 := by omega
        rcases h9 with rfl | rfl
        · exact Or.inl ⟨rfl, hF01.1.symm.trans c1.2⟩
        · exact Or.inr ⟨rfl, hF01.2.symm.trans c1.2⟩
      rcases hR with ⟨c9, hjk⟩ | ⟨⟨c9, c8⟩, hjk⟩ | ⟨⟨c9, c8, hz9⟩, hjk⟩
      · exfalso; omega
      · exact ⟨⟨tl, nl, ns, old, cnt, m0, m1, s0, s1, T9, v, vs, f, w0, w1, F9, pa, sv, P9, hC.far (fun q hq => hfr q (Or.inl hq)), hp, hjk.up (by omega)⟩, by omega, o9, (hfr 200 (by omega)).trans ho, fun q => by omega⟩
      · exfalso; omega
theorem op_load (l : Launch) (hlf : l.stackTraces = false) (κ : gKap) (B : Nat) (ad : Nat → Nat) (g : Nat → va_E) (th b9 : Int)   (hb : 0 ≤ b9 ∧ b9 ≤ 700000000) (h : LI κ ad g th b9) {o9 : Int → Int64} (ho : g 200 = aJ κ 1 o9) :
  ∃ CL : Int → (Nat → va_E) → Prop, Met l yL_load wsL_load ({ frames := 7, cells := 2, slots := 9, locals := 158 }) (gPreY κ B 201 ad g [.ref (ad 0), .ref (ad 200)]) (gQi κ B 201 ad CL) 2 9 (gFree B) ∧ ∀ z g1, CL z g1 → (∃ fs, g1 192 = .inr (8, fs)) ∧ ∃ MP : Int → (Nat → va_E) → Prop, Met l yX8_load wsX8_load ({ frames := 4, cells := 0, slots := 0, locals := 95 }) (gPre κ B 201 ad g1 [.ref (ad 192)]) (gQi κ B 201 ad MP) 0 0 (gFree B) ∧ ∀ zm g2, MP zm g2 → LE κ ad g2 z zm (b9 + 1000) := by
  obtain ⟨tl, nl, ns, old, cnt, m0, m1, s0, s1, T9, v, vs, f, w0, w1, F9, pa, sv, P9, hC, hp, hj⟩ := h
  obtain ⟨htl, hTr, hok, hsim, hin, hins, hol, hct, hinP, hhs, hin0, hin1, hs01, hF01, hsl0, hsl1⟩ := id hp
  obtain ⟨hX, hT, hpl, hps, hhi, hF, hp0, hp1, hbn⟩ := id hC
  have hokv : okPl nl v := hok.sim hsim.symm
  obtain ⟨mk, rl, a09, wr, M9, q9, be, hM, hN, hK, hTm, hRd, hPa, hBe, hVv, hmk, hMr, hinq⟩ := id hj
  have hv0 := hsim.1
  have hv25 := hsim.2.1
  have hrt := rtS_sim (T9 := T9) (L9 := tl) (nl := ns) (nl2 := rl) (v := vs) (f := q9) htl hinq
  have hrk := rtS_ok (T9 := T9) (L9 := tl) (nl := rl) (v := q9) htl hinq
  have hrs := (rtS_ok (T9 := T9) (L9 := tl) (nl := ns) (v := vs) htl hins).1
  refine ⟨_, w_L_load l κ B 201 ad g (c_X7_load l hlf κ B 201 ad g tl T9 nl v ns vs old cnt P9 F9 (by omega) hX hT htl hpl hokv hin hps hins hhi hol hct hinP hF hTr) (by omega) hX.1 ho (fun z g' q => by obtain ⟨_, _, U9, _, _, _, _, _, _, q9⟩ := q; exact q9 200 (by omega) (by omega) (by omega) (by omega)) (fun E g9 q => q.1), fun z g1 hz => ?_⟩
  rcases hz with ⟨rfl, r, gm, ⟨hc, hr, U9, hpl9, hsU, hinU, hps9, hhi9, hF9, hf1⟩, rfl⟩ | ⟨rfl, hx⟩
  · have hmg : ∀ q, 192 ≤ q → q < 200 → gm q = g q := fun q q0 q1 => hf1 q (by omega) (by omega) (by omega) (by omega)
    have hmo : ∀ q, 192 ≤ q → q < 200 → (va_up gm 200 (aJ κ 1 (vuJ o9 0 (jz (rI r))))) q = g q := fun q q0 q1 => (gu_ne (by omega)).trans (hmg q q0 q1)
    refine ⟨⟨_, (hmo 192 (by omega) (by omega)).trans hM⟩, _, c_X8p_load l κ B 201 ad _ nl th mk tl rl a09 wr s0 s1 cnt f M9 T9 q9 pa be sv  (by omega) ((hmo 192 (by omega) (by omega)).trans hM) ((hmo 193 (by omega) (by omega)).trans hN) ((hmo 194 (by omega) (by omega)).trans hK) ((hmo 195 (by omega) (by omega)).trans hTm) ((hmo 196 (by omega) (by omega)).trans hRd) ((hmo 197 (by omega) (by omega)).trans hPa) ((hmo 198 (by omega) (by omega)).trans hBe) ((hmo 199 (by omega) (by omega)).trans hVv) hok (by omega) hMr hinq  htl hTr, fun zm g2 hpost => ?_⟩
    obtain ⟨hR, hfr⟩ := hpost
    have hcm : (rtS T9 tl rl q9).1 = -9 := hrt.1.symm.trans hc
    obtain ⟨hn9, hs9⟩ := hrt.2 hcm
    rcases hR with ⟨c9, hjk⟩ | ⟨⟨c9, hz9⟩, hjk⟩
    · exact absurd hcm c9
    · have hok8 := hrk.2 hcm
      have hok8b : okPl (rtS T9 tl rl q9).2.1 (fun i => (rtS T9 tl rl q9).2.2 (-1 + 1 + i)) := by
        rw [show (fun i : Int => (rtS T9 tl rl q9).2.2 (-1 + 1 + i)) = (rtS T9 tl rl q9).2.2 from funext fun i => by rw [show (-1 : Int) + 1 + i = i by omega]]
        exact hok8
      have hbs := brF_sim (f := f) hok8b
      have hok9 := hok8b.sim hbs
      have hbs2 : sim (rtS T9 tl rl q9).2.1 (rtS T9 tl rl q9).2.2 (brF (rtS T9 tl rl q9).2.2 (-1) f) := by
        rw [show (fun i : Int => (rtS T9 tl rl q9).2.2 (-1 + 1 + i)) = (rtS T9 tl rl q9).2.2 from funext fun i => by rw [show (-1 : Int) + 1 + i = i by omega]] at hbs
        exact hbs
      rw [hn9] at hpl9 hsU hps9
      have hsim9 := (hsU.tr hs9).tr hbs2
      have hC1 : LSc κ ad gm tl (rtS T9 tl rl q9).2.1 (rtS T9 tl rl q9).2.1 0 0 m0 m1 T9 U9 (rtS T9 tl ns vs).2.2 w0 w1 (vu (vu F9 0 0) 1 0) P9 := ⟨⟨(hf1 _ (by omega) (by omega) (by omega) (by omega)).trans hX.1, (hf1 _ (by omega) (by omega) (by omega) (by omega)).trans hX.2⟩, (hf1 _ (by omega) (by omega) (by omega) (by omega)).trans hT, hpl9, hps9, hhi9, hF9, hp0.far (fun q _ _ => hf1 q (by omega) (by omega) (by omega) (by omega)), hp1.far (fun q _ _ => hf1 q (by omega) (by omega) (by omega) (by omega)), hbn.far (fun q _ _ => hf1 q (by omega) (by omega) (by omega) (by omega))⟩
      have hp9 : LSp tl (rtS T9 tl rl q9).2.1 0 0 m0 m1 0 0 T9 U9 (rtS T9 tl ns vs).2.2 (brF (rtS T9 tl rl q9).2.2 (-1) f) w0 w1 (vu (vu F9 0 0) 1 0) pa sv P9 := ⟨htl, hTr, hok9, hsim9, hinU, hrs, by omega, by omega, hinP, hsR.none, hin0, hin1, ⟨Or.inl rfl, Or.inl rfl⟩, ⟨(vu_ne (by decide)).trans (vu_self _ _ _), vu_self _ _ _⟩, fun q => absurd q (by decide), fun q => absurd q (by decide)⟩
      exact ⟨⟨tl, (rtS T9 tl rl q9).2.1, (rtS T9 tl rl q9).2.1, 0, 0, m0, m1, 0, 0, T9, U9, (rtS T9 tl ns vs).2.2, (brF (rtS T9 tl rl q9).2.2 (-1) f), w0, w1, (vu (vu F9 0 0) 1 0), pa, sv, P9, (hC1.far (fun q hq => gu_ne (by omega))).far (fun q hq => hfr q (Or.inl hq)), hp9, hjk.up (by omega)⟩, by omega, _, (hfr 200 (by omega)).trans (gu_self _ _ _), fun _ => by rw [show r = zm from by rw [hr, hz9, hn9]]; simp [vuJ]⟩
  · obtain ⟨_, c1, hps9, hf1⟩ := hx
    have hmo : ∀ q, 192 ≤ q → q < 200 → g1 q = g q := fun q q0 q1 => hf1 q (by omega) (by omega)
    refine ⟨⟨_, (hmo 192 (by omega) (by omega)).trans hM⟩, _, c_X8p_load l κ B 201 ad _ nl th mk tl rl a09 wr s0 s1 cnt f M9 T9 q9 pa be sv  (by omega) ((hmo 192 (by omega) (by omega)).trans hM) ((hmo 193 (by omega) (by omega)).trans hN) ((hmo 194 (by omega) (by omega)).trans hK) ((hmo 195 (by omega) (by omega)).trans hTm) ((hmo 196 (by omega) (by omega)).trans hRd) ((hmo 197 (by omega) (by omega)).trans hPa) ((hmo 198 (by omega) (by omega)).trans hBe) ((hmo 199 (by omega) (by omega)).trans hVv) hok (by omega) hMr hinq  htl hTr, fun zm g2 hpost => ?_⟩
    obtain ⟨hR, hfr⟩ := hpost
    have hcm : ¬ (rtS T9 tl rl q9).1 = -9 := fun q => c1 (hrt.1.trans q)
    rcases hR with ⟨c9, hjk⟩ | ⟨⟨c9, hz9⟩, hjk⟩
    · have hC1 : LSc κ ad g1 tl nl (rtS T9 tl ns vs).2.1 old cnt m0 m1 T9 v (rtS T9 tl ns vs).2.2 w0 w1 F9 P9 := hC.spare hps9 (fun q q0 q1 => hf1 q (by omega) q1)
      have hp9 : LSp tl nl cnt old m0 m1 s0 s1 T9 v (rtS T9 tl ns vs).2.2 f w0 w1 F9 pa sv P9 := ⟨htl, hTr, hok, hsim, hin, hrs, hol, hct, hinP, hhs, hin0, hin1, hs01, hF01, hsl0, hsl1⟩
      exact ⟨⟨tl, nl, (rtS T9 tl ns vs).2.1, old, cnt, m0, m1, s0, s1, T9, v, (rtS T9 tl ns vs).2.2, f, w0, w1, F9, pa, sv, P9, hC1.far (fun q hq => hfr q (Or.inl hq)), hp9, hjk.up (by omega)⟩, by omega, o9, (hfr 200 (by omega)).trans ((hf1 200 (by omega) (by omega)).trans ho), fun q => by omega⟩
    · exact absurd c9 hcm
theorem op_runScript (l : Launch) (hlf : l.stackTraces = false) (κ : gKap) (B : Nat) (ad : Nat → Nat) (g : Nat → va_E) (th b9 : Int) (m9 : Int) (sc : Int) (hm9 : inI m9) (hsc : inJ sc) (hb : 0 ≤ b9 ∧ b9 ≤ 700000000) (h : LI κ ad g th b9) {o9 : Int → Int64} (ho : g 200 = aJ κ 1 o9) :
  ∃ CL : Int → (Nat → va_E) → Prop, Met l yL_runScript wsL_runScript ({ frames := 7, cells := 3, slots := 15, locals := 174 }) (gPreY κ B 201 ad g [.ref (ad 0), .int (iz m9), .long (jz sc), .ref (ad 200)]) (gQi κ B 201 ad CL) 3 15 (gFree B) ∧ ∀ z g1, CL z g1 → (∃ fs, g1 192 = .inr (8, fs)) ∧ ∃ MP : Int → (Nat → va_E) → Prop, Met l yX8_runScript wsX8_runScript ({ frames := 8, cells := 0, slots := 0, locals := 194 }) (gPre κ B 201 ad g1 [.ref (ad 192), .int (iz m9), .long (jz sc)]) (gQi κ B 201 ad MP) 0 0 (gFree B) ∧ ∀ zm g2, MP zm g2 → LE κ ad g2 z zm (b9 + 1000) := by
  obtain ⟨tl, nl, ns, old, cnt, m0, m1, s0, s1, T9, v, vs, f, w0, w1, F9, pa, sv, P9, hC, hp, hj⟩ := h
  obtain ⟨htl, hTr, hok, hsim, hin, hins, hol, hct, hinP, hhs, hin0, hin1, hs01, hF01, hsl0, hsl1⟩ := id hp
  obtain ⟨hX, hT, hpl, hps, hhi, hF, hp0, hp1, hbn⟩ := id hC
  have hokv : okPl nl v := hok.sim hsim.symm
  obtain ⟨mk, rl, a09, wr, M9, q9, be, hM, hN, hK, hTm, hRd, hPa, hBe, hVv, hmk, hMr, hinq⟩ := id hj
  have hv0 := hsim.1
  have hv25 := hsim.2.1
  refine ⟨_, w_L_runScript l κ B 201 ad g m9 sc (c_X7_runScript l hlf κ B 201 ad g tl nl v ns vs m9 sc (by omega) hX hpl hokv hin hps hins hbn hm9 hsc) (by omega) hX.1 ho (fun z g' q => by obtain ⟨_, U9, _, _, _, n9, V9, _, _, _, q9⟩ := q; exact q9 200 (by omega) (by omega) (by omega)) (fun E g9 q => q.1), fun z g1 hz => ?_⟩
  rcases hz with ⟨rfl, r, gm, ⟨hc, U9, hsU, hinU, hr, n9, V9, hps9, hinV, hbn9, hf1⟩, rfl⟩ | ⟨rfl, hx⟩
  · have hmo : ∀ q, 192 ≤ q → q < 200 → (va_up gm 200 (aJ κ 1 (vuJ o9 0 (jz (rI r))))) q = g q := fun q q0 q1 => (gu_ne (by omega)).trans (hf1 q (by omega) (by omega) (by omega))
    refine ⟨⟨_, (hmo 192 (by omega) (by omega)).trans hM⟩, _, c_X8_runScript l κ B 201 ad _ nl th mk tl rl a09 wr s0 s1 cnt f M9 T9 q9 pa be sv m9 sc (by omega) ((hmo 192 (by omega) (by omega)).trans hM) ((hmo 193 (by omega) (by omega)).trans hN) ((hmo 194 (by omega) (by omega)).trans hK) ((hmo 195 (by omega) (by omega)).trans hTm) ((hmo 196 (by omega) (by omega)).trans hRd) ((hmo 197 (by omega) (by omega)).trans hPa) ((hmo 198 (by omega) (by omega)).trans hBe) ((hmo 199 (by omega) (by omega)).trans hVv) hok (by omega) hMr hinq  hm9 hsc, fun zm g2 hpost => ?_⟩
    obtain ⟨hR, hfr⟩ := hpost
    rcases hR with ⟨c9, hjk⟩ | ⟨c9, hz9, F8, hjk⟩
    · exact absurd hc c9
    · have hok8 : okPl nl (fun i => stF be 0 nl f (0 + 1 + i)) := hok.sim (sim_stF hok)
      have hbs := brF_sim (f := F8) hok8
      have hff := (sim_stF (rw9 := be) (fr := 0) (ly := nl) hok).tr hbs
      have hC1 : LSc κ ad gm tl nl n9 old cnt m0 m1 T9 v V9 w0 w1 F9 P9 := ⟨⟨(hf1 _ (by omega) (by omega) (by omega)).trans hX.1, (hf1 _ (by omega) (by omega) (by omega)).trans hX.2⟩, (hf1 _ (by omega) (by omega) (by omega)).trans hT, hpl.far (fun q _ _ => hf1 q (by omega) (by omega) (by omega)), hps9, hhi.far (fun q _ _ => hf1 q (by omega) (by omega) (by omega)), (hf1 _ (by omega) (by omega) (by omega)).trans hF, hp0.far (fun q _ _ => hf1 q (by omega) (by omega) (by omega)), hp1.far (fun q _ _ => hf1 q (by omega) (by omega) (by omega)), hbn9⟩
      have hp9 : LSp tl nl cnt old m0 m1 s0 s1 T9 v V9 (brF (stF be 0 nl f) 0 F8) w0 w1 F9 pa sv P9 := ⟨htl, hTr, hok.sim hff, hsim.tr hff, hin, hinV, hol, hct, hinP, hhs, hin0, hin1, hs01, hF01, hsl0, hsl1⟩
      exact ⟨⟨tl, nl, n9, old, cnt, m0, m1, s0, s1, T9, v, V9, (brF (stF be 0 nl f) 0 F8), w0, w1, F9, pa, sv, P9, (hC1.far (fun q hq => gu_ne (by omega))).far (fun q hq => hfr q (Or.inl hq)), hp9, hjk.up (by omega)⟩, by omega, _, (hfr 200 (by omega)).trans (gu_self _ _ _), fun _ => by rw [show r = zm from by rw [hr, hz9, rsF_sim scG_all 3 0 nl U9 f hok (hsU.tr hsim)]]; simp [vuJ]⟩
  · obtain ⟨_, c1, rfl⟩ := hx
    refine ⟨⟨_, hM⟩, _, c_X8_runScript l κ B 201 ad _ nl th mk tl rl a09 wr s0 s1 cnt f M9 T9 q9 pa be sv m9 sc (by omega) hM hN hK hTm hRd hPa hBe hVv hok (by omega) hMr hinq  hm9 hsc, fun zm g2 hpost => ?_⟩
    obtain ⟨hR, hfr⟩ := hpost
    rcases hR with ⟨c9, hjk⟩ | ⟨c9, hz9, F8, hjk⟩
    · exact ⟨⟨tl, nl, ns, old, cnt, m0, m1, s0, s1, T9, v, vs, f, w0, w1, F9, pa, sv, P9, hC.far (fun q hq => hfr q (Or.inl hq)), hp, hjk.up (by omega)⟩, by omega, o9, (hfr 200 (by omega)).trans ho, fun q => by omega⟩
    · exact absurd c9 c1
