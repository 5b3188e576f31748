/-! THE LAW: the calls that don't throw agree -/
theorem okPl.fg {nl : Int} {v : Int → Int} (h : okPl nl v) : okPl nl (vu v 25 0) := by
  obtain ⟨h1, h2, h3, h4, h5⟩ := h
  have e0 : vu v 25 0 0 = v 0 := vu_ne (by omega)
  refine ⟨h1, by rw [e0]; exact h2, by rw [vu_self]; omega, fun l l0 l1 => ?_, fun i i0 i1 => ?_⟩
  · rw [e0, vu_ne (by omega), vu_ne (by omega), vu_ne (by omega), vu_ne (by omega)]
    exact h4 l l0 l1
  · rw [vu_self] at i1
    omega
theorem od_clearText (l : Launch) (κ : gKap) (B : Nat) (ad : Nat → Nat) (g : Nat → va_E) (th b9 : Int) (hb : 0 ≤ b9 ∧ b9 ≤ 700000000) (h : LI κ ad g th b9) {o9 : Int → Int64} (ho : g 200 = aJ κ 1 o9) :
  ∃ CL : Int → (Nat → va_E) → Prop, Met l yX7_clearText wsX7_clearText ({ frames := 0, cells := 0, slots := 0, locals := 0 }) (gPre κ B 201 ad g [.ref (ad 0)]) (gQi κ B 201 ad CL) 0 0 (gFree B) ∧ ∀ z g1, CL z g1 → (∃ fs, g1 192 = .inr (8, fs)) ∧ ∃ MP : Int → (Nat → va_E) → Prop, Met l yX8_clearText wsX8_clearText ({ frames := 0, cells := 0, slots := 0, locals := 0 }) (gPre κ B 201 ad g1 [.ref (ad 192)]) (gQi κ B 201 ad MP) 0 0 (gFree B) ∧ ∀ zm g2, MP zm g2 → z = zm ∧ (∃ th9, LI κ ad g2 th9 (b9 + 1000)) ∧ ∃ o9 : Int → Int64, g2 200 = aJ κ 1 o9 := by
  obtain ⟨tl, nl, ns, old, cnt, m0, m1, s0, s1, T9, v, vs, f, w0, w1, F9, pa, sv, P9, hC, hp, hj⟩ := h
  obtain ⟨htl, hTr, hok, hsim, hin, hins, hol, hct, hinP, hhs, hin0, hin1, hs01, hF01, hsl0, hsl1⟩ := id hp
  obtain ⟨hX, hT, hpl, hps, hhi, hF, hp0, hp1, hbn⟩ := id hC
  have hokv : okPl nl v := hok.sim hsim.symm
  obtain ⟨mk, rl, a09, wr, M9, q9, be, hM, hN, hK, hTm, hRd, hPa, hBe, hVv, hmk, hMr, hinq⟩ := id hj
  have hv0 := hsim.1
  have hv25 := hsim.2.1
  refine ⟨_, c_X7_clearText l κ B 201 ad g tl (by omega) hX, fun z g1 hz => ?_⟩
  obtain ⟨hz0, hX9, hf1⟩ := hz
  have hmo : ∀ q, 192 ≤ q → q < 200 → g1 q = g q := fun q q0 q1 => hf1 q (by omega)
  refine ⟨⟨_, (hmo 192 (by omega) (by omega)).trans hM⟩, _, c_X8p_clearText l κ B 201 ad _ nl th mk tl rl a09 wr s0 s1 cnt f M9 T9 q9 pa be sv  (by omega) ((hmo 192 (by omega) (by omega)).trans hM) ((hmo 193 (by omega) (by omega)).trans hN) ((hmo 194 (by omega) (by omega)).trans hK) ((hmo 195 (by omega) (by omega)).trans hTm) ((hmo 196 (by omega) (by omega)).trans hRd) ((hmo 197 (by omega) (by omega)).trans hPa) ((hmo 198 (by omega) (by omega)).trans hBe) ((hmo 199 (by omega) (by omega)).trans hVv) hok (by omega) hMr hinq  , fun zm g2 hpost => ?_⟩
  obtain ⟨⟨hz9, hjk⟩, hfr⟩ := hpost
  have hC1 : LSc κ ad g1 0 nl ns old cnt m0 m1 T9 v vs w0 w1 F9 P9 := ⟨hX9, (hf1 _ (by omega)).trans hT, hpl.far (fun q _ _ => hf1 q (by omega)), hps.far (fun q _ _ => hf1 q (by omega)), hhi.far (fun q _ _ => hf1 q (by omega)), (hf1 _ (by omega)).trans hF, hp0.far (fun q _ _ => hf1 q (by omega)), hp1.far (fun q _ _ => hf1 q (by omega)), hbn.far (fun q _ _ => hf1 q (by omega))⟩
  have hp9 : LSp 0 nl cnt old m0 m1 s0 s1 T9 v vs f w0 w1 F9 pa sv P9 := ⟨by omega, hTr, hok, hsim, hin, hins, hol, hct, hinP, hhs, hin0, hin1, hs01, hF01, hsl0, hsl1⟩
  exact ⟨hz0.trans hz9.symm, ⟨_, 0, nl, ns, old, cnt, m0, m1, s0, s1, T9, v, vs, f, w0, w1, F9, pa, sv, P9, hC1.far (fun q hq => hfr q (Or.inl hq)), hp9, hjk.up (by omega)⟩, o9, (hfr 200 (by omega)).trans ((hf1 200 (by omega)).trans ho)⟩
theorem od_forget (l : Launch) (κ : gKap) (B : Nat) (ad : Nat → Nat) (g : Nat → va_E) (th b9 : Int) (hb : 0 ≤ b9 ∧ b9 ≤ 700000000) (h : LI κ ad g th b9) {o9 : Int → Int64} (ho : g 200 = aJ κ 1 o9) :
  ∃ CL : Int → (Nat → va_E) → Prop, Met l yX7_forget wsX7_forget ({ frames := 4, cells := 0, slots := 0, locals := 94 }) (gPre κ B 201 ad g [.ref (ad 0)]) (gQi κ B 201 ad CL) 0 0 (gFree B) ∧ ∀ z g1, CL z g1 → (∃ fs, g1 192 = .inr (8, fs)) ∧ ∃ MP : Int → (Nat → va_E) → Prop, Met l yX8_forget wsX8_forget ({ frames := 2, cells := 0, slots := 0, locals := 44 }) (gPre κ B 201 ad g1 [.ref (ad 192)]) (gQi κ B 201 ad MP) 0 0 (gFree B) ∧ ∀ zm g2, MP zm g2 → z = zm ∧ (∃ th9, LI κ ad g2 th9 (b9 + 1000)) ∧ ∃ o9 : Int → Int64, g2 200 = aJ κ 1 o9 := by
  obtain ⟨tl, nl, ns, old, cnt, m0, m1, s0, s1, T9, v, vs, f, w0, w1, F9, pa, sv, P9, hC, hp, hj⟩ := h
  obtain ⟨htl, hTr, hok, hsim, hin, hins, hol, hct, hinP, hhs, hin0, hin1, hs01, hF01, hsl0, hsl1⟩ := id hp
  obtain ⟨hX, hT, hpl, hps, hhi, hF, hp0, hp1, hbn⟩ := id hC
  have hokv : okPl nl v := hok.sim hsim.symm
  obtain ⟨mk, rl, a09, wr, M9, q9, be, hM, hN, hK, hTm, hRd, hPa, hBe, hVv, hmk, hMr, hinq⟩ := id hj
  have hv0 := hsim.1
  have hv25 := hsim.2.1
  refine ⟨_, c_X7_forget l κ B 201 ad g tl nl v old cnt P9 (by omega) hX hpl hokv hin hhi hol hct hinP, fun z g1 hz => ?_⟩
  obtain ⟨hz0, hre, hpl9, hf1⟩ := hz
  have hmo : ∀ q, 192 ≤ q → q < 200 → g1 q = g q := fun q q0 q1 => hf1 q (by omega) (by omega)
  refine ⟨⟨_, (hmo 192 (by omega) (by omega)).trans hM⟩, _, c_X8_forget l κ B 201 ad _ nl th mk tl rl a09 wr s0 s1 cnt f M9 T9 q9 pa be sv  (by omega) ((hmo 192 (by omega) (by omega)).trans hM) ((hmo 193 (by omega) (by omega)).trans hN) ((hmo 194 (by omega) (by omega)).trans hK) ((hmo 195 (by omega) (by omega)).trans hTm) ((hmo 196 (by omega) (by omega)).trans hRd) ((hmo 197 (by omega) (by omega)).trans hPa) ((hmo 198 (by omega) (by omega)).trans hBe) ((hmo 199 (by omega) (by omega)).trans hVv) hok (by omega) hMr hinq  hct, fun zm g2 hpost => ?_⟩
  obtain ⟨⟨hz9, hjk⟩, hfr⟩ := hpost
  obtain ⟨old9, P99, hC1, hp9⟩ := act_fin hC hp hre hpl9 hf1 (hok.fg) hsim.csee0 (hin.vu (by omega))
  exact ⟨by rw [hz0, hz9, hv25], ⟨_, tl, nl, ns, old9, remC cnt, m0, m1, s0, s1, T9, (vu v 25 0), vs, (vu f 25 0), w0, w1, F9, (rmF pa cnt nl f), sv, P99, hC1.far (fun q hq => hfr q (Or.inl hq)), hp9, hjk.up (by omega)⟩, o9, (hfr 200 (by omega)).trans ((hf1 200 (by omega) (by omega)).trans ho)⟩
theorem od_errorPosition (l : Launch) (κ : gKap) (B : Nat) (ad : Nat → Nat) (g : Nat → va_E) (th b9 : Int) (hb : 0 ≤ b9 ∧ b9 ≤ 700000000) (h : LI κ ad g th b9) {o9 : Int → Int64} (ho : g 200 = aJ κ 1 o9) :
  ∃ CL : Int → (Nat → va_E) → Prop, Met l yX7_errorPosition wsX7_errorPosition ({ frames := 6, cells := 1, slots := 3, locals := 137 }) (gPre κ B 201 ad g [.ref (ad 0)]) (gQi κ B 201 ad CL) 1 3 (gFree B) ∧ ∀ z g1, CL z g1 → (∃ fs, g1 192 = .inr (8, fs)) ∧ ∃ MP : Int → (Nat → va_E) → Prop, Met l yX8_errorPosition wsX8_errorPosition ({ frames := 4, cells := 0, slots := 0, locals := 95 }) (gPre κ B 201 ad g1 [.ref (ad 192)]) (gQi κ B 201 ad MP) 0 0 (gFree B) ∧ ∀ zm g2, MP zm g2 → z = zm ∧ (∃ th9, LI κ ad g2 th9 (b9 + 1000)) ∧ ∃ o9 : Int → Int64, g2 200 = aJ κ 1 o9 := by
  obtain ⟨tl, nl, ns, old, cnt, m0, m1, s0, s1, T9, v, vs, f, w0, w1, F9, pa, sv, P9, hC, hp, hj⟩ := h
  obtain ⟨htl, hTr, hok, hsim, hin, hins, hol, hct, hinP, hhs, hin0, hin1, hs01, hF01, hsl0, hsl1⟩ := id hp
  obtain ⟨hX, hT, hpl, hps, hhi, hF, hp0, hp1, hbn⟩ := id hC
  have hokv : okPl nl v := hok.sim hsim.symm
  obtain ⟨mk, rl, a09, wr, M9, q9, be, hM, hN, hK, hTm, hRd, hPa, hBe, hVv, hmk, hMr, hinq⟩ := id hj
  have hv0 := hsim.1
  have hv25 := hsim.2.1
  have hrt := rtS_sim (T9 := T9) (L9 := tl) (nl := ns) (nl2 := rl) (v := vs) (f := q9) htl hinq
  have hrs := (rtS_ok (T9 := T9) (L9 := tl) (nl := ns) (v := vs) htl hins).1
  refine ⟨_, c_X7_errorPosition l κ B 201 ad g tl T9 ns vs (by omega) hX hT htl hps hins hTr, fun z g1 hz => ?_⟩
  obtain ⟨hz0, hps9, hf1⟩ := hz
  have hmo : ∀ q, 192 ≤ q → q < 200 → g1 q = g q := fun q q0 q1 => hf1 q (by omega) (by omega)
  refine ⟨⟨_, (hmo 192 (by omega) (by omega)).trans hM⟩, _, c_X8p_errorPosition l κ B 201 ad _ nl th mk tl rl a09 wr s0 s1 cnt f M9 T9 q9 pa be sv  (by omega) ((hmo 192 (by omega) (by omega)).trans hM) ((hmo 193 (by omega) (by omega)).trans hN) ((hmo 194 (by omega) (by omega)).trans hK) ((hmo 195 (by omega) (by omega)).trans hTm) ((hmo 196 (by omega) (by omega)).trans hRd) ((hmo 197 (by omega) (by omega)).trans hPa) ((hmo 198 (by omega) (by omega)).trans hBe) ((hmo 199 (by omega) (by omega)).trans hVv) hok (by omega) hMr hinq  htl hTr, fun zm g2 hpost => ?_⟩
  obtain ⟨⟨hz9, hjk⟩, hfr⟩ := hpost
  have hC1 := hC.spare hps9 (fun q q0 q1 => hf1 q (by omega) q1)
  have hp9 : LSp tl nl cnt old m0 m1 s0 s1 T9 v (rtS T9 tl ns vs).2.2 f w0 w1 F9 pa sv P9 := ⟨htl, hTr, hok, hsim, hin, hrs, hol, hct, hinP, hhs, hin0, hin1, hs01, hF01, hsl0, hsl1⟩
  exact ⟨by rw [hz0, hz9, hrt.1], ⟨_, tl, nl, (rtS T9 tl ns vs).2.1, old, cnt, m0, m1, s0, s1, T9, v, (rtS T9 tl ns vs).2.2, f, w0, w1, F9, pa, sv, P9, hC1.far (fun q hq => hfr q (Or.inl hq)), hp9, hjk.up (by omega)⟩, o9, (hfr 200 (by omega)).trans ((hf1 200 (by omega) (by omega)).trans ho)⟩
theorem od_blank (l : Launch) (κ : gKap) (B : Nat) (ad : Nat → Nat) (g : Nat → va_E) (th b9 : Int) (hb : 0 ≤ b9 ∧ b9 ≤ 700000000) (h : LI κ ad g th b9) {o9 : Int → Int64} (ho : g 200 = aJ κ 1 o9) :
  ∃ CL : Int → (Nat → va_E) → Prop, Met l yX7_blank wsX7_blank ({ frames := 4, cells := 0, slots := 0, locals := 100 }) (gPre κ B 201 ad g [.ref (ad 0)]) (gQi κ B 201 ad CL) 0 0 (gFree B) ∧ ∀ z g1, CL z g1 → (∃ fs, g1 192 = .inr (8, fs)) ∧ ∃ MP : Int → (Nat → va_E) → Prop, Met l yX8_blank wsX8_blank ({ frames := 5, cells := 0, slots := 0, locals := 119 }) (gPre κ B 201 ad g1 [.ref (ad 192)]) (gQi κ B 201 ad MP) 0 0 (gFree B) ∧ ∀ zm g2, MP zm g2 → z = zm ∧ (∃ th9, LI κ ad g2 th9 (b9 + 1000)) ∧ ∃ o9 : Int → Int64, g2 200 = aJ κ 1 o9 := by
  obtain ⟨tl, nl, ns, old, cnt, m0, m1, s0, s1, T9, v, vs, f, w0, w1, F9, pa, sv, P9, hC, hp, hj⟩ := h
  obtain ⟨htl, hTr, hok, hsim, hin, hins, hol, hct, hinP, hhs, hin0, hin1, hs01, hF01, hsl0, hsl1⟩ := id hp
  obtain ⟨hX, hT, hpl, hps, hhi, hF, hp0, hp1, hbn⟩ := id hC
  have hokv : okPl nl v := hok.sim hsim.symm
  obtain ⟨mk, rl, a09, wr, M9, q9, be, hM, hN, hK, hTm, hRd, hPa, hBe, hVv, hmk, hMr, hinq⟩ := id hj
  have hv0 := hsim.1
  have hv25 := hsim.2.1
  refine ⟨_, c_X7_blank l κ B 201 ad g tl nl v (by omega) hX hpl hokv hbn, fun z g1 hz => ?_⟩
  obtain ⟨hb1, hf1, hpo⟩ := hz
  have hmo : ∀ q, 192 ≤ q → q < 200 → g1 q = g q := fun q q0 q1 => hf1 q (by omega)
  refine ⟨⟨_, (hmo 192 (by omega) (by omega)).trans hM⟩, _, c_X8_blank l κ B 201 ad _ nl th mk tl rl a09 wr s0 s1 cnt f M9 T9 q9 pa be sv  (by omega) ((hmo 192 (by omega) (by omega)).trans hM) ((hmo 193 (by omega) (by omega)).trans hN) ((hmo 194 (by omega) (by omega)).trans hK) ((hmo 195 (by omega) (by omega)).trans hTm) ((hmo 196 (by omega) (by omega)).trans hRd) ((hmo 197 (by omega) (by omega)).trans hPa) ((hmo 198 (by omega) (by omega)).trans hBe) ((hmo 199 (by omega) (by omega)).trans hVv) hok (by omega) hMr hinq  , fun zm g2 hpost => ?_⟩
  obtain ⟨t9, ⟨ht9, hR⟩, hjk, hfr⟩ := hpost
  have e9 := gpf_congr (E := fun q9 => 0 < (cntR (fun x y => ∃ l9, 0 ≤ l9 ∧ l9 < nl ∧ PTl v l9 x y) q9 : Int)) (E' := fun q9 => 0 < (cntR (fun x y => ∃ l9, 0 ≤ l9 ∧ l9 < nl ∧ PTl f l9 x y) q9 : Int)) 301 (fun r _ _ => by rw [cntR_sim hsim])
  rw [e9] at hpo
  exact ⟨by omega, ⟨_, tl, nl, ns, old, cnt, m0, m1, s0, s1, T9, v, vs, f, w0, w1, F9, pa, sv, P9, (hC.bench hb1 hf1).far (fun q hq => hfr q (Or.inl hq)), hp, hjk.up (by omega)⟩, o9, (hfr 200 (by omega)).trans ((hf1 200 (by omega)).trans ho)⟩
theorem od_together (l : Launch) (κ : gKap) (B : Nat) (ad : Nat → Nat) (g : Nat → va_E) (th b9 : Int) (hb : 0 ≤ b9 ∧ b9 ≤ 700000000) (h : LI κ ad g th b9) {o9 : Int → Int64} (ho : g 200 = aJ κ 1 o9) :
  ∃ CL : Int → (Nat → va_E) → Prop, Met l yX7_together wsX7_together ({ frames := 3, cells := 0, slots := 0, locals := 72 }) (gPre κ B 201 ad g [.ref (ad 0)]) (gQl κ B 201 ad CL) 0 0 (gFree B) ∧ ∀ z g1, CL z g1 → (∃ fs, g1 192 = .inr (8, fs)) ∧ ∃ MP : Int → (Nat → va_E) → Prop, Met l yX8_together wsX8_together ({ frames := 2, cells := 0, slots := 0, locals := 45 }) (gPre κ B 201 ad g1 [.ref (ad 192)]) (gQl κ B 201 ad MP) 0 0 (gFree B) ∧ ∀ zm g2, MP zm g2 → z = zm ∧ (∃ th9, LI κ ad g2 th9 (b9 + 1000)) ∧ ∃ o9 : Int → Int64, g2 200 = aJ κ 1 o9 := by
  obtain ⟨tl, nl, ns, old, cnt, m0, m1, s0, s1, T9, v, vs, f, w0, w1, F9, pa, sv, P9, hC, hp, hj⟩ := h
  obtain ⟨htl, hTr, hok, hsim, hin, hins, hol, hct, hinP, hhs, hin0, hin1, hs01, hF01, hsl0, hsl1⟩ := id hp
  obtain ⟨hX, hT, hpl, hps, hhi, hF, hp0, hp1, hbn⟩ := id hC
  have hokv : okPl nl v := hok.sim hsim.symm
  obtain ⟨mk, rl, a09, wr, M9, q9, be, hM, hN, hK, hTm, hRd, hPa, hBe, hVv, hmk, hMr, hinq⟩ := id hj
  have hv0 := hsim.1
  have hv25 := hsim.2.1
  refine ⟨_, c_X7_together l κ B 201 ad g tl nl v (by omega) hX hpl hokv, fun z g1 hz => ?_⟩
  obtain ⟨hg1, hpo⟩ := hz
  have hmo : ∀ q, 192 ≤ q → q < 200 → g1 q = g q := fun q q0 q1 => by rw [hg1]
  refine ⟨⟨_, (hmo 192 (by omega) (by omega)).trans hM⟩, _, c_X8_together l κ B 201 ad _ nl th mk tl rl a09 wr s0 s1 cnt f M9 T9 q9 pa be sv  (by omega) ((hmo 192 (by omega) (by omega)).trans hM) ((hmo 193 (by omega) (by omega)).trans hN) ((hmo 194 (by omega) (by omega)).trans hK) ((hmo 195 (by omega) (by omega)).trans hTm) ((hmo 196 (by omega) (by omega)).trans hRd) ((hmo 197 (by omega) (by omega)).trans hPa) ((hmo 198 (by omega) (by omega)).trans hBe) ((hmo 199 (by omega) (by omega)).trans hVv) hok (by omega) hMr hinq  , fun zm g2 hpost => ?_⟩
  obtain ⟨t9, ⟨ht9, hR⟩, hjk, hfr⟩ := hpost
  rw [tgA_sim hsim nl.toNat (by have := hok.1; omega)] at hpo
  exact ⟨by omega, ⟨_, tl, nl, ns, old, cnt, m0, m1, s0, s1, T9, v, vs, f, w0, w1, F9, pa, sv, P9, hC.far (fun q hq => (hfr q (Or.inl hq)).trans (by rw [hg1])), hp, hjk.up (by omega)⟩, o9, (hfr 200 (by omega)).trans (by rw [hg1]; exact ho)⟩
