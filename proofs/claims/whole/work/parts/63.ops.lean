/-! THE LAW: questions agree -/
theorem ptA_sim {nl x y : Int} {v f : Int → Int} (s9 : sim nl v f) : (∃ l9, 0 ≤ l9 ∧ l9 < nl ∧ PTl v l9 x y) ↔ ∃ l9, 0 ≤ l9 ∧ l9 < nl ∧ PTl f l9 x y :=
  ⟨fun ⟨l9, h0, h1, q⟩ => ⟨l9, h0, h1, (PTl_sim s9 h0 h1).mp q⟩, fun ⟨l9, h0, h1, q⟩ => ⟨l9, h0, h1, (PTl_sim s9 h0 h1).mpr q⟩⟩
theorem cntR_sim {nl ra : Int} {v f : Int → Int} (s9 : sim nl v f) : cntR (fun x y => ∃ l9, 0 ≤ l9 ∧ l9 < nl ∧ PTl v l9 x y) ra = cntR (fun x y => ∃ l9, 0 ≤ l9 ∧ l9 < nl ∧ PTl f l9 x y) ra := by
  unfold cntR
  exact fb_ct_cong fun k hk => dB_congr (ptA_sim s9)
theorem op_about (l : Launch) (hlf : l.stackTraces = false) (κ : gKap) (B : Nat) (ad : Nat → Nat) (g : Nat → va_E) (th b9 : Int) (wh : Int) (hwh : inI wh) (hb : 0 ≤ b9 ∧ b9 ≤ 700000000) (h : LI κ ad g th b9) {o9 : Int → Int64} (ho : g 200 = aJ κ 1 o9) :
  ∃ CL : Int → (Nat → va_E) → Prop, Met l yL_about wsL_about ({ frames := 7, cells := 1, slots := 6, locals := 144 }) (gPreY κ B 201 ad g [.ref (ad 0), .int (iz wh), .ref (ad 200)]) (gQi κ B 201 ad CL) 1 6 (gFree B) ∧ ∀ z g1, CL z g1 → (∃ fs, g1 192 = .inr (8, fs)) ∧ ∃ MP : Int → (Nat → va_E) → Prop, Met l yX8_about wsX8_about ({ frames := 6, cells := 0, slots := 0, locals := 142 }) (gPre κ B 201 ad g1 [.ref (ad 192), .int (iz wh)]) (gQi κ B 201 ad MP) 0 0 (gFree B) ∧ ∀ zm g2, MP zm g2 → LE κ ad g2 z zm (b9 + 1000) := by
  obtain ⟨tl, nl, ns, old, cnt, m0, m1, s0, s1, T9, v, vs, f, w0, w1, F9, pa, sv, P9, hC, hp, hj⟩ := h
  obtain ⟨htl, hTr, hok, hsim, hin, hins, hol, hct, hinP, hhs, hin0, hin1, hs01, hF01, hsl0, hsl1⟩ := id hp
  obtain ⟨hX, hT, hpl, hps, hhi, hF, hp0, hp1, hbn⟩ := id hC
  have hokv : okPl nl v := hok.sim hsim.symm
  obtain ⟨mk, rl, a09, wr, M9, q9, be, hM, hN, hK, hTm, hRd, hPa, hBe, hVv, hmk, hMr, hinq⟩ := id hj
  have hv0 := hsim.1
  have hv25 := hsim.2.1
  refine ⟨_, w_L_about l κ B 201 ad g wh (c_X7_about l hlf κ B 201 ad g tl nl v wh (by omega) hX hpl hokv hbn hwh ) (by omega) hX.1 ho (fun z g' q => q.2.1 200 (by omega)) (fun E g9 q => q.1), fun z g1 hz => ?_⟩
  have key : (∀ q, 192 ≤ q → q < 200 → g1 q = g q) ∧ LSc κ ad g1 tl nl ns old cnt m0 m1 T9 v vs w0 w1 F9 P9 ∧ ∃ o8 : Int → Int64, g1 200 = aJ κ 1 o8 ∧ ((z = 0 ∧ ∃ r, (((wh = 0 ∧ r = v 0) ∨ (wh = 1 ∧ r = nl) ∨ (wh = 2 ∧ r = v 25) ∨ (wh = 3 ∧ r = (cntS (fun x y => ∃ l9, 0 ≤ l9 ∧ l9 < nl ∧ PTl v l9 x y) : Int)) ∨ (wh = 4 ∧ r = lsA v nl.toNat) ∨ (wh = 5 ∧ r = grA v nl.toNat) ∨ (wh = 6 ∧ r = fitN nl v))) ∧ o8 0 = jz (rI r)) ∨ (z = 1 ∧ (¬ (0 ≤ wh ∧ wh ≤ 6)))) := by
    rcases hz with ⟨rfl, r, gm, hpo9, rfl⟩ | ⟨rfl, hx⟩
    · obtain ⟨hb1, hf1, hpo⟩ := hpo9
      exact ⟨fun q q0 q1 => (gu_ne (by omega)).trans (hf1 q (by omega)), (hC.bench hb1 hf1).far (fun q hq => gu_ne (by omega)), _, gu_self _ _ _, Or.inl ⟨rfl, r, hpo, by simp [vuJ]⟩⟩
    · obtain ⟨_, c1, rfl⟩ := hx
      exact ⟨fun q _ _ => rfl, hC, o9, ho, Or.inr ⟨rfl, c1⟩⟩
  obtain ⟨hmo, hC1, o8, ho8, hag⟩ := key
  refine ⟨⟨_, (hmo 192 (by omega) (by omega)).trans hM⟩, _, c_X8_about l κ B 201 ad g1 nl th mk tl rl a09 wr s0 s1 cnt f M9 T9 q9 pa be sv wh (by omega) ((hmo 192 (by omega) (by omega)).trans hM) ((hmo 193 (by omega) (by omega)).trans hN) ((hmo 194 (by omega) (by omega)).trans hK) ((hmo 195 (by omega) (by omega)).trans hTm) ((hmo 196 (by omega) (by omega)).trans hRd) ((hmo 197 (by omega) (by omega)).trans hPa) ((hmo 198 (by omega) (by omega)).trans hBe) ((hmo 199 (by omega) (by omega)).trans hVv) hok (by omega) hMr hinq  hwh, fun zm g2 hpost => ?_⟩
  obtain ⟨t9, hR, hjk, hfr⟩ := hpost
  have hfin : t9 = z ∧ (z = 0 → o8 0 = jz (rI zm)) := by
    rcases hag with ⟨rfl, r, hpo, e8⟩ | ⟨rfl, c1⟩
    · have hrz : t9 = 0 ∧ r = zm := by
        have E3 : cntS (fun x y => ∃ l9, 0 ≤ l9 ∧ l9 < nl ∧ PTl v l9 x y) = cntS (fun x y => ∃ l9, 0 ≤ l9 ∧ l9 < nl ∧ PTl f l9 x y) := cntS_congr (fun x y _ _ _ _ => ptA_sim hsim)
        rw [hv0, hv25, E3, lsA_sim hsim nl.toNat (by have := hok.1; omega), grA_sim hsim nl.toNat (by have := hok.1; omega), fitN_sim hsim] at hpo
        clear hz; omega
      exact ⟨hrz.1, fun _ => by rw [e8, hrz.2]⟩
    · exact ⟨by omega, fun q => by omega⟩
  have hzz : 0 ≤ z ∧ z ≤ 2 := by
    rcases hag with ⟨q, _⟩ | ⟨q, _⟩ <;> omega
  obtain ⟨rfl, hval⟩ := hfin
  exact ⟨⟨tl, nl, ns, old, cnt, m0, m1, s0, s1, T9, v, vs, f, w0, w1, F9, pa, sv, P9, hC1.far (fun q hq => hfr q (Or.inl hq)), hp, hjk.up (by omega)⟩, hzz, o8, (hfr 200 (by omega)).trans ho8, hval⟩
theorem op_layer (l : Launch) (hlf : l.stackTraces = false) (κ : gKap) (B : Nat) (ad : Nat → Nat) (g : Nat → va_E) (th b9 : Int) (li : Int) (wh : Int) (hli : inI li) (hwh : inI wh) (hb : 0 ≤ b9 ∧ b9 ≤ 700000000) (h : LI κ ad g th b9) {o9 : Int → Int64} (ho : g 200 = aJ κ 1 o9) :
  ∃ CL : Int → (Nat → va_E) → Prop, Met l yL_layer wsL_layer ({ frames := 7, cells := 1, slots := 6, locals := 122 }) (gPreY κ B 201 ad g [.ref (ad 0), .int (iz li), .int (iz wh), .ref (ad 200)]) (gQi κ B 201 ad CL) 1 6 (gFree B) ∧ ∀ z g1, CL z g1 → (∃ fs, g1 192 = .inr (8, fs)) ∧ ∃ MP : Int → (Nat → va_E) → Prop, Met l yX8_layer wsX8_layer ({ frames := 5, cells := 0, slots := 0, locals := 118 }) (gPre κ B 201 ad g1 [.ref (ad 192), .int (iz li), .int (iz wh)]) (gQi κ B 201 ad MP) 0 0 (gFree B) ∧ ∀ zm g2, MP zm g2 → LE κ ad g2 z zm (b9 + 1000) := by
  obtain ⟨tl, nl, ns, old, cnt, m0, m1, s0, s1, T9, v, vs, f, w0, w1, F9, pa, sv, P9, hC, hp, hj⟩ := h
  obtain ⟨htl, hTr, hok, hsim, hin, hins, hol, hct, hinP, hhs, hin0, hin1, hs01, hF01, hsl0, hsl1⟩ := id hp
  obtain ⟨hX, hT, hpl, hps, hhi, hF, hp0, hp1, hbn⟩ := id hC
  have hokv : okPl nl v := hok.sim hsim.symm
  obtain ⟨mk, rl, a09, wr, M9, q9, be, hM, hN, hK, hTm, hRd, hPa, hBe, hVv, hmk, hMr, hinq⟩ := id hj
  have hv0 := hsim.1
  have hv25 := hsim.2.1
  refine ⟨_, w_L_layer l κ B 201 ad g li wh (c_X7_layer l hlf κ B 201 ad g tl nl v li wh (by omega) hX hpl hokv hbn hli hwh ) (by omega) hX.1 ho (fun z g' q => q.2.1 200 (by omega)) (fun E g9 q => q.elim (fun q => Or.inl q.1) (fun q => Or.inr q.1)), fun z g1 hz => ?_⟩
  have key : (∀ q, 192 ≤ q → q < 200 → g1 q = g q) ∧ LSc κ ad g1 tl nl ns old cnt m0 m1 T9 v vs w0 w1 F9 P9 ∧ ∃ o8 : Int → Int64, g1 200 = aJ κ 1 o8 ∧ ((z = 0 ∧ ∃ r, ((0 ≤ li ∧ li < nl) ∧ ((wh = 0 ∧ r = v (4 * li + 1)) ∨ (wh = 1 ∧ r = v (4 * li + 2)) ∨ (wh = 2 ∧ r = v (4 * li + 3)) ∨ (wh = 3 ∧ r = v (4 * li + 4)) ∨ (wh = 4 ∧ r = pd (v 0) (v (4 * li + 1))) ∨ (wh = 5 ∧ r = tn (v 0) (v (4 * li + 1))) ∨ (wh = 6 ∧ r = lb (v 0) (v (4 * li + 1))) ∨ (wh = 7 ∧ r = (cntS (fun x y => PTl v li x y) : Int)) ∨ (wh = 8 ∧ r = lsr v li) ∨ (wh = 9 ∧ r = grr v li))) ∧ o8 0 = jz (rI r)) ∨ (z = 1 ∧ (¬ (0 ≤ li ∧ li < nl))) ∨ (z = 2 ∧ ((0 ≤ li ∧ li < nl) ∧ ¬ (0 ≤ wh ∧ wh ≤ 9)))) := by
    rcases hz with ⟨rfl, r, gm, hpo9, rfl⟩ | ⟨rfl, hx⟩ | ⟨rfl, hx⟩
    · obtain ⟨hb1, hf1, hpo⟩ := hpo9
      exact ⟨fun q q0 q1 => (gu_ne (by omega)).trans (hf1 q (by omega)), (hC.bench hb1 hf1).far (fun q hq => gu_ne (by omega)), _, gu_self _ _ _, Or.inl ⟨rfl, r, hpo, by simp [vuJ]⟩⟩
    · rcases hx with ⟨e9, c1, rfl⟩ | ⟨e9, c1, rfl⟩
      · first | (exact absurd e9 (by decide)) | exact ⟨fun q _ _ => rfl, hC, o9, ho, Or.inr (Or.inl ⟨rfl, c1⟩)⟩
      · first | (exact absurd e9 (by decide)) | exact ⟨fun q _ _ => rfl, hC, o9, ho, Or.inr (Or.inl ⟨rfl, c1⟩)⟩
    · rcases hx with ⟨e9, c1, rfl⟩ | ⟨e9, c1, rfl⟩
      · first | (exact absurd e9 (by decide)) | exact ⟨fun q _ _ => rfl, hC, o9, ho, Or.inr (Or.inr ⟨rfl, c1⟩)⟩
      · first | (exact absurd e9 (by decide)) | exact ⟨fun q _ _ => rfl, hC, o9, ho, Or.inr (Or.inr ⟨rfl, c1⟩)⟩
  obtain ⟨hmo, hC1, o8, ho8, hag⟩ := key
  refine ⟨⟨_, (hmo 192 (by omega) (by omega)).trans hM⟩, _, c_X8_layer l κ B 201 ad g1 nl th mk tl rl a09 wr s0 s1 cnt f M9 T9 q9 pa be sv li wh (by omega) ((hmo 192 (by omega) (by omega)).trans hM) ((hmo 193 (by omega) (by omega)).trans hN) ((hmo 194 (by omega) (by omega)).trans hK) ((hmo 195 (by omega) (by omega)).trans hTm) ((hmo 196 (by omega) (by omega)).trans hRd) ((hmo 197 (by omega) (by omega)).trans hPa) ((hmo 198 (by omega) (by omega)).trans hBe) ((hmo 199 (by omega) (by omega)).trans hVv) hok (by omega) hMr hinq  hli hwh, fun zm g2 hpost => ?_⟩
  obtain ⟨t9, hR, hjk, hfr⟩ := hpost
  have hfin : t9 = z ∧ (z = 0 → o8 0 = jz (rI zm)) := by
    rcases hag with ⟨rfl, r, hpo, e8⟩ | ⟨rfl, c1⟩ | ⟨rfl, c1⟩
    · have hrz : t9 = 0 ∧ r = zm := by
        obtain ⟨hl, hcs⟩ := hpo
        obtain ⟨e1, e2, e3, e4⟩ := hsim.clay hl.1 hl.2
        have E7 : cntS (fun x y => PTl v li x y) = cntS (fun x y => PTl f li x y) := cntS_congr (fun x y _ _ _ _ => PTl_sim hsim hl.1 hl.2)
        rw [e1, e2, e3, e4, hv0, E7, lsr_sim hsim hl.1 hl.2, grr_sim hsim hl.1 hl.2] at hcs
        clear hz; omega
      exact ⟨hrz.1, fun _ => by rw [e8, hrz.2]⟩
    · exact ⟨by omega, fun q => by omega⟩
    · exact ⟨by omega, fun q => by omega⟩
  have hzz : 0 ≤ z ∧ z ≤ 2 := by
    rcases hag with ⟨q, _⟩ | ⟨q, _⟩ | ⟨q, _⟩ <;> omega
  obtain ⟨rfl, hval⟩ := hfin
  exact ⟨⟨tl, nl, ns, old, cnt, m0, m1, s0, s1, T9, v, vs, f, w0, w1, F9, pa, sv, P9, hC1.far (fun q hq => hfr q (Or.inl hq)), hp, hjk.up (by omega)⟩, hzz, o8, (hfr 200 (by omega)).trans ho8, hval⟩
theorem op_pen (l : Launch) (hlf : l.stackTraces = false) (κ : gKap) (B : Nat) (ad : Nat → Nat) (g : Nat → va_E) (th b9 : Int) (li : Int) (t : Int) (hli : inI li) (ht : inJ t) (hb : 0 ≤ b9 ∧ b9 ≤ 700000000) (h : LI κ ad g th b9) {o9 : Int → Int64} (ho : g 200 = aJ κ 1 o9) :
  ∃ CL : Int → (Nat → va_E) → Prop, Met l yL_pen wsL_pen ({ frames := 7, cells := 1, slots := 6, locals := 106 }) (gPreY κ B 201 ad g [.ref (ad 0), .int (iz li), .long (jz t), .ref (ad 200)]) (gQi κ B 201 ad CL) 1 6 (gFree B) ∧ ∀ z g1, CL z g1 → (∃ fs, g1 192 = .inr (8, fs)) ∧ ∃ MP : Int → (Nat → va_E) → Prop, Met l yX8_pen wsX8_pen ({ frames := 2, cells := 0, slots := 0, locals := 50 }) (gPre κ B 201 ad g1 [.ref (ad 192), .int (iz li), .long (jz t)]) (gQi κ B 201 ad MP) 0 0 (gFree B) ∧ ∀ zm g2, MP zm g2 → LE κ ad g2 z zm (b9 + 1000) := by
  obtain ⟨tl, nl, ns, old, cnt, m0, m1, s0, s1, T9, v, vs, f, w0, w1, F9, pa, sv, P9, hC, hp, hj⟩ := h
  obtain ⟨htl, hTr, hok, hsim, hin, hins, hol, hct, hinP, hhs, hin0, hin1, hs01, hF01, hsl0, hsl1⟩ := id hp
  obtain ⟨hX, hT, hpl, hps, hhi, hF, hp0, hp1, hbn⟩ := id hC
  have hokv : okPl nl v := hok.sim hsim.symm
  obtain ⟨mk, rl, a09, wr, M9, q9, be, hM, hN, hK, hTm, hRd, hPa, hBe, hVv, hmk, hMr, hinq⟩ := id hj
  have hv0 := hsim.1
  have hv25 := hsim.2.1
  refine ⟨_, w_L_pen l κ B 201 ad g li t (c_X7_pen l hlf κ B 201 ad g tl nl v li t (by omega) hX hpl hokv hli ht ) (by omega) hX.1 ho (fun z g' q => by rw [q.1]) (fun E g9 q => q.elim (fun q => Or.inl q.1) (fun q => Or.inr q.1)), fun z g1 hz => ?_⟩
  have key : (∀ q, 192 ≤ q → q < 200 → g1 q = g q) ∧ LSc κ ad g1 tl nl ns old cnt m0 m1 T9 v vs w0 w1 F9 P9 ∧ ∃ o8 : Int → Int64, g1 200 = aJ κ 1 o8 ∧ ((z = 0 ∧ ∃ r, (((0 ≤ li ∧ li < nl) ∧ 0 ≤ t ∧ r = 1000 * ((v (4 * li + 4) + t) % v 0) + rad (v (4 * li + 1)) (v (4 * li + 2)) (v (4 * li + 3)) (t % v (4 * li + 1)))) ∧ o8 0 = jz (rI r)) ∨ (z = 1 ∧ (¬ (0 ≤ li ∧ li < nl))) ∨ (z = 2 ∧ ((0 ≤ li ∧ li < nl) ∧ t < 0))) := by
    rcases hz with ⟨rfl, r, gm, hpo9, rfl⟩ | ⟨rfl, hx⟩ | ⟨rfl, hx⟩
    · obtain ⟨hg1, hpo⟩ := hpo9
      subst hg1
      exact ⟨fun q q0 q1 => gu_ne (by omega), hC.far (fun q hq => gu_ne (by omega)), _, gu_self _ _ _, Or.inl ⟨rfl, r, hpo, by simp [vuJ]⟩⟩
    · rcases hx with ⟨e9, c1, rfl⟩ | ⟨e9, c1, rfl⟩
      · first | (exact absurd e9 (by decide)) | exact ⟨fun q _ _ => rfl, hC, o9, ho, Or.inr (Or.inl ⟨rfl, c1⟩)⟩
      · first | (exact absurd e9 (by decide)) | exact ⟨fun q _ _ => rfl, hC, o9, ho, Or.inr (Or.inl ⟨rfl, c1⟩)⟩
    · rcases hx with ⟨e9, c1, rfl⟩ | ⟨e9, c1, rfl⟩
      · first | (exact absurd e9 (by decide)) | exact ⟨fun q _ _ => rfl, hC, o9, ho, Or.inr (Or.inr ⟨rfl, c1⟩)⟩
      · first | (exact absurd e9 (by decide)) | exact ⟨fun q _ _ => rfl, hC, o9, ho, Or.inr (Or.inr ⟨rfl, c1⟩)⟩
  obtain ⟨hmo, hC1, o8, ho8, hag⟩ := key
  refine ⟨⟨_, (hmo 192 (by omega) (by omega)).trans hM⟩, _, c_X8_pen l κ B 201 ad g1 nl th mk tl rl a09 wr s0 s1 cnt f M9 T9 q9 pa be sv li t (by omega) ((hmo 192 (by omega) (by omega)).trans hM) ((hmo 193 (by omega) (by omega)).trans hN) ((hmo 194 (by omega) (by omega)).trans hK) ((hmo 195 (by omega) (by omega)).trans hTm) ((hmo 196 (by omega) (by omega)).trans hRd) ((hmo 197 (by omega) (by omega)).trans hPa) ((hmo 198 (by omega) (by omega)).trans hBe) ((hmo 199 (by omega) (by omega)).trans hVv) hok (by omega) hMr hinq  hli ht, fun zm g2 hpost => ?_⟩
  obtain ⟨t9, hR, hjk, hfr⟩ := hpost
  have hfin : t9 = z ∧ (z = 0 → o8 0 = jz (rI zm)) := by
    rcases hag with ⟨rfl, r, hpo, e8⟩ | ⟨rfl, c1⟩ | ⟨rfl, c1⟩
    · have hrz : t9 = 0 ∧ r = zm := by
        obtain ⟨hl, ht0, hr⟩ := hpo
        obtain ⟨e1, e2, e3, e4⟩ := hsim.clay hl.1 hl.2
        rw [e1, e2, e3, e4, hv0] at hr
        rcases hR with ⟨q, c9⟩ | ⟨q, c9, c8⟩ | ⟨q, c9, c8, c7⟩
        · exact absurd hl c9
        · exfalso; omega
        · exact ⟨q, hr.trans c7.symm⟩
      exact ⟨hrz.1, fun _ => by rw [e8, hrz.2]⟩
    · exact ⟨by omega, fun q => by omega⟩
    · exact ⟨by omega, fun q => by omega⟩
  have hzz : 0 ≤ z ∧ z ≤ 2 := by
    rcases hag with ⟨q, _⟩ | ⟨q, _⟩ | ⟨q, _⟩ <;> omega
  obtain ⟨rfl, hval⟩ := hfin
  exact ⟨⟨tl, nl, ns, old, cnt, m0, m1, s0, s1, T9, v, vs, f, w0, w1, F9, pa, sv, P9, hC1.far (fun q hq => hfr q (Or.inl hq)), hp, hjk.up (by omega)⟩, hzz, o8, (hfr 200 (by omega)).trans ho8, hval⟩
theorem op_comes (l : Launch) (hlf : l.stackTraces = false) (κ : gKap) (B : Nat) (ad : Nat → Nat) (g : Nat → va_E) (th b9 : Int) (li : Int) (an : Int) (ra : Int) (hli : inI li) (han : inI an) (hra : inI ra) (hb : 0 ≤ b9 ∧ b9 ≤ 700000000) (h : LI κ ad g th b9) {o9 : Int → Int64} (ho : g 200 = aJ κ 1 o9) :
  ∃ CL : Int → (Nat → va_E) → Prop, Met l yL_comes wsL_comes ({ frames := 7, cells := 1, slots := 6, locals := 106 }) (gPreY κ B 201 ad g [.ref (ad 0), .int (iz li), .int (iz an), .int (iz ra), .ref (ad 200)]) (gQi κ B 201 ad CL) 1 6 (gFree B) ∧ ∀ z g1, CL z g1 → (∃ fs, g1 192 = .inr (8, fs)) ∧ ∃ MP : Int → (Nat → va_E) → Prop, Met l yX8_comes wsX8_comes ({ frames := 4, cells := 0, slots := 0, locals := 98 }) (gPre κ B 201 ad g1 [.ref (ad 192), .int (iz li), .int (iz an), .int (iz ra)]) (gQi κ B 201 ad MP) 0 0 (gFree B) ∧ ∀ zm g2, MP zm g2 → LE κ ad g2 z zm (b9 + 1000) := by
  obtain ⟨tl, nl, ns, old, cnt, m0, m1, s0, s1, T9, v, vs, f, w0, w1, F9, pa, sv, P9, hC, hp, hj⟩ := h
  obtain ⟨htl, hTr, hok, hsim, hin, hins, hol, hct, hinP, hhs, hin0, hin1, hs01, hF01, hsl0, hsl1⟩ := id hp
  obtain ⟨hX, hT, hpl, hps, hhi, hF, hp0, hp1, hbn⟩ := id hC
  have hokv : okPl nl v := hok.sim hsim.symm
  obtain ⟨mk, rl, a09, wr, M9, q9, be, hM, hN, hK, hTm, hRd, hPa, hBe, hVv, hmk, hMr, hinq⟩ := id hj
  have hv0 := hsim.1
  have hv25 := hsim.2.1
  refine ⟨_, w_L_comes l κ B 201 ad g li an ra (c_X7_comes l hlf κ B 201 ad g tl nl v li an ra (by omega) hX hpl hokv hli han hra ) (by omega) hX.1 ho (fun z g' q => by rw [q.1]) (fun E g9 q => q.elim (fun q => Or.inl q.1) (fun q => Or.inr q.1)), fun z g1 hz => ?_⟩
  have key : (∀ q, 192 ≤ q → q < 200 → g1 q = g q) ∧ LSc κ ad g1 tl nl ns old cnt m0 m1 T9 v vs w0 w1 F9 P9 ∧ ∃ o8 : Int → Int64, g1 200 = aJ κ 1 o8 ∧ ((z = 0 ∧ ∃ r, (((0 ≤ li ∧ li < nl) ∧ ((0 ≤ an ∧ an < v 0) ∧ 0 ≤ ra ∧ ra ≤ 300) ∧ isFirst (fun t => (v (4 * li + 4) + t) % v 0 = an ∧ rad (v (4 * li + 1)) (v (4 * li + 2)) (v (4 * li + 3)) (t % v (4 * li + 1)) = ra) (pd (v 0) (v (4 * li + 1))) r)) ∧ o8 0 = jz (rI r)) ∨ (z = 1 ∧ (¬ (0 ≤ li ∧ li < nl))) ∨ (z = 2 ∧ ((0 ≤ li ∧ li < nl) ∧ ¬ ((0 ≤ an ∧ an < v 0) ∧ 0 ≤ ra ∧ ra ≤ 300)))) := by
    rcases hz with ⟨rfl, r, gm, hpo9, rfl⟩ | ⟨rfl, hx⟩ | ⟨rfl, hx⟩
    · obtain ⟨hg1, hpo⟩ := hpo9
      subst hg1
      exact ⟨fun q q0 q1 => gu_ne (by omega), hC.far (fun q hq => gu_ne (by omega)), _, gu_self _ _ _, Or.inl ⟨rfl, r, hpo, by simp [vuJ]⟩⟩
    · rcases hx with ⟨e9, c1, rfl⟩ | ⟨e9, c1, rfl⟩
      · first | (exact absurd e9 (by decide)) | exact ⟨fun q _ _ => rfl, hC, o9, ho, Or.inr (Or.inl ⟨rfl, c1⟩)⟩
      · first | (exact absurd e9 (by decide)) | exact ⟨fun q _ _ => rfl, hC, o9, ho, Or.inr (Or.inl ⟨rfl, c1⟩)⟩
    · rcases hx with ⟨e9, c1, rfl⟩ | ⟨e9, c1, rfl⟩
      · first | (exact absurd e9 (by decide)) | exact ⟨fun q _ _ => rfl, hC, o9, ho, Or.inr (Or.inr ⟨rfl, c1⟩)⟩
      · first | (exact absurd e9 (by decide)) | exact ⟨fun q _ _ => rfl, hC, o9, ho, Or.inr (Or.inr ⟨rfl, c1⟩)⟩
  obtain ⟨hmo, hC1, o8, ho8, hag⟩ := key
  refine ⟨⟨_, (hmo 192 (by omega) (by omega)).trans hM⟩, _, c_X8_comes l κ B 201 ad g1 nl th mk tl rl a09 wr s0 s1 cnt f M9 T9 q9 pa be sv li an ra (by omega) ((hmo 192 (by omega) (by omega)).trans hM) ((hmo 193 (by omega) (by omega)).trans hN) ((hmo 194 (by omega) (by omega)).trans hK) ((hmo 195 (by omega) (by omega)).trans hTm) ((hmo 196 (by omega) (by omega)).trans hRd) ((hmo 197 (by omega) (by omega)).trans hPa) ((hmo 198 (by omega) (by omega)).trans hBe) ((hmo 199 (by omega) (by omega)).trans hVv) hok (by omega) hMr hinq  hli han hra, fun zm g2 hpost => ?_⟩
  obtain ⟨t9, hR, hjk, hfr⟩ := hpost
  have hfin : t9 = z ∧ (z = 0 → o8 0 = jz (rI zm)) := by
    rcases hag with ⟨rfl, r, hpo, e8⟩ | ⟨rfl, c1⟩ | ⟨rfl, c1⟩
    · have hrz : t9 = 0 ∧ r = zm := by
        obtain ⟨hl, hr0, hr⟩ := hpo
        obtain ⟨e1, e2, e3, e4⟩ := hsim.clay hl.1 hl.2
        rw [e1, e2, e3, e4, hv0] at hr
        rw [hv0] at hr0
        rcases hR with ⟨q, c9⟩ | ⟨q, c9, c8⟩ | ⟨q, c9, c8, c7⟩
        · exact absurd hl c9
        · exact absurd hr0 c8
        · exact ⟨q, hr.uniq c7⟩
      exact ⟨hrz.1, fun _ => by rw [e8, hrz.2]⟩
    · exact ⟨by omega, fun q => by omega⟩
    · exact ⟨by omega, fun q => by omega⟩
  have hzz : 0 ≤ z ∧ z ≤ 2 := by
    rcases hag with ⟨q, _⟩ | ⟨q, _⟩ | ⟨q, _⟩ <;> omega
  obtain ⟨rfl, hval⟩ := hfin
  exact ⟨⟨tl, nl, ns, old, cnt, m0, m1, s0, s1, T9, v, vs, f, w0, w1, F9, pa, sv, P9, hC1.far (fun q hq => hfr q (Or.inl hq)), hp, hjk.up (by omega)⟩, hzz, o8, (hfr 200 (by omega)).trans ho8, hval⟩
theorem op_at (l : Launch) (hlf : l.stackTraces = false) (κ : gKap) (B : Nat) (ad : Nat → Nat) (g : Nat → va_E) (th b9 : Int) (ra : Int) (hra : inI ra) (hb : 0 ≤ b9 ∧ b9 ≤ 700000000) (h : LI κ ad g th b9) {o9 : Int → Int64} (ho : g 200 = aJ κ 1 o9) :
  ∃ CL : Int → (Nat → va_E) → Prop, Met l yL_at wsL_at ({ frames := 7, cells := 1, slots := 6, locals := 121 }) (gPreY κ B 201 ad g [.ref (ad 0), .int (iz ra), .ref (ad 200)]) (gQi κ B 201 ad CL) 1 6 (gFree B) ∧ ∀ z g1, CL z g1 → (∃ fs, g1 192 = .inr (8, fs)) ∧ ∃ MP : Int → (Nat → va_E) → Prop, Met l yX8_at wsX8_at ({ frames := 5, cells := 0, slots := 0, locals := 119 }) (gPre κ B 201 ad g1 [.ref (ad 192), .int (iz ra)]) (gQi κ B 201 ad MP) 0 0 (gFree B) ∧ ∀ zm g2, MP zm g2 → LE κ ad g2 z zm (b9 + 1000) := by
  obtain ⟨tl, nl, ns, old, cnt, m0, m1, s0, s1, T9, v, vs, f, w0, w1, F9, pa, sv, P9, hC, hp, hj⟩ := h
  obtain ⟨htl, hTr, hok, hsim, hin, hins, hol, hct, hinP, hhs, hin0, hin1, hs01, hF01, hsl0, hsl1⟩ := id hp
  obtain ⟨hX, hT, hpl, hps, hhi, hF, hp0, hp1, hbn⟩ := id hC
  have hokv : okPl nl v := hok.sim hsim.symm
  obtain ⟨mk, rl, a09, wr, M9, q9, be, hM, hN, hK, hTm, hRd, hPa, hBe, hVv, hmk, hMr, hinq⟩ := id hj
  have hv0 := hsim.1
  have hv25 := hsim.2.1
  refine ⟨_, w_L_at l κ B 201 ad g ra (c_X7_at l hlf κ B 201 ad g tl nl v ra (by omega) hX hpl hokv hbn hra ) (by omega) hX.1 ho (fun z g' q => q.2.1 200 (by omega)) (fun E g9 q => q.1), fun z g1 hz => ?_⟩
  have key : (∀ q, 192 ≤ q → q < 200 → g1 q = g q) ∧ LSc κ ad g1 tl nl ns old cnt m0 m1 T9 v vs w0 w1 F9 P9 ∧ ∃ o8 : Int → Int64, g1 200 = aJ κ 1 o8 ∧ ((z = 0 ∧ ∃ r, ((0 ≤ ra ∧ ra ≤ 300) ∧ r = (cntR (fun x y => ∃ l9, 0 ≤ l9 ∧ l9 < nl ∧ PTl v l9 x y) ra : Int)) ∧ o8 0 = jz (rI r)) ∨ (z = 1 ∧ (¬ (0 ≤ ra ∧ ra ≤ 300)))) := by
    rcases hz with ⟨rfl, r, gm, hpo9, rfl⟩ | ⟨rfl, hx⟩
    · obtain ⟨hb1, hf1, hpo⟩ := hpo9
      exact ⟨fun q q0 q1 => (gu_ne (by omega)).trans (hf1 q (by omega)), (hC.bench hb1 hf1).far (fun q hq => gu_ne (by omega)), _, gu_self _ _ _, Or.inl ⟨rfl, r, hpo, by simp [vuJ]⟩⟩
    · obtain ⟨_, c1, rfl⟩ := hx
      exact ⟨fun q _ _ => rfl, hC, o9, ho, Or.inr ⟨rfl, c1⟩⟩
  obtain ⟨hmo, hC1, o8, ho8, hag⟩ := key
  refine ⟨⟨_, (hmo 192 (by omega) (by omega)).trans hM⟩, _, c_X8_at l κ B 201 ad g1 nl th mk tl rl a09 wr s0 s1 cnt f M9 T9 q9 pa be sv ra (by omega) ((hmo 192 (by omega) (by omega)).trans hM) ((hmo 193 (by omega) (by omega)).trans hN) ((hmo 194 (by omega) (by omega)).trans hK) ((hmo 195 (by omega) (by omega)).trans hTm) ((hmo 196 (by omega) (by omega)).trans hRd) ((hmo 197 (by omega) (by omega)).trans hPa) ((hmo 198 (by omega) (by omega)).trans hBe) ((hmo 199 (by omega) (by omega)).trans hVv) hok (by omega) hMr hinq  hra, fun zm g2 hpost => ?_⟩
  obtain ⟨t9, hR, hjk, hfr⟩ := hpost
  have hfin : t9 = z ∧ (z = 0 → o8 0 = jz (rI zm)) := by
    rcases hag with ⟨rfl, r, hpo, e8⟩ | ⟨rfl, c1⟩
    · have hrz : t9 = 0 ∧ r = zm := by
        have E3 : cntR (fun x y => ∃ l9, 0 ≤ l9 ∧ l9 < nl ∧ PTl v l9 x y) ra = cntR (fun x y => ∃ l9, 0 ≤ l9 ∧ l9 < nl ∧ PTl f l9 x y) ra := cntR_sim hsim
        obtain ⟨h9, hr⟩ := hpo
        rw [E3] at hr
        rcases hR with ⟨q, c9⟩ | ⟨q, c9, c7⟩
        · exact absurd h9 c9
        · exact ⟨q, hr.trans c7.symm⟩
      exact ⟨hrz.1, fun _ => by rw [e8, hrz.2]⟩
    · exact ⟨by omega, fun q => by omega⟩
  have hzz : 0 ≤ z ∧ z ≤ 2 := by
    rcases hag with ⟨q, _⟩ | ⟨q, _⟩ <;> omega
  obtain ⟨rfl, hval⟩ := hfin
  exact ⟨⟨tl, nl, ns, old, cnt, m0, m1, s0, s1, T9, v, vs, f, w0, w1, F9, pa, sv, P9, hC1.far (fun q hq => hfr q (Or.inl hq)), hp, hjk.up (by omega)⟩, hzz, o8, (hfr 200 (by omega)).trans ho8, hval⟩
theorem op_order (l : Launch) (hlf : l.stackTraces = false) (κ : gKap) (B : Nat) (ad : Nat → Nat) (g : Nat → va_E) (th b9 : Int) (pc : Int) (hpc : inI pc) (hb : 0 ≤ b9 ∧ b9 ≤ 700000000) (h : LI κ ad g th b9) {o9 : Int → Int64} (ho : g 200 = aJ κ 1 o9) :
  ∃ CL : Int → (Nat → va_E) → Prop, Met l yL_order wsL_order ({ frames := 7, cells := 1, slots := 6, locals := 120 }) (gPreY κ B 201 ad g [.ref (ad 0), .int (iz pc), .ref (ad 200)]) (gQi κ B 201 ad CL) 1 6 (gFree B) ∧ ∀ z g1, CL z g1 → (∃ fs, g1 192 = .inr (8, fs)) ∧ ∃ MP : Int → (Nat → va_E) → Prop, Met l yX8_order wsX8_order ({ frames := 4, cells := 0, slots := 0, locals := 88 }) (gPre κ B 201 ad g1 [.ref (ad 192), .int (iz pc)]) (gQi κ B 201 ad MP) 0 0 (gFree B) ∧ ∀ zm g2, MP zm g2 → LE κ ad g2 z zm (b9 + 1000) := by
  obtain ⟨tl, nl, ns, old, cnt, m0, m1, s0, s1, T9, v, vs, f, w0, w1, F9, pa, sv, P9, hC, hp, hj⟩ := h
  obtain ⟨htl, hTr, hok, hsim, hin, hins, hol, hct, hinP, hhs, hin0, hin1, hs01, hF01, hsl0, hsl1⟩ := id hp
  obtain ⟨hX, hT, hpl, hps, hhi, hF, hp0, hp1, hbn⟩ := id hC
  have hokv : okPl nl v := hok.sim hsim.symm
  obtain ⟨mk, rl, a09, wr, M9, q9, be, hM, hN, hK, hTm, hRd, hPa, hBe, hVv, hmk, hMr, hinq⟩ := id hj
  have hv0 := hsim.1
  have hv25 := hsim.2.1
  refine ⟨_, w_L_order l κ B 201 ad g pc (c_X7_order l hlf κ B 201 ad g tl nl v pc (by omega) hX hpl hokv hpc ) (by omega) hX.1 ho (fun z g' q => by rw [q.1]) (fun E g9 q => q.1), fun z g1 hz => ?_⟩
  have key : (∀ q, 192 ≤ q → q < 200 → g1 q = g q) ∧ LSc κ ad g1 tl nl ns old cnt m0 m1 T9 v vs w0 w1 F9 P9 ∧ ∃ o8 : Int → Int64, g1 200 = aJ κ 1 o8 ∧ ((z = 0 ∧ ∃ r, ((0 ≤ pc ∧ isFirst (fun l9 => cutN nl v l9 = pc) nl r)) ∧ o8 0 = jz (rI r)) ∨ (z = 1 ∧ (pc < 0))) := by
    rcases hz with ⟨rfl, r, gm, hpo9, rfl⟩ | ⟨rfl, hx⟩
    · obtain ⟨hg1, hpo⟩ := hpo9
      subst hg1
      exact ⟨fun q q0 q1 => gu_ne (by omega), hC.far (fun q hq => gu_ne (by omega)), _, gu_self _ _ _, Or.inl ⟨rfl, r, hpo, by simp [vuJ]⟩⟩
    · obtain ⟨_, c1, rfl⟩ := hx
      exact ⟨fun q _ _ => rfl, hC, o9, ho, Or.inr ⟨rfl, c1⟩⟩
  obtain ⟨hmo, hC1, o8, ho8, hag⟩ := key
  refine ⟨⟨_, (hmo 192 (by omega) (by omega)).trans hM⟩, _, c_X8_order l κ B 201 ad g1 nl th mk tl rl a09 wr s0 s1 cnt f M9 T9 q9 pa be sv pc (by omega) ((hmo 192 (by omega) (by omega)).trans hM) ((hmo 193 (by omega) (by omega)).trans hN) ((hmo 194 (by omega) (by omega)).trans hK) ((hmo 195 (by omega) (by omega)).trans hTm) ((hmo 196 (by omega) (by omega)).trans hRd) ((hmo 197 (by omega) (by omega)).trans hPa) ((hmo 198 (by omega) (by omega)).trans hBe) ((hmo 199 (by omega) (by omega)).trans hVv) hok (by omega) hMr hinq  hpc, fun zm g2 hpost => ?_⟩
  obtain ⟨t9, hR, hjk, hfr⟩ := hpost
  have hfin : t9 = z ∧ (z = 0 → o8 0 = jz (rI zm)) := by
    rcases hag with ⟨rfl, r, hpo, e8⟩ | ⟨rfl, c1⟩
    · have hrz : t9 = 0 ∧ r = zm := by
        obtain ⟨h9, hr⟩ := hpo
        have hr2 := hr.iff (Q := fun l9 => cutN nl f l9 = pc) (fun l9 l0 l1 => by rw [cutN_sim hsim l0 l1])
        rcases hR with ⟨q, c9⟩ | ⟨q, c9, c7⟩
        · exfalso; omega
        · exact ⟨q, hr2.uniq c7⟩
      exact ⟨hrz.1, fun _ => by rw [e8, hrz.2]⟩
    · exact ⟨by omega, fun q => by omega⟩
  have hzz : 0 ≤ z ∧ z ≤ 2 := by
    rcases hag with ⟨q, _⟩ | ⟨q, _⟩ <;> omega
  obtain ⟨rfl, hval⟩ := hfin
  exact ⟨⟨tl, nl, ns, old, cnt, m0, m1, s0, s1, T9, v, vs, f, w0, w1, F9, pa, sv, P9, hC1.far (fun q hq => hfr q (Or.inl hq)), hp, hjk.up (by omega)⟩, hzz, o8, (hfr 200 (by omega)).trans ho8, hval⟩
theorem op_sighting (l : Launch) (hlf : l.stackTraces = false) (κ : gKap) (B : Nat) (ad : Nat → Nat) (g : Nat → va_E) (th b9 : Int) (i : Int) (wh : Int) (hi : inI i) (hwh : inI wh) (hb : 0 ≤ b9 ∧ b9 ≤ 700000000) (h : LI κ ad g th b9) {o9 : Int → Int64} (ho : g 200 = aJ κ 1 o9) :
  ∃ CL : Int → (Nat → va_E) → Prop, Met l yL_sighting wsL_sighting ({ frames := 7, cells := 1, slots := 6, locals := 125 }) (gPreY κ B 201 ad g [.ref (ad 0), .int (iz i), .int (iz wh), .ref (ad 200)]) (gQi κ B 201 ad CL) 1 6 (gFree B) ∧ ∀ z g1, CL z g1 → (∃ fs, g1 192 = .inr (8, fs)) ∧ ∃ MP : Int → (Nat → va_E) → Prop, Met l yX8_sighting wsX8_sighting ({ frames := 4, cells := 0, slots := 0, locals := 98 }) (gPre κ B 201 ad g1 [.ref (ad 192), .int (iz i), .int (iz wh)]) (gQi κ B 201 ad MP) 0 0 (gFree B) ∧ ∀ zm g2, MP zm g2 → LE κ ad g2 z zm (b9 + 1000) := by
  obtain ⟨tl, nl, ns, old, cnt, m0, m1, s0, s1, T9, v, vs, f, w0, w1, F9, pa, sv, P9, hC, hp, hj⟩ := h
  obtain ⟨htl, hTr, hok, hsim, hin, hins, hol, hct, hinP, hhs, hin0, hin1, hs01, hF01, hsl0, hsl1⟩ := id hp
  obtain ⟨hX, hT, hpl, hps, hhi, hF, hp0, hp1, hbn⟩ := id hC
  have hokv : okPl nl v := hok.sim hsim.symm
  obtain ⟨mk, rl, a09, wr, M9, q9, be, hM, hN, hK, hTm, hRd, hPa, hBe, hVv, hmk, hMr, hinq⟩ := id hj
  have hv0 := hsim.1
  have hv25 := hsim.2.1
  refine ⟨_, w_L_sighting l κ B 201 ad g i wh (c_X7_sighting l hlf κ B 201 ad g tl nl v i wh (by omega) hX hpl hokv hi hwh ) (by omega) hX.1 ho (fun z g' q => by rw [q.1]) (fun E g9 q => q.elim (fun q => Or.inl q.1) (fun q => Or.inr q.1)), fun z g1 hz => ?_⟩
  have key : (∀ q, 192 ≤ q → q < 200 → g1 q = g q) ∧ LSc κ ad g1 tl nl ns old cnt m0 m1 T9 v vs w0 w1 F9 P9 ∧ ∃ o8 : Int → Int64, g1 200 = aJ κ 1 o8 ∧ ((z = 0 ∧ ∃ r, (((0 ≤ i ∧ i < v 25) ∧ ((wh = 0 ∧ r = v (26 + 2 * i)) ∨ (wh = 1 ∧ r = v (27 + 2 * i)) ∨ (wh = 2 ∧ r = thrN nl v (v (26 + 2 * i)) (v (27 + 2 * i)))))) ∧ o8 0 = jz (rI r)) ∨ (z = 1 ∧ (¬ (0 ≤ i ∧ i < v 25))) ∨ (z = 2 ∧ ((0 ≤ i ∧ i < v 25) ∧ ¬ (0 ≤ wh ∧ wh ≤ 2)))) := by
    rcases hz with ⟨rfl, r, gm, hpo9, rfl⟩ | ⟨rfl, hx⟩ | ⟨rfl, hx⟩
    · obtain ⟨hg1, hpo⟩ := hpo9
      subst hg1
      exact ⟨fun q q0 q1 => gu_ne (by omega), hC.far (fun q hq => gu_ne (by omega)), _, gu_self _ _ _, Or.inl ⟨rfl, r, hpo, by simp [vuJ]⟩⟩
    · rcases hx with ⟨e9, c1, rfl⟩ | ⟨e9, c1, rfl⟩
      · first | (exact absurd e9 (by decide)) | exact ⟨fun q _ _ => rfl, hC, o9, ho, Or.inr (Or.inl ⟨rfl, c1⟩)⟩
      · first | (exact absurd e9 (by decide)) | exact ⟨fun q _ _ => rfl, hC, o9, ho, Or.inr (Or.inl ⟨rfl, c1⟩)⟩
    · rcases hx with ⟨e9, c1, rfl⟩ | ⟨e9, c1, rfl⟩
      · first | (exact absurd e9 (by decide)) | exact ⟨fun q _ _ => rfl, hC, o9, ho, Or.inr (Or.inr ⟨rfl, c1⟩)⟩
      · first | (exact absurd e9 (by decide)) | exact ⟨fun q _ _ => rfl, hC, o9, ho, Or.inr (Or.inr ⟨rfl, c1⟩)⟩
  obtain ⟨hmo, hC1, o8, ho8, hag⟩ := key
  refine ⟨⟨_, (hmo 192 (by omega) (by omega)).trans hM⟩, _, c_X8_sighting l κ B 201 ad g1 nl th mk tl rl a09 wr s0 s1 cnt f M9 T9 q9 pa be sv i wh (by omega) ((hmo 192 (by omega) (by omega)).trans hM) ((hmo 193 (by omega) (by omega)).trans hN) ((hmo 194 (by omega) (by omega)).trans hK) ((hmo 195 (by omega) (by omega)).trans hTm) ((hmo 196 (by omega) (by omega)).trans hRd) ((hmo 197 (by omega) (by omega)).trans hPa) ((hmo 198 (by omega) (by omega)).trans hBe) ((hmo 199 (by omega) (by omega)).trans hVv) hok (by omega) hMr hinq  hi hwh, fun zm g2 hpost => ?_⟩
  obtain ⟨t9, hR, hjk, hfr⟩ := hpost
  have hfin : t9 = z ∧ (z = 0 → o8 0 = jz (rI zm)) := by
    rcases hag with ⟨rfl, r, hpo, e8⟩ | ⟨rfl, c1⟩ | ⟨rfl, c1⟩
    · have hrz : t9 = 0 ∧ r = zm := by
        obtain ⟨h9, hr⟩ := hpo
        rw [hv25] at h9
        have h8 := hok.2.2.1
        rw [thrN_sim hsim, hsim.2.2.2 (26 + 2 * i) (by omega) (by omega), hsim.2.2.2 (27 + 2 * i) (by omega) (by omega)] at hr
        clear hz; omega
      exact ⟨hrz.1, fun _ => by rw [e8, hrz.2]⟩
    · exact ⟨by omega, fun q => by omega⟩
    · exact ⟨by omega, fun q => by omega⟩
  have hzz : 0 ≤ z ∧ z ≤ 2 := by
    rcases hag with ⟨q, _⟩ | ⟨q, _⟩ | ⟨q, _⟩ <;> omega
  obtain ⟨rfl, hval⟩ := hfin
  exact ⟨⟨tl, nl, ns, old, cnt, m0, m1, s0, s1, T9, v, vs, f, w0, w1, F9, pa, sv, P9, hC1.far (fun q hq => hfr q (Or.inl hq)), hp, hjk.up (by omega)⟩, hzz, o8, (hfr 200 (by omega)).trans ho8, hval⟩
theorem op_common (l : Launch) (hlf : l.stackTraces = false) (κ : gKap) (B : Nat) (ad : Nat → Nat) (g : Nat → va_E) (th b9 : Int) (li : Int) (lj : Int) (hli : inI li) (hlj : inI lj) (hb : 0 ≤ b9 ∧ b9 ≤ 700000000) (h : LI κ ad g th b9) {o9 : Int → Int64} (ho : g 200 = aJ κ 1 o9) :
  ∃ CL : Int → (Nat → va_E) → Prop, Met l yL_common wsL_common ({ frames := 7, cells := 1, slots := 6, locals := 124 }) (gPreY κ B 201 ad g [.ref (ad 0), .int (iz li), .int (iz lj), .ref (ad 200)]) (gQi κ B 201 ad CL) 1 6 (gFree B) ∧ ∀ z g1, CL z g1 → (∃ fs, g1 192 = .inr (8, fs)) ∧ ∃ MP : Int → (Nat → va_E) → Prop, Met l yX8_common_ wsX8_common_ ({ frames := 6, cells := 0, slots := 0, locals := 143 }) (gPre κ B 201 ad g1 [.ref (ad 192), .int (iz li), .int (iz lj)]) (gQi κ B 201 ad MP) 0 0 (gFree B) ∧ ∀ zm g2, MP zm g2 → LE κ ad g2 z zm (b9 + 1000) := by
  obtain ⟨tl, nl, ns, old, cnt, m0, m1, s0, s1, T9, v, vs, f, w0, w1, F9, pa, sv, P9, hC, hp, hj⟩ := h
  obtain ⟨htl, hTr, hok, hsim, hin, hins, hol, hct, hinP, hhs, hin0, hin1, hs01, hF01, hsl0, hsl1⟩ := id hp
  obtain ⟨hX, hT, hpl, hps, hhi, hF, hp0, hp1, hbn⟩ := id hC
  have hokv : okPl nl v := hok.sim hsim.symm
  obtain ⟨mk, rl, a09, wr, M9, q9, be, hM, hN, hK, hTm, hRd, hPa, hBe, hVv, hmk, hMr, hinq⟩ := id hj
  have hv0 := hsim.1
  have hv25 := hsim.2.1
  refine ⟨_, w_L_common l κ B 201 ad g li lj (c_X7_common l hlf κ B 201 ad g tl nl v li lj (by omega) hX hpl hokv hbn hli hlj ) (by omega) hX.1 ho (fun z g' q => q.2.1 200 (by omega)) (fun E g9 q => q.1), fun z g1 hz => ?_⟩
  have key : (∀ q, 192 ≤ q → q < 200 → g1 q = g q) ∧ LSc κ ad g1 tl nl ns old cnt m0 m1 T9 v vs w0 w1 F9 P9 ∧ ∃ o8 : Int → Int64, g1 200 = aJ κ 1 o8 ∧ ((z = 0 ∧ ∃ r, (((0 ≤ li ∧ li < nl) ∧ 0 ≤ lj ∧ lj < nl) ∧ r = (cntS (fun x y => PTl v li x y ∧ PTl v lj x y) : Int)) ∧ o8 0 = jz (rI r)) ∨ (z = 1 ∧ (¬ ((0 ≤ li ∧ li < nl) ∧ 0 ≤ lj ∧ lj < nl)))) := by
    rcases hz with ⟨rfl, r, gm, hpo9, rfl⟩ | ⟨rfl, hx⟩
    · obtain ⟨hb1, hf1, hpo⟩ := hpo9
      exact ⟨fun q q0 q1 => (gu_ne (by omega)).trans (hf1 q (by omega)), (hC.bench hb1 hf1).far (fun q hq => gu_ne (by omega)), _, gu_self _ _ _, Or.inl ⟨rfl, r, hpo, by simp [vuJ]⟩⟩
    · obtain ⟨_, c1, rfl⟩ := hx
      exact ⟨fun q _ _ => rfl, hC, o9, ho, Or.inr ⟨rfl, c1⟩⟩
  obtain ⟨hmo, hC1, o8, ho8, hag⟩ := key
  refine ⟨⟨_, (hmo 192 (by omega) (by omega)).trans hM⟩, _, c_X8_common_ l κ B 201 ad g1 nl th mk tl rl a09 wr s0 s1 cnt f M9 T9 q9 pa be sv li lj (by omega) ((hmo 192 (by omega) (by omega)).trans hM) ((hmo 193 (by omega) (by omega)).trans hN) ((hmo 194 (by omega) (by omega)).trans hK) ((hmo 195 (by omega) (by omega)).trans hTm) ((hmo 196 (by omega) (by omega)).trans hRd) ((hmo 197 (by omega) (by omega)).trans hPa) ((hmo 198 (by omega) (by omega)).trans hBe) ((hmo 199 (by omega) (by omega)).trans hVv) hok (by omega) hMr hinq  hli hlj, fun zm g2 hpost => ?_⟩
  obtain ⟨t9, hR, hjk, hfr⟩ := hpost
  have hfin : t9 = z ∧ (z = 0 → o8 0 = jz (rI zm)) := by
    rcases hag with ⟨rfl, r, hpo, e8⟩ | ⟨rfl, c1⟩
    · have hrz : t9 = 0 ∧ r = zm := by
        obtain ⟨hl, hr⟩ := hpo
        have hlm := hl
        obtain ⟨hl, hm⟩ := hl
        obtain ⟨e1, e2, e3, e4⟩ := hsim.clay hl.1 hl.2
        obtain ⟨d1, d2, d3, d4⟩ := hsim.clay hm.1 hm.2
        rw [show cntS (fun x y => PTl v li x y ∧ PTl v lj x y) = cntS (fun x y => PTl f li x y ∧ PTl f lj x y) from cntS_congr (fun x y _ _ _ _ => and_congr (PTl_sim hsim hl.1 hl.2) (PTl_sim hsim hm.1 hm.2))] at hr
        rcases hR with ⟨q, c9⟩ | ⟨q, c9, c7⟩
        · exact absurd hlm c9
        · exact ⟨q, hr.trans c7.symm⟩
      exact ⟨hrz.1, fun _ => by rw [e8, hrz.2]⟩
    · exact ⟨by omega, fun q => by omega⟩
  have hzz : 0 ≤ z ∧ z ≤ 2 := by
    rcases hag with ⟨q, _⟩ | ⟨q, _⟩ <;> omega
  obtain ⟨rfl, hval⟩ := hfin
  exact ⟨⟨tl, nl, ns, old, cnt, m0, m1, s0, s1, T9, v, vs, f, w0, w1, F9, pa, sv, P9, hC1.far (fun q hq => hfr q (Or.inl hq)), hp, hjk.up (by omega)⟩, hzz, o8, (hfr 200 (by omega)).trans ho8, hval⟩
theorem op_meet (l : Launch) (hlf : l.stackTraces = false) (κ : gKap) (B : Nat) (ad : Nat → Nat) (g : Nat → va_E) (th b9 : Int) (li : Int) (lj : Int) (hli : inI li) (hlj : inI lj) (hb : 0 ≤ b9 ∧ b9 ≤ 700000000) (h : LI κ ad g th b9) {o9 : Int → Int64} (ho : g 200 = aJ κ 1 o9) :
  ∃ CL : Int → (Nat → va_E) → Prop, Met l yL_meet wsL_meet ({ frames := 7, cells := 1, slots := 6, locals := 106 }) (gPreY κ B 201 ad g [.ref (ad 0), .int (iz li), .int (iz lj), .ref (ad 200)]) (gQi κ B 201 ad CL) 1 6 (gFree B) ∧ ∀ z g1, CL z g1 → (∃ fs, g1 192 = .inr (8, fs)) ∧ ∃ MP : Int → (Nat → va_E) → Prop, Met l yX8_meet wsX8_meet ({ frames := 2, cells := 0, slots := 0, locals := 50 }) (gPre κ B 201 ad g1 [.ref (ad 192), .int (iz li), .int (iz lj)]) (gQi κ B 201 ad MP) 0 0 (gFree B) ∧ ∀ zm g2, MP zm g2 → LE κ ad g2 z zm (b9 + 1000) := by
  obtain ⟨tl, nl, ns, old, cnt, m0, m1, s0, s1, T9, v, vs, f, w0, w1, F9, pa, sv, P9, hC, hp, hj⟩ := h
  obtain ⟨htl, hTr, hok, hsim, hin, hins, hol, hct, hinP, hhs, hin0, hin1, hs01, hF01, hsl0, hsl1⟩ := id hp
  obtain ⟨hX, hT, hpl, hps, hhi, hF, hp0, hp1, hbn⟩ := id hC
  have hokv : okPl nl v := hok.sim hsim.symm
  obtain ⟨mk, rl, a09, wr, M9, q9, be, hM, hN, hK, hTm, hRd, hPa, hBe, hVv, hmk, hMr, hinq⟩ := id hj
  have hv0 := hsim.1
  have hv25 := hsim.2.1
  refine ⟨_, w_L_meet l κ B 201 ad g li lj (c_X7_meet l hlf κ B 201 ad g tl nl v li lj (by omega) hX hpl hokv hli hlj ) (by omega) hX.1 ho (fun z g' q => by rw [q.1]) (fun E g9 q => q.1), fun z g1 hz => ?_⟩
  have key : (∀ q, 192 ≤ q → q < 200 → g1 q = g q) ∧ LSc κ ad g1 tl nl ns old cnt m0 m1 T9 v vs w0 w1 F9 P9 ∧ ∃ o8 : Int → Int64, g1 200 = aJ κ 1 o8 ∧ ((z = 0 ∧ ∃ r, ((((0 ≤ li ∧ li < nl) ∧ 0 ≤ lj ∧ lj < nl) ∧ isFirst (fun t => v (4 * li + 4) = v (4 * lj + 4) ∧ rad (v (4 * li + 1)) (v (4 * li + 2)) (v (4 * li + 3)) (t % v (4 * li + 1)) = rad (v (4 * lj + 1)) (v (4 * lj + 2)) (v (4 * lj + 3)) (t % v (4 * lj + 1))) (v (4 * li + 1) / gd (v (4 * li + 1)) (v (4 * lj + 1)) * v (4 * lj + 1)) r)) ∧ o8 0 = jz (rI r)) ∨ (z = 1 ∧ (¬ ((0 ≤ li ∧ li < nl) ∧ 0 ≤ lj ∧ lj < nl)))) := by
    rcases hz with ⟨rfl, r, gm, hpo9, rfl⟩ | ⟨rfl, hx⟩
    · obtain ⟨hg1, hpo⟩ := hpo9
      subst hg1
      exact ⟨fun q q0 q1 => gu_ne (by omega), hC.far (fun q hq => gu_ne (by omega)), _, gu_self _ _ _, Or.inl ⟨rfl, r, hpo, by simp [vuJ]⟩⟩
    · obtain ⟨_, c1, rfl⟩ := hx
      exact ⟨fun q _ _ => rfl, hC, o9, ho, Or.inr ⟨rfl, c1⟩⟩
  obtain ⟨hmo, hC1, o8, ho8, hag⟩ := key
  refine ⟨⟨_, (hmo 192 (by omega) (by omega)).trans hM⟩, _, c_X8_meet l κ B 201 ad g1 nl th mk tl rl a09 wr s0 s1 cnt f M9 T9 q9 pa be sv li lj (by omega) ((hmo 192 (by omega) (by omega)).trans hM) ((hmo 193 (by omega) (by omega)).trans hN) ((hmo 194 (by omega) (by omega)).trans hK) ((hmo 195 (by omega) (by omega)).trans hTm) ((hmo 196 (by omega) (by omega)).trans hRd) ((hmo 197 (by omega) (by omega)).trans hPa) ((hmo 198 (by omega) (by omega)).trans hBe) ((hmo 199 (by omega) (by omega)).trans hVv) hok (by omega) hMr hinq  hli hlj, fun zm g2 hpost => ?_⟩
  obtain ⟨t9, hR, hjk, hfr⟩ := hpost
  have hfin : t9 = z ∧ (z = 0 → o8 0 = jz (rI zm)) := by
    rcases hag with ⟨rfl, r, hpo, e8⟩ | ⟨rfl, c1⟩
    · have hrz : t9 = 0 ∧ r = zm := by
        obtain ⟨hl, hr⟩ := hpo
        have hlm := hl
        obtain ⟨hl, hm⟩ := hl
        obtain ⟨e1, e2, e3, e4⟩ := hsim.clay hl.1 hl.2
        obtain ⟨d1, d2, d3, d4⟩ := hsim.clay hm.1 hm.2
        rw [e1, e2, e3, e4, d1, d2, d3, d4] at hr
        rcases hR with ⟨q, c9⟩ | ⟨q, c9, c7⟩
        · exact absurd hlm c9
        · exact ⟨q, hr.uniq c7⟩
      exact ⟨hrz.1, fun _ => by rw [e8, hrz.2]⟩
    · exact ⟨by omega, fun q => by omega⟩
  have hzz : 0 ≤ z ∧ z ≤ 2 := by
    rcases hag with ⟨q, _⟩ | ⟨q, _⟩ <;> omega
  obtain ⟨rfl, hval⟩ := hfin
  exact ⟨⟨tl, nl, ns, old, cnt, m0, m1, s0, s1, T9, v, vs, f, w0, w1, F9, pa, sv, P9, hC1.far (fun q hq => hfr q (Or.inl hq)), hp, hjk.up (by omega)⟩, hzz, o8, (hfr 200 (by omega)).trans ho8, hval⟩
theorem op_turned (l : Launch) (hlf : l.stackTraces = false) (κ : gKap) (B : Nat) (ad : Nat → Nat) (g : Nat → va_E) (th b9 : Int) (li : Int) (lj : Int) (hli : inI li) (hlj : inI lj) (hb : 0 ≤ b9 ∧ b9 ≤ 700000000) (h : LI κ ad g th b9) {o9 : Int → Int64} (ho : g 200 = aJ κ 1 o9) :
  ∃ CL : Int → (Nat → va_E) → Prop, Met l yL_turned wsL_turned ({ frames := 7, cells := 1, slots := 6, locals := 126 }) (gPreY κ B 201 ad g [.ref (ad 0), .int (iz li), .int (iz lj), .ref (ad 200)]) (gQi κ B 201 ad CL) 1 6 (gFree B) ∧ ∀ z g1, CL z g1 → (∃ fs, g1 192 = .inr (8, fs)) ∧ ∃ MP : Int → (Nat → va_E) → Prop, Met l yX8_turned wsX8_turned ({ frames := 7, cells := 0, slots := 0, locals := 170 }) (gPre κ B 201 ad g1 [.ref (ad 192), .int (iz li), .int (iz lj)]) (gQi κ B 201 ad MP) 0 0 (gFree B) ∧ ∀ zm g2, MP zm g2 → LE κ ad g2 z zm (b9 + 1000) := by
  obtain ⟨tl, nl, ns, old, cnt, m0, m1, s0, s1, T9, v, vs, f, w0, w1, F9, pa, sv, P9, hC, hp, hj⟩ := h
  obtain ⟨htl, hTr, hok, hsim, hin, hins, hol, hct, hinP, hhs, hin0, hin1, hs01, hF01, hsl0, hsl1⟩ := id hp
  obtain ⟨hX, hT, hpl, hps, hhi, hF, hp0, hp1, hbn⟩ := id hC
  have hokv : okPl nl v := hok.sim hsim.symm
  obtain ⟨mk, rl, a09, wr, M9, q9, be, hM, hN, hK, hTm, hRd, hPa, hBe, hVv, hmk, hMr, hinq⟩ := id hj
  have hv0 := hsim.1
  have hv25 := hsim.2.1
  refine ⟨_, w_L_turned l κ B 201 ad g li lj (c_X7_turned l hlf κ B 201 ad g tl nl v li lj (by omega) hX hpl hokv hbn hli hlj ) (by omega) hX.1 ho (fun z g' q => q.2.1 200 (by omega)) (fun E g9 q => q.1), fun z g1 hz => ?_⟩
  have key : (∀ q, 192 ≤ q → q < 200 → g1 q = g q) ∧ LSc κ ad g1 tl nl ns old cnt m0 m1 T9 v vs w0 w1 F9 P9 ∧ ∃ o8 : Int → Int64, g1 200 = aJ κ 1 o8 ∧ ((z = 0 ∧ ∃ r, (((0 ≤ li ∧ li < nl) ∧ 0 ≤ lj ∧ lj < nl) ∧ isFirst (fun d => SameR (v 0) (v (4 * li + 1)) (v (4 * li + 2)) (v (4 * li + 3)) ((v (4 * li + 4) + d) % v 0) (v (4 * lj + 1)) (v (4 * lj + 2)) (v (4 * lj + 3)) (v (4 * lj + 4))) (v 0) r) ∧ o8 0 = jz (rI r)) ∨ (z = 1 ∧ (¬ ((0 ≤ li ∧ li < nl) ∧ 0 ≤ lj ∧ lj < nl)))) := by
    rcases hz with ⟨rfl, r, gm, hpo9, rfl⟩ | ⟨rfl, hx⟩
    · obtain ⟨hb1, hf1, hpo⟩ := hpo9
      exact ⟨fun q q0 q1 => (gu_ne (by omega)).trans (hf1 q (by omega)), (hC.bench hb1 hf1).far (fun q hq => gu_ne (by omega)), _, gu_self _ _ _, Or.inl ⟨rfl, r, hpo, by simp [vuJ]⟩⟩
    · obtain ⟨_, c1, rfl⟩ := hx
      exact ⟨fun q _ _ => rfl, hC, o9, ho, Or.inr ⟨rfl, c1⟩⟩
  obtain ⟨hmo, hC1, o8, ho8, hag⟩ := key
  refine ⟨⟨_, (hmo 192 (by omega) (by omega)).trans hM⟩, _, c_X8_turned l κ B 201 ad g1 nl th mk tl rl a09 wr s0 s1 cnt f M9 T9 q9 pa be sv li lj (by omega) ((hmo 192 (by omega) (by omega)).trans hM) ((hmo 193 (by omega) (by omega)).trans hN) ((hmo 194 (by omega) (by omega)).trans hK) ((hmo 195 (by omega) (by omega)).trans hTm) ((hmo 196 (by omega) (by omega)).trans hRd) ((hmo 197 (by omega) (by omega)).trans hPa) ((hmo 198 (by omega) (by omega)).trans hBe) ((hmo 199 (by omega) (by omega)).trans hVv) hok (by omega) hMr hinq  hli hlj, fun zm g2 hpost => ?_⟩
  obtain ⟨t9, hR, hjk, hfr⟩ := hpost
  have hfin : t9 = z ∧ (z = 0 → o8 0 = jz (rI zm)) := by
    rcases hag with ⟨rfl, r, hpo, e8⟩ | ⟨rfl, c1⟩
    · have hrz : t9 = 0 ∧ r = zm := by
        obtain ⟨hl, hr⟩ := hpo
        have hlm := hl
        obtain ⟨hl, hm⟩ := hl
        obtain ⟨e1, e2, e3, e4⟩ := hsim.clay hl.1 hl.2
        obtain ⟨d1, d2, d3, d4⟩ := hsim.clay hm.1 hm.2
        rw [hv0, e1, e2, e3, e4, d1, d2, d3, d4] at hr
        rcases hR with ⟨q, c9⟩ | ⟨q, c9, c7⟩
        · exact absurd hlm c9
        · exact ⟨q, hr.uniq c7⟩
      exact ⟨hrz.1, fun _ => by rw [e8, hrz.2]⟩
    · exact ⟨by omega, fun q => by omega⟩
  have hzz : 0 ≤ z ∧ z ≤ 2 := by
    rcases hag with ⟨q, _⟩ | ⟨q, _⟩ <;> omega
  obtain ⟨rfl, hval⟩ := hfin
  exact ⟨⟨tl, nl, ns, old, cnt, m0, m1, s0, s1, T9, v, vs, f, w0, w1, F9, pa, sv, P9, hC1.far (fun q hq => hfr q (Or.inl hq)), hp, hjk.up (by omega)⟩, hzz, o8, (hfr 200 (by omega)).trans ho8, hval⟩
theorem op_bestStart (l : Launch) (hlf : l.stackTraces = false) (κ : gKap) (B : Nat) (ad : Nat → Nat) (g : Nat → va_E) (th b9 : Int) (li : Int) (lj : Int) (hli : inI li) (hlj : inI lj) (hb : 0 ≤ b9 ∧ b9 ≤ 700000000) (h : LI κ ad g th b9) {o9 : Int → Int64} (ho : g 200 = aJ κ 1 o9) :
  ∃ CL : Int → (Nat → va_E) → Prop, Met l yL_bestStart wsL_bestStart ({ frames := 7, cells := 1, slots := 6, locals := 129 }) (gPreY κ B 201 ad g [.ref (ad 0), .int (iz li), .int (iz lj), .ref (ad 200)]) (gQi κ B 201 ad CL) 1 6 (gFree B) ∧ ∀ z g1, CL z g1 → (∃ fs, g1 192 = .inr (8, fs)) ∧ ∃ MP : Int → (Nat → va_E) → Prop, Met l yX8_bestStart wsX8_bestStart ({ frames := 6, cells := 0, slots := 0, locals := 143 }) (gPre κ B 201 ad g1 [.ref (ad 192), .int (iz li), .int (iz lj)]) (gQi κ B 201 ad MP) 0 0 (gFree B) ∧ ∀ zm g2, MP zm g2 → LE κ ad g2 z zm (b9 + 1000) := by
  obtain ⟨tl, nl, ns, old, cnt, m0, m1, s0, s1, T9, v, vs, f, w0, w1, F9, pa, sv, P9, hC, hp, hj⟩ := h
  obtain ⟨htl, hTr, hok, hsim, hin, hins, hol, hct, hinP, hhs, hin0, hin1, hs01, hF01, hsl0, hsl1⟩ := id hp
  obtain ⟨hX, hT, hpl, hps, hhi, hF, hp0, hp1, hbn⟩ := id hC
  have hokv : okPl nl v := hok.sim hsim.symm
  obtain ⟨mk, rl, a09, wr, M9, q9, be, hM, hN, hK, hTm, hRd, hPa, hBe, hVv, hmk, hMr, hinq⟩ := id hj
  have hv0 := hsim.1
  have hv25 := hsim.2.1
  refine ⟨_, w_L_bestStart l κ B 201 ad g li lj (c_X7_bestStart l hlf κ B 201 ad g tl nl v li lj (by omega) hX hpl hokv hbn hli hlj ) (by omega) hX.1 ho (fun z g' q => q.2.1 200 (by omega)) (fun E g9 q => q.elim (fun q => Or.inl q.1) (fun q => Or.inr q.1)), fun z g1 hz => ?_⟩
  have key : (∀ q, 192 ≤ q → q < 200 → g1 q = g q) ∧ LSc κ ad g1 tl nl ns old cnt m0 m1 T9 v vs w0 w1 F9 P9 ∧ ∃ o8 : Int → Int64, g1 200 = aJ κ 1 o8 ∧ ((z = 0 ∧ ∃ r, (((0 ≤ li ∧ li < nl) ∧ 0 ≤ lj ∧ lj < nl) ∧ li ≠ lj ∧ r = (bsf (cmF (v 0) (v (4 * li + 1)) (v (4 * li + 2)) (v (4 * li + 3)) (v (4 * lj + 1)) (v (4 * lj + 2)) (v (4 * lj + 3)) (v (4 * lj + 4))) (v 0).toNat).1) ∧ o8 0 = jz (rI r)) ∨ (z = 1 ∧ (¬ ((0 ≤ li ∧ li < nl) ∧ 0 ≤ lj ∧ lj < nl))) ∨ (z = 2 ∧ (((0 ≤ li ∧ li < nl) ∧ 0 ≤ lj ∧ lj < nl) ∧ li = lj))) := by
    rcases hz with ⟨rfl, r, gm, hpo9, rfl⟩ | ⟨rfl, hx⟩ | ⟨rfl, hx⟩
    · obtain ⟨hb1, hf1, hpo⟩ := hpo9
      exact ⟨fun q q0 q1 => (gu_ne (by omega)).trans (hf1 q (by omega)), (hC.bench hb1 hf1).far (fun q hq => gu_ne (by omega)), _, gu_self _ _ _, Or.inl ⟨rfl, r, hpo, by simp [vuJ]⟩⟩
    · rcases hx with ⟨e9, c1, rfl⟩ | ⟨e9, c1, rfl⟩
      · first | (exact absurd e9 (by decide)) | exact ⟨fun q _ _ => rfl, hC, o9, ho, Or.inr (Or.inl ⟨rfl, c1⟩)⟩
      · first | (exact absurd e9 (by decide)) | exact ⟨fun q _ _ => rfl, hC, o9, ho, Or.inr (Or.inl ⟨rfl, c1⟩)⟩
    · rcases hx with ⟨e9, c1, rfl⟩ | ⟨e9, c1, rfl⟩
      · first | (exact absurd e9 (by decide)) | exact ⟨fun q _ _ => rfl, hC, o9, ho, Or.inr (Or.inr ⟨rfl, c1⟩)⟩
      · first | (exact absurd e9 (by decide)) | exact ⟨fun q _ _ => rfl, hC, o9, ho, Or.inr (Or.inr ⟨rfl, c1⟩)⟩
  obtain ⟨hmo, hC1, o8, ho8, hag⟩ := key
  refine ⟨⟨_, (hmo 192 (by omega) (by omega)).trans hM⟩, _, c_X8_bestStart l κ B 201 ad g1 nl th mk tl rl a09 wr s0 s1 cnt f M9 T9 q9 pa be sv li lj (by omega) ((hmo 192 (by omega) (by omega)).trans hM) ((hmo 193 (by omega) (by omega)).trans hN) ((hmo 194 (by omega) (by omega)).trans hK) ((hmo 195 (by omega) (by omega)).trans hTm) ((hmo 196 (by omega) (by omega)).trans hRd) ((hmo 197 (by omega) (by omega)).trans hPa) ((hmo 198 (by omega) (by omega)).trans hBe) ((hmo 199 (by omega) (by omega)).trans hVv) hok (by omega) hMr hinq  hli hlj, fun zm g2 hpost => ?_⟩
  obtain ⟨t9, hR, hjk, hfr⟩ := hpost
  have hfin : t9 = z ∧ (z = 0 → o8 0 = jz (rI zm)) := by
    rcases hag with ⟨rfl, r, hpo, e8⟩ | ⟨rfl, c1⟩ | ⟨rfl, c1⟩
    · have hrz : t9 = 0 ∧ r = zm := by
        obtain ⟨hl, hne, hr⟩ := hpo
        have hlm := hl
        obtain ⟨hl, hm⟩ := hl
        obtain ⟨e1, e2, e3, e4⟩ := hsim.clay hl.1 hl.2
        obtain ⟨d1, d2, d3, d4⟩ := hsim.clay hm.1 hm.2
        rw [hv0, e1, e2, e3, d1, d2, d3, d4] at hr
        rcases hR with ⟨q, c9⟩ | ⟨q, c9, c8⟩ | ⟨q, c9, c8, c7⟩
        · exact absurd hlm c9
        · exact absurd c8 hne
        · exact ⟨q, hr.trans c7.symm⟩
      exact ⟨hrz.1, fun _ => by rw [e8, hrz.2]⟩
    · exact ⟨by omega, fun q => by omega⟩
    · exact ⟨by omega, fun q => by omega⟩
  have hzz : 0 ≤ z ∧ z ≤ 2 := by
    rcases hag with ⟨q, _⟩ | ⟨q, _⟩ | ⟨q, _⟩ <;> omega
  obtain ⟨rfl, hval⟩ := hfin
  exact ⟨⟨tl, nl, ns, old, cnt, m0, m1, s0, s1, T9, v, vs, f, w0, w1, F9, pa, sv, P9, hC1.far (fun q hq => hfr q (Or.inl hq)), hp, hjk.up (by omega)⟩, hzz, o8, (hfr 200 (by omega)).trans ho8, hval⟩
theorem op_wheels (l : Launch) (hlf : l.stackTraces = false) (κ : gKap) (B : Nat) (ad : Nat → Nat) (g : Nat → va_E) (th b9 : Int) (sd : Int) (hq : Int) (st0 : Int) (wh : Int) (hsd : inI sd) (hhq : inI hq) (hst0 : inI st0) (hwh : inI wh) (hb : 0 ≤ b9 ∧ b9 ≤ 700000000) (h : LI κ ad g th b9) {o9 : Int → Int64} (ho : g 200 = aJ κ 1 o9) :
  ∃ CL : Int → (Nat → va_E) → Prop, Met l yL_wheels wsL_wheels ({ frames := 7, cells := 1, slots := 6, locals := 128 }) (gPreY κ B 201 ad g [.ref (ad 0), .int (iz sd), .int (iz hq), .int (iz st0), .int (iz wh), .ref (ad 200)]) (gQi κ B 201 ad CL) 1 6 (gFree B) ∧ ∀ z g1, CL z g1 → (∃ fs, g1 192 = .inr (8, fs)) ∧ ∃ MP : Int → (Nat → va_E) → Prop, Met l yX8_wheels wsX8_wheels ({ frames := 4, cells := 0, slots := 0, locals := 92 }) (gPre κ B 201 ad g1 [.ref (ad 192), .int (iz sd), .int (iz hq), .int (iz st0), .int (iz wh)]) (gQi κ B 201 ad MP) 0 0 (gFree B) ∧ ∀ zm g2, MP zm g2 → LE κ ad g2 z zm (b9 + 1000) := by
  obtain ⟨tl, nl, ns, old, cnt, m0, m1, s0, s1, T9, v, vs, f, w0, w1, F9, pa, sv, P9, hC, hp, hj⟩ := h
  obtain ⟨htl, hTr, hok, hsim, hin, hins, hol, hct, hinP, hhs, hin0, hin1, hs01, hF01, hsl0, hsl1⟩ := id hp
  obtain ⟨hX, hT, hpl, hps, hhi, hF, hp0, hp1, hbn⟩ := id hC
  have hokv : okPl nl v := hok.sim hsim.symm
  obtain ⟨mk, rl, a09, wr, M9, q9, be, hM, hN, hK, hTm, hRd, hPa, hBe, hVv, hmk, hMr, hinq⟩ := id hj
  have hv0 := hsim.1
  have hv25 := hsim.2.1
  refine ⟨_, w_L_wheels l κ B 201 ad g sd hq st0 wh (c_X7_wheels l hlf κ B 201 ad g tl nl v sd hq st0 wh (by omega) hX hpl hokv hbn hsd hhq hst0 hwh ) (by omega) hX.1 ho (fun z g' q => q.2.1 200 (by omega)) (fun E g9 q => q.1), fun z g1 hz => ?_⟩
  have key : (∀ q, 192 ≤ q → q < 200 → g1 q = g q) ∧ LSc κ ad g1 tl nl ns old cnt m0 m1 T9 v vs w0 w1 F9 P9 ∧ ∃ o8 : Int → Int64, g1 200 = aJ κ 1 o8 ∧ ((z = 0 ∧ ∃ r, (((sd = 0 ∨ sd = 1) ∧ (0 ≤ hq ∧ hq ≤ 20) ∧ (0 ≤ st0 ∧ st0 < v 0) ∧ 0 ≤ wh ∧ wh ≤ 2) ∧ ((wh = 0 ∧ r = (whS v sd hq st0 56).1) ∨ (wh = 1 ∧ r = (whS v sd hq st0 56).2.1) ∨ (wh = 2 ∧ r = (whS v sd hq st0 56).2.2))) ∧ o8 0 = jz (rI r)) ∨ (z = 1 ∧ (¬ ((sd = 0 ∨ sd = 1) ∧ (0 ≤ hq ∧ hq ≤ 20) ∧ (0 ≤ st0 ∧ st0 < v 0) ∧ 0 ≤ wh ∧ wh ≤ 2)))) := by
    rcases hz with ⟨rfl, r, gm, hpo9, rfl⟩ | ⟨rfl, hx⟩
    · obtain ⟨hb1, hf1, hpo⟩ := hpo9
      exact ⟨fun q q0 q1 => (gu_ne (by omega)).trans (hf1 q (by omega)), (hC.bench hb1 hf1).far (fun q hq => gu_ne (by omega)), _, gu_self _ _ _, Or.inl ⟨rfl, r, hpo, by simp [vuJ]⟩⟩
    · obtain ⟨_, c1, rfl⟩ := hx
      exact ⟨fun q _ _ => rfl, hC, o9, ho, Or.inr ⟨rfl, c1⟩⟩
  obtain ⟨hmo, hC1, o8, ho8, hag⟩ := key
  refine ⟨⟨_, (hmo 192 (by omega) (by omega)).trans hM⟩, _, c_X8_wheels l κ B 201 ad g1 nl th mk tl rl a09 wr s0 s1 cnt f M9 T9 q9 pa be sv sd hq st0 wh (by omega) ((hmo 192 (by omega) (by omega)).trans hM) ((hmo 193 (by omega) (by omega)).trans hN) ((hmo 194 (by omega) (by omega)).trans hK) ((hmo 195 (by omega) (by omega)).trans hTm) ((hmo 196 (by omega) (by omega)).trans hRd) ((hmo 197 (by omega) (by omega)).trans hPa) ((hmo 198 (by omega) (by omega)).trans hBe) ((hmo 199 (by omega) (by omega)).trans hVv) hok (by omega) hMr hinq  hsd hhq hst0 hwh, fun zm g2 hpost => ?_⟩
  obtain ⟨t9, hR, hjk, hfr⟩ := hpost
  have hfin : t9 = z ∧ (z = 0 → o8 0 = jz (rI zm)) := by
    rcases hag with ⟨rfl, r, hpo, e8⟩ | ⟨rfl, c1⟩
    · have hrz : t9 = 0 ∧ r = zm := by
        obtain ⟨h9, hr⟩ := hpo
        rw [hv0] at h9
        rw [whS_sim hsim 56] at hr
        rcases hR with ⟨q, c9⟩ | ⟨q, c9, c7⟩
        · exact absurd h9 c9
        · exact ⟨q, by omega⟩
      exact ⟨hrz.1, fun _ => by rw [e8, hrz.2]⟩
    · exact ⟨by omega, fun q => by omega⟩
  have hzz : 0 ≤ z ∧ z ≤ 2 := by
    rcases hag with ⟨q, _⟩ | ⟨q, _⟩ <;> omega
  obtain ⟨rfl, hval⟩ := hfin
  exact ⟨⟨tl, nl, ns, old, cnt, m0, m1, s0, s1, T9, v, vs, f, w0, w1, F9, pa, sv, P9, hC1.far (fun q hq => hfr q (Or.inl hq)), hp, hjk.up (by omega)⟩, hzz, o8, (hfr 200 (by omega)).trans ho8, hval⟩
theorem op_wheelFor (l : Launch) (hlf : l.stackTraces = false) (κ : gKap) (B : Nat) (ad : Nat → Nat) (g : Nat → va_E) (th b9 : Int) (tu : Int) (htu : inI tu) (hb : 0 ≤ b9 ∧ b9 ≤ 700000000) (h : LI κ ad g th b9) {o9 : Int → Int64} (ho : g 200 = aJ κ 1 o9) :
  ∃ CL : Int → (Nat → va_E) → Prop, Met l yL_wheelFor wsL_wheelFor ({ frames := 7, cells := 1, slots := 6, locals := 104 }) (gPreY κ B 201 ad g [.ref (ad 0), .int (iz tu), .ref (ad 200)]) (gQi κ B 201 ad CL) 1 6 (gFree B) ∧ ∀ z g1, CL z g1 → (∃ fs, g1 192 = .inr (8, fs)) ∧ ∃ MP : Int → (Nat → va_E) → Prop, Met l yX8_wheelFor wsX8_wheelFor ({ frames := 1, cells := 0, slots := 0, locals := 25 }) (gPre κ B 201 ad g1 [.ref (ad 192), .int (iz tu)]) (gQi κ B 201 ad MP) 0 0 (gFree B) ∧ ∀ zm g2, MP zm g2 → LE κ ad g2 z zm (b9 + 1000) := by
  obtain ⟨tl, nl, ns, old, cnt, m0, m1, s0, s1, T9, v, vs, f, w0, w1, F9, pa, sv, P9, hC, hp, hj⟩ := h
  obtain ⟨htl, hTr, hok, hsim, hin, hins, hol, hct, hinP, hhs, hin0, hin1, hs01, hF01, hsl0, hsl1⟩ := id hp
  obtain ⟨hX, hT, hpl, hps, hhi, hF, hp0, hp1, hbn⟩ := id hC
  have hokv : okPl nl v := hok.sim hsim.symm
  obtain ⟨mk, rl, a09, wr, M9, q9, be, hM, hN, hK, hTm, hRd, hPa, hBe, hVv, hmk, hMr, hinq⟩ := id hj
  have hv0 := hsim.1
  have hv25 := hsim.2.1
  refine ⟨_, w_L_wheelFor l κ B 201 ad g tu (c_X7_wheelFor l hlf κ B 201 ad g tl nl v tu (by omega) hX hpl hokv hbn htu ) (by omega) hX.1 ho (fun z g' q => q.2.1 200 (by omega)) (fun E g9 q => q.1), fun z g1 hz => ?_⟩
  have key : (∀ q, 192 ≤ q → q < 200 → g1 q = g q) ∧ LSc κ ad g1 tl nl ns old cnt m0 m1 T9 v vs w0 w1 F9 P9 ∧ ∃ o8 : Int → Int64, g1 200 = aJ κ 1 o8 ∧ ((z = 0 ∧ ∃ r, ((1 ≤ tu ∧ tu ≤ 60) ∧ ∃ d9, isFirst (fun d => tn (v 0) (60 - d) = tu) 56 d9 ∧ r = if d9 = -9 then -9 else 60 - d9) ∧ o8 0 = jz (rI r)) ∨ (z = 1 ∧ (¬ (1 ≤ tu ∧ tu ≤ 60)))) := by
    rcases hz with ⟨rfl, r, gm, hpo9, rfl⟩ | ⟨rfl, hx⟩
    · obtain ⟨hb1, hf1, hpo⟩ := hpo9
      exact ⟨fun q q0 q1 => (gu_ne (by omega)).trans (hf1 q (by omega)), (hC.bench hb1 hf1).far (fun q hq => gu_ne (by omega)), _, gu_self _ _ _, Or.inl ⟨rfl, r, hpo, by simp [vuJ]⟩⟩
    · obtain ⟨_, c1, rfl⟩ := hx
      exact ⟨fun q _ _ => rfl, hC, o9, ho, Or.inr ⟨rfl, c1⟩⟩
  obtain ⟨hmo, hC1, o8, ho8, hag⟩ := key
  refine ⟨⟨_, (hmo 192 (by omega) (by omega)).trans hM⟩, _, c_X8_wheelFor l κ B 201 ad g1 nl th mk tl rl a09 wr s0 s1 cnt f M9 T9 q9 pa be sv tu (by omega) ((hmo 192 (by omega) (by omega)).trans hM) ((hmo 193 (by omega) (by omega)).trans hN) ((hmo 194 (by omega) (by omega)).trans hK) ((hmo 195 (by omega) (by omega)).trans hTm) ((hmo 196 (by omega) (by omega)).trans hRd) ((hmo 197 (by omega) (by omega)).trans hPa) ((hmo 198 (by omega) (by omega)).trans hBe) ((hmo 199 (by omega) (by omega)).trans hVv) hok (by omega) hMr hinq  htu, fun zm g2 hpost => ?_⟩
  obtain ⟨t9, hR, hjk, hfr⟩ := hpost
  have hfin : t9 = z ∧ (z = 0 → o8 0 = jz (rI zm)) := by
    rcases hag with ⟨rfl, r, hpo, e8⟩ | ⟨rfl, c1⟩
    · have hrz : t9 = 0 ∧ r = zm := by
        obtain ⟨h9, d9, hd, hr⟩ := hpo
        rw [hv0] at hd
        rcases hR with ⟨q, c9⟩ | ⟨q, c9, d8, c7, c6⟩
        · exact absurd h9 c9
        · exact ⟨q, by rw [hr, c6, hd.uniq c7]⟩
      exact ⟨hrz.1, fun _ => by rw [e8, hrz.2]⟩
    · exact ⟨by rcases hR with ⟨q, c9⟩ | ⟨q, c9, _⟩ <;> omega, fun q => by omega⟩
  have hzz : 0 ≤ z ∧ z ≤ 2 := by
    rcases hag with ⟨q, _⟩ | ⟨q, _⟩ <;> omega
  obtain ⟨rfl, hval⟩ := hfin
  exact ⟨⟨tl, nl, ns, old, cnt, m0, m1, s0, s1, T9, v, vs, f, w0, w1, F9, pa, sv, P9, hC1.far (fun q hq => hfr q (Or.inl hq)), hp, hjk.up (by omega)⟩, hzz, o8, (hfr 200 (by omega)).trans ho8, hval⟩
theorem op_simulate (l : Launch) (hlf : l.stackTraces = false) (κ : gKap) (B : Nat) (ad : Nat → Nat) (g : Nat → va_E) (th b9 : Int) (sd9 : Int) (m9 : Int) (hsd9 : inJ sd9) (hm9 : inI m9) (hb : 0 ≤ b9 ∧ b9 ≤ 700000000) (h : LI κ ad g th b9) {o9 : Int → Int64} (ho : g 200 = aJ κ 1 o9) :
  ∃ CL : Int → (Nat → va_E) → Prop, Met l yL_simulate wsL_simulate ({ frames := 7, cells := 1, slots := 6, locals := 113 }) (gPreY κ B 201 ad g [.ref (ad 0), .long (jz sd9), .int (iz m9), .ref (ad 200)]) (gQi κ B 201 ad CL) 1 6 (gFree B) ∧ ∀ z g1, CL z g1 → (∃ fs, g1 192 = .inr (8, fs)) ∧ ∃ MP : Int → (Nat → va_E) → Prop, Met l yX8_simulate wsX8_simulate ({ frames := 1, cells := 0, slots := 0, locals := 26 }) (gPre κ B 201 ad g1 [.ref (ad 192), .long (jz sd9), .int (iz m9)]) (gQi κ B 201 ad MP) 0 0 (gFree B) ∧ ∀ zm g2, MP zm g2 → LE κ ad g2 z zm (b9 + 1000) := by
  obtain ⟨tl, nl, ns, old, cnt, m0, m1, s0, s1, T9, v, vs, f, w0, w1, F9, pa, sv, P9, hC, hp, hj⟩ := h
  obtain ⟨htl, hTr, hok, hsim, hin, hins, hol, hct, hinP, hhs, hin0, hin1, hs01, hF01, hsl0, hsl1⟩ := id hp
  obtain ⟨hX, hT, hpl, hps, hhi, hF, hp0, hp1, hbn⟩ := id hC
  have hokv : okPl nl v := hok.sim hsim.symm
  obtain ⟨mk, rl, a09, wr, M9, q9, be, hM, hN, hK, hTm, hRd, hPa, hBe, hVv, hmk, hMr, hinq⟩ := id hj
  have hv0 := hsim.1
  have hv25 := hsim.2.1
  refine ⟨_, w_L_simulate l κ B 201 ad g sd9 m9 (c_X7_simulate l hlf κ B 201 ad g tl nl v sd9 m9 (by omega) hX hpl hokv hbn hsd9 hm9 ) (by omega) hX.1 ho (fun z g' q => q.2.1 200 (by omega)) (fun E g9 q => q.1), fun z g1 hz => ?_⟩
  have key : (∀ q, 192 ≤ q → q < 200 → g1 q = g q) ∧ LSc κ ad g1 tl nl ns old cnt m0 m1 T9 v vs w0 w1 F9 P9 ∧ ∃ o8 : Int → Int64, g1 200 = aJ κ 1 o8 ∧ ((z = 0 ∧ ∃ r, ((1 ≤ m9 ∧ m9 ≤ 200) ∧ r = 1000 * (cntS (fun x y => ∃ j, 0 ≤ j ∧ j < m9 ∧ x = sma (v 0) sd9 j ∧ y = smd sd9 j) : Int) + smx sd9 m9.toNat) ∧ o8 0 = jz (rI r)) ∨ (z = 1 ∧ (¬ (1 ≤ m9 ∧ m9 ≤ 200)))) := by
    rcases hz with ⟨rfl, r, gm, hpo9, rfl⟩ | ⟨rfl, hx⟩
    · obtain ⟨hb1, hf1, hpo⟩ := hpo9
      exact ⟨fun q q0 q1 => (gu_ne (by omega)).trans (hf1 q (by omega)), (hC.bench hb1 hf1).far (fun q hq => gu_ne (by omega)), _, gu_self _ _ _, Or.inl ⟨rfl, r, hpo, by simp [vuJ]⟩⟩
    · obtain ⟨_, c1, rfl⟩ := hx
      exact ⟨fun q _ _ => rfl, hC, o9, ho, Or.inr ⟨rfl, c1⟩⟩
  obtain ⟨hmo, hC1, o8, ho8, hag⟩ := key
  refine ⟨⟨_, (hmo 192 (by omega) (by omega)).trans hM⟩, _, c_X8_simulate l κ B 201 ad g1 nl th mk tl rl a09 wr s0 s1 cnt f M9 T9 q9 pa be sv sd9 m9 (by omega) ((hmo 192 (by omega) (by omega)).trans hM) ((hmo 193 (by omega) (by omega)).trans hN) ((hmo 194 (by omega) (by omega)).trans hK) ((hmo 195 (by omega) (by omega)).trans hTm) ((hmo 196 (by omega) (by omega)).trans hRd) ((hmo 197 (by omega) (by omega)).trans hPa) ((hmo 198 (by omega) (by omega)).trans hBe) ((hmo 199 (by omega) (by omega)).trans hVv) hok (by omega) hMr hinq  hsd9 hm9, fun zm g2 hpost => ?_⟩
  obtain ⟨t9, hR, hjk, hfr⟩ := hpost
  have hfin : t9 = z ∧ (z = 0 → o8 0 = jz (rI zm)) := by
    rcases hag with ⟨rfl, r, hpo, e8⟩ | ⟨rfl, c1⟩
    · have hrz : t9 = 0 ∧ r = zm := by
        obtain ⟨h9, hr⟩ := hpo
        rw [hv0] at hr
        rcases hR with ⟨q, c9⟩ | ⟨q, c9, c7⟩
        · exact absurd h9 c9
        · exact ⟨q, hr.trans c7.symm⟩
      exact ⟨hrz.1, fun _ => by rw [e8, hrz.2]⟩
    · exact ⟨by rcases hR with ⟨q, c9⟩ | ⟨q, c9, _⟩ <;> omega, fun q => by omega⟩
  have hzz : 0 ≤ z ∧ z ≤ 2 := by
    rcases hag with ⟨q, _⟩ | ⟨q, _⟩ <;> omega
  obtain ⟨rfl, hval⟩ := hfin
  exact ⟨⟨tl, nl, ns, old, cnt, m0, m1, s0, s1, T9, v, vs, f, w0, w1, F9, pa, sv, P9, hC1.far (fun q hq => hfr q (Or.inl hq)), hp, hjk.up (by omega)⟩, hzz, o8, (hfr 200 (by omega)).trans ho8, hval⟩
