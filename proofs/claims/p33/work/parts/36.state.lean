/-! THE PLATE AS THE LAW SEES IT -/
abbrev gHP : Type := Int → Int → (Nat → Int × (Int → Int)) → Prop
def HP0 : gHP := fun _ _ _ => True
/-- what is remembered last -/
def HPl (nl : Int) (f : Int → Int) : gHP := fun old cnt P9 => 1 ≤ cnt ∧ (P9 ((old + (cnt - 1)) % 14).toNat).1 = nl ∧ sim nl (P9 ((old + (cnt - 1)) % 14).toNat).2 f ∧ okPl nl f
def XSc (κ : gKap) (ad : Nat → Nat) (g : Nat → va_E) (tl nl ns old cnt m0 m1 : Int) (v vs w0 w1 F9 : Int → Int) (P9 : Nat → Int × (Int → Int)) : Prop :=
  isX κ ad g tl ∧ isPl κ ad g 2 nl v ∧ isPl κ ad g 12 ns vs ∧ isHi κ ad g 22 old cnt P9 ∧ g 165 = aZ κ 2 F9 ∧ isPl κ ad g 166 m0 w0 ∧ isPl κ ad g 176 m1 w1 ∧ isBn κ ad g 186
def slM (F9 : Int → Int) (M9 : Int → Int × (Int → Int)) (k m : Int) (w : Int → Int) : Prop := F9 k = 1 → m = (M9 k).1 ∧ sim m w (M9 k).2 ∧ okPl m (M9 k).2
def XSp (nl old cnt m0 m1 : Int) (v vs w0 w1 f F9 : Int → Int) (P9 : Nat → Int × (Int → Int)) (M9 : Int → Int × (Int → Int)) : Prop :=
  okPl nl f ∧ sim nl v f ∧ inV v ∧ inV vs ∧ (0 ≤ old ∧ old < 14) ∧ (0 ≤ cnt ∧ cnt ≤ 14) ∧ (∀ j : Nat, j < 14 → inV (P9 j).2) ∧ inV w0 ∧ inV w1 ∧ (∀ i, 0 ≤ i → i < 2 → F9 i = 0 ∨ F9 i = 1) ∧ slM F9 M9 0 m0 w0 ∧ slM F9 M9 1 m1 w1
/-- a plate with nl layers and the numbers f, its slots filled as F9 says, with M9 in them -/
def XI (κ : gKap) (ad : Nat → Nat) (g : Nat → va_E) (HP : gHP) (nl : Int) (f F9 : Int → Int) (M9 : Int → Int × (Int → Int)) : Prop :=
  ∃ (tl ns old cnt m0 m1 : Int) (v vs w0 w1 : Int → Int) (P9 : Nat → Int × (Int → Int)), XSc κ ad g tl nl ns old cnt m0 m1 v vs w0 w1 F9 P9 ∧ XSp nl old cnt m0 m1 v vs w0 w1 f F9 P9 M9 ∧ HP old cnt P9
def frX (n : Nat) (g g' : Nat → va_E) : Prop := ∀ q : Nat, 192 ≤ q → q < n → g' q = g q
theorem frX.rf {n : Nat} {g : Nat → va_E} : frX n g g := fun _ _ _ => rfl
theorem frX.tr {n : Nat} {g g' g2 : Nat → va_E} (h : frX n g g') (h2 : frX n g' g2) : frX n g g2 := fun q q0 q1 => (h2 q q0 q1).trans (h q q0 q1)
section XIS
variable {κ : gKap} {ad : Nat → Nat} {g g' : Nat → va_E} {tl nl ns old cnt m0 m1 : Int} {v vs f w0 w1 F9 : Int → Int} {P9 : Nat → Int × (Int → Int)} {M9 : Int → Int × (Int → Int)} {HP : gHP}
theorem isX.far (h : isX κ ad g tl) (h0 : g' 0 = g 0) (h1 : g' 164 = g 164) : isX κ ad g' tl := ⟨h0.trans h.1, h1.trans h.2⟩
theorem XSc.bench (h : XSc κ ad g tl nl ns old cnt m0 m1 v vs w0 w1 F9 P9) (hb : isBn κ ad g' 186) (hf : frB g g' 186) : XSc κ ad g' tl nl ns old cnt m0 m1 v vs w0 w1 F9 P9 := by
  obtain ⟨h1, h3, h4, h5, h6, h7, h8, h9⟩ := h
  have hq : ∀ q, q < 186 → g' q = g q := fun q hh => hf q (Or.inl hh)
  exact ⟨h1.far (hq _ (by omega)) (hq _ (by omega)), h3.far (fun q _ _ => hq q (by omega)), h4.far (fun q _ _ => hq q (by omega)), h5.far (fun q _ _ => hq q (by omega)), (hq _ (by omega)).trans h6, h7.far (fun q _ _ => hq q (by omega)), h8.far (fun q _ _ => hq q (by omega)), hb⟩
theorem XI.any (h : XI κ ad g HP nl f F9 M9) : XI κ ad g HP0 nl f F9 M9 := by
  obtain ⟨tl, ns, old, cnt, m0, m1, v, vs, w0, w1, P9, hC, hS, hH⟩ := h
  exact ⟨tl, ns, old, cnt, m0, m1, v, vs, w0, w1, P9, hC, hS, trivial⟩
theorem XI.ok (h : XI κ ad g HP nl f F9 M9) : okPl nl f := by
  obtain ⟨tl, ns, old, cnt, m0, m1, v, vs, w0, w1, P9, hC, hS, hH⟩ := h
  exact hS.1
theorem XI.sl (h : XI κ ad g HP nl f F9 M9) : ∀ i, 0 ≤ i → i < 2 → (F9 i = 0 ∨ F9 i = 1) ∧ (F9 i = 1 → okPl (M9 i).1 (M9 i).2) := by
  obtain ⟨tl, ns, old, cnt, m0, m1, v, vs, w0, w1, P9, hC, ⟨hok, s9, hiv, hivs, hol, hct, hinP, hi0, hi1, hF01, hs0, hs1⟩, hH⟩ := h
  intro i i0 i1
  refine ⟨hF01 i i0 i1, fun q => ?_⟩
  rcases (show i = 0 ∨ i = 1 by omega) with rfl | rfl
  · obtain ⟨rfl, a, b⟩ := hs0 q
    exact b
  · obtain ⟨rfl, a, b⟩ := hs1 q
    exact b
theorem XI.x0 (h : XI κ ad g HP nl f F9 M9) : ∃ fs, g 0 = .inr (7, fs) := by
  obtain ⟨tl, ns, old, cnt, m0, m1, v, vs, w0, w1, P9, hC, hS, hH⟩ := h
  exact ⟨_, hC.1.1⟩
theorem XI.far (h : XI κ ad g HP nl f F9 M9) (hq : ∀ q, q < 192 → g' q = g q) : XI κ ad g' HP nl f F9 M9 := by
  obtain ⟨tl, ns, old, cnt, m0, m1, v, vs, w0, w1, P9, ⟨h1, h3, h4, h5, h6, h7, h8, h9⟩, hS, hH⟩ := h
  exact ⟨tl, ns, old, cnt, m0, m1, v, vs, w0, w1, P9, ⟨h1.far (hq _ (by omega)) (hq _ (by omega)), h3.far (fun q _ _ => hq q (by omega)), h4.far (fun q _ _ => hq q (by omega)), h5.far (fun q _ _ => hq q (by omega)), (hq _ (by omega)).trans h6, h7.far (fun q _ _ => hq q (by omega)), h8.far (fun q _ _ => hq q (by omega)), h9.far (fun q _ _ => hq q (by omega))⟩, hS, hH⟩
/-- what an action leaves -/
theorem XSc.act {nl' : Int} {v' f' : Int → Int} (hC : XSc κ ad g tl nl ns old cnt m0 m1 v vs w0 w1 F9 P9) (hS : XSp nl old cnt m0 m1 v vs w0 w1 f F9 P9 M9) (hr : remX κ ad g' old cnt P9 nl v) (hp : isPl κ ad g' 2 nl' v') (hq : ∀ q, (q < 2 ∨ 12 ≤ q) → (q < 22 ∨ 164 ≤ q) → g' q = g q) (hok : okPl nl' f') (s8 : sim nl' v' f') (hv : inV v') : XI κ ad g' (HPl nl f) nl' f' F9 M9 := by
  obtain ⟨h1, h3, h4, h5, h6, h7, h8, h9⟩ := hC
  obtain ⟨k1, k2, k3, k4, k5, k6, k7, k8⟩ := hS
  obtain ⟨U9, r1, r2, r3⟩ := hr
  have a1 : (if cnt < 14 then old else (old + 1) % 14) = if cnt < 14 then old else (old + 1) % 14 := rfl
  refine ⟨tl, ns, if cnt < 14 then old else (old + 1) % 14, remC cnt, m0, m1, v', vs, w0, w1, fun j => if j = ((old + cnt) % 14).toNat then (nl, U9) else P9 j, ⟨h1.far (hq _ (by omega) (by omega)) (hq _ (by omega) (by omega)), hp, h4.far (fun q _ _ => hq q (by omega) (by omega)), r1, (hq _ (by omega) (by omega)).trans h6, h7.far (fun q _ _ => hq q (by omega) (by omega)), h8.far (fun q _ _ => hq q (by omega) (by omega)), h9.far (fun q _ _ => hq q (by omega) (by omega))⟩, ⟨hok, s8, hv, k4, ?_, ?_, ?_, k8⟩, ?_⟩
  · split <;> omega
  · unfold remC
    split <;> omega
  · intro j hj
    show inV (if j = ((old + cnt) % 14).toNat then (nl, U9) else P9 j).2
    split
    · exact r3
    · exact k7 j hj
  · have e : ((if cnt < 14 then old else (old + 1) % 14) + (remC cnt - 1)) % 14 = (old + cnt) % 14 := by
      unfold remC
      split <;> omega
    unfold HPl
    rw [e]
    dsimp only
    rw [if_pos rfl]
    refine ⟨?_, rfl, r2.tr k2, k1⟩
    unfold remC
    split <;> omega
end XIS
theorem okPl.fg {nl : Int} {v : Int → Int} (h : okPl nl v) : okPl nl (vu v 25 0) := by
  obtain ⟨h1, h2, h3, h4, h5⟩ := h
  have e0 : vu v 25 0 0 = v 0 := vu_ne (by omega)
  refine ⟨h1, by rw [e0]; exact h2, by rw [vu_self]; omega, fun l l0 l1 => ?_, fun i i0 i1 => ?_⟩
  · rw [e0, vu_ne (by omega), vu_ne (by omega), vu_ne (by omega), vu_ne (by omega)]
    exact h4 l l0 l1
  · rw [vu_self] at i1
    omega
/-! answers as functions of what the plate says -/
abbrev ALLp (nl : Int) (f : Int → Int) : Int → Int → Prop := fun x y => ∃ l9, 0 ≤ l9 ∧ l9 < nl ∧ PTl f l9 x y
noncomputable def abF (nl : Int) (f : Int → Int) (wh : Int) : Int := if wh = 0 then f 0 else if wh = 1 then nl else if wh = 2 then f 25 else if wh = 3 then (cntS (ALLp nl f) : Int) else if wh = 4 then lsA f nl.toNat else if wh = 5 then grA f nl.toNat else fitN nl f
noncomputable def lyF (f : Int → Int) (l wh : Int) : Int := if wh = 0 then f (4 * l + 1) else if wh = 1 then f (4 * l + 2) else if wh = 2 then f (4 * l + 3) else if wh = 3 then f (4 * l + 4) else if wh = 4 then pd (f 0) (f (4 * l + 1)) else if wh = 5 then tn (f 0) (f (4 * l + 1)) else if wh = 6 then lb (f 0) (f (4 * l + 1)) else if wh = 7 then (cntS (fun x y => PTl f l x y) : Int) else if wh = 8 then lsr f l else grr f l
noncomputable def siF (nl : Int) (f : Int → Int) (i wh : Int) : Int := if wh = 0 then f (26 + 2 * i) else if wh = 1 then f (27 + 2 * i) else thrN nl f (f (26 + 2 * i)) (f (27 + 2 * i))
def peF (f : Int → Int) (l t : Int) : Int := 1000 * ((f (4 * l + 4) + t) % f 0) + rad (f (4 * l + 1)) (f (4 * l + 2)) (f (4 * l + 3)) (t % f (4 * l + 1))
noncomputable def bkF (nl : Int) (f : Int → Int) : Int := if nl = 0 then -9 else (gpf (fun q9 => 0 < (cntR (ALLp nl f) q9 : Int)) 301).1
def tgF (nl : Int) (f : Int → Int) : Int := if nl = 0 then 0 else tgA f nl.toNat
noncomputable def coF (f : Int → Int) (l k : Int) : Int := (cntS (fun x y => PTl f l x y ∧ PTl f k x y) : Int)
noncomputable def bsF (f : Int → Int) (l k : Int) : Int := (bsf (cmF (f 0) (f (4 * l + 1)) (f (4 * l + 2)) (f (4 * l + 3)) (f (4 * k + 1)) (f (4 * k + 2)) (f (4 * k + 3)) (f (4 * k + 4))) (f 0).toNat).1
def cmsP (f : Int → Int) (l an ra : Int) : Int → Prop := fun t => (f (4 * l + 4) + t) % f 0 = an ∧ rad (f (4 * l + 1)) (f (4 * l + 2)) (f (4 * l + 3)) (t % f (4 * l + 1)) = ra
def metP (f : Int → Int) (l k : Int) : Int → Prop := fun t => f (4 * l + 4) = f (4 * k + 4) ∧ rad (f (4 * l + 1)) (f (4 * l + 2)) (f (4 * l + 3)) (t % f (4 * l + 1)) = rad (f (4 * k + 1)) (f (4 * k + 2)) (f (4 * k + 3)) (t % f (4 * k + 1))
def trnP (f : Int → Int) (l k : Int) : Int → Prop := fun d => SameR (f 0) (f (4 * l + 1)) (f (4 * l + 2)) (f (4 * l + 3)) ((f (4 * l + 4) + d) % f 0) (f (4 * k + 1)) (f (4 * k + 2)) (f (4 * k + 3)) (f (4 * k + 4))
section ASIM
variable {nl l k : Int} {v f : Int → Int}
theorem ALL_sim (s9 : sim nl v f) : (fun x y => ∃ l9, 0 ≤ l9 ∧ l9 < nl ∧ PTl v l9 x y) = ALLp nl f := by
  funext x y
  exact propext ⟨fun ⟨l9, h0, h1, h⟩ => ⟨l9, h0, h1, (PTl_sim s9 h0 h1).mp h⟩, fun ⟨l9, h0, h1, h⟩ => ⟨l9, h0, h1, (PTl_sim s9 h0 h1).mpr h⟩⟩
theorem PTlf_sim (s9 : sim nl v f) (h0 : 0 ≤ l) (h1 : l < nl) : (fun x y => PTl v l x y) = fun x y => PTl f l x y := by
  funext x y
  exact propext (PTl_sim s9 h0 h1)
theorem com_sim (s9 : sim nl v f) (h0 : 0 ≤ l) (h1 : l < nl) (k0 : 0 ≤ k) (k1 : k < nl) : (fun x y => PTl v l x y ∧ PTl v k x y) = fun x y => PTl f l x y ∧ PTl f k x y := by
  funext x y
  rw [propext (PTl_sim (x := x) (y := y) s9 h0 h1), propext (PTl_sim (x := x) (y := y) s9 k0 k1)]
end ASIM
/-! contracts -/
section NX
variable {l : Launch} {y : MethodName} {ws : List Cond} {rm : Room} {κ : gKap} {B n : Nat} {ad : Nat → Nat} {g : Nat → va_E} {As : List Value} {post post' : Int → (Nat → va_E) → Prop} {px : String → (Nat → va_E) → Prop} {mc ms : Nat}
theorem nx_thr (M : vx_Met l y ws rm (gPreX κ B n ad g As) (gQi κ B n ad post) (gXX κ B n ad px) mc ms (gFree B)) (hx : ∀ E g9, px E g9 → False) (hp : ∀ z g', post z g' → post' z g') : Met l y ws rm (gPreX κ B n ad g As) (gQi κ B n ad post') mc ms (gFree B) := by
  refine MetFree.mono M (fun _ _ h => h) (fun _ _ _ _ _ h => h) (fun a s o t _ h => ?_)
  rcases h with ⟨⟨⟨r, u, e, ⟨z, rfl, hq⟩, hB⟩, hF⟩, hL⟩ | ⟨q, rfl, E, ce, L, ⟨u, -, ⟨hpx, -⟩, -⟩, -⟩
  · exact ⟨⟨⟨_, u, e, ⟨z, rfl, hp z u hq⟩, hB⟩, hF⟩, hL⟩
  · exact absurd (hx E u hpx) id
theorem nx_pre (M : Met l y ws rm (gPre κ B n ad g As) (gQi κ B n ad post) mc ms (gFree B)) (hp : ∀ z g', post z g' → post' z g') : Met l y ws rm (gPreX κ B n ad g As) (gQi κ B n ad post') mc ms (gFree B) := by
  refine MetFree.mono M (fun _ _ h => ⟨h.1, h.2.1⟩) (fun _ _ _ _ _ h => h) (fun a s o t _ h => ?_)
  obtain ⟨⟨⟨r, u, e, ⟨z, rfl, hq⟩, hB⟩, hF⟩, hL⟩ := h
  exact ⟨⟨⟨_, u, e, ⟨z, rfl, hp z u hq⟩, hB⟩, hF⟩, hL⟩
theorem nx_preL (M : Met l y ws rm (gPre κ B n ad g As) (gQl κ B n ad post) mc ms (gFree B)) (hp : ∀ z g', post z g' → post' z g') : Met l y ws rm (gPreX κ B n ad g As) (gQl κ B n ad post') mc ms (gFree B) := by
  refine MetFree.mono M (fun _ _ h => ⟨h.1, h.2.1⟩) (fun _ _ _ _ _ h => h) (fun a s o t _ h => ?_)
  obtain ⟨⟨⟨r, u, e, ⟨z, rfl, hq⟩, hB⟩, hF⟩, hL⟩ := h
  exact ⟨⟨⟨_, u, e, ⟨z, rfl, hp z u hq⟩, hB⟩, hF⟩, hL⟩
theorem nx_mono (M : Met l y ws rm (gPreX κ B n ad g As) (gQi κ B n ad post) mc ms (gFree B)) (hp : ∀ z g', post z g' → post' z g') : Met l y ws rm (gPreX κ B n ad g As) (gQi κ B n ad post') mc ms (gFree B) := by
  refine MetFree.mono M (fun _ _ h => h) (fun _ _ _ _ _ h => h) (fun a s o t _ h => ?_)
  obtain ⟨⟨⟨r, u, e, ⟨z, rfl, hq⟩, hB⟩, hF⟩, hL⟩ := h
  exact ⟨⟨⟨_, u, e, ⟨z, rfl, hp z u hq⟩, hB⟩, hF⟩, hL⟩
end NX
set_option maxHeartbeats 1000000 in
theorem q_about (l : Launch) (hlf : l.stackTraces = false) (κ : gKap) (B n : Nat) (ad : Nat → Nat) (g : Nat → va_E) (HP : gHP) (nl : Int) (f F9 : Int → Int) (M9 : Int → Int × (Int → Int)) (wh : Int) (hnn : 192 ≤ n) (h : XI κ ad g HP nl f F9 M9) (hw : 0 ≤ wh ∧ wh ≤ 6) : Met l yX7_about wsX7_about ({ frames := 6, cells := 1, slots := 6, locals := 123 }) (gPreX κ B n ad g [.ref (ad 0), .int (iz wh)]) (gQi κ B n ad (fun z g' => XI κ ad g' HP nl f F9 M9 ∧ frX n g g' ∧ z = abF nl f wh)) 1 6 (gFree B) := by
  obtain ⟨tl, ns, old, cnt, m0, m1, v, vs, w0, w1, P9, hC, hS, hH⟩ := h
  have hC0 := hC
  have hS0 := hS
  obtain ⟨hX, hpl, hps, hhi, hF, hp0, hp1, hbn⟩ := hC
  obtain ⟨hok, s9, hiv, hivs, hol, hct, hinP, hi0, hi1, hF01, hs0, hs1⟩ := hS
  have hov : okPl nl v := hok.sim s9.symm
  have hv0 := hok.2.1
  have hn0 := hok.1
  refine nx_thr (c_X7_about l hlf κ B n ad g tl nl v wh hnn hX hpl hov hbn (by omega)) (fun E g9 q => q.2.1 hw) (fun z g' q => ?_)
  obtain ⟨hb, hf, q⟩ := q
  refine ⟨⟨tl, ns, old, cnt, m0, m1, v, vs, w0, w1, P9, hC0.bench hb hf, hS0, hH⟩, fun k k0 _ => hf k (Or.inr (by omega)), ?_⟩
  unfold abF
  rcases q with ⟨rfl, rfl⟩ | ⟨rfl, rfl⟩ | ⟨rfl, rfl⟩ | ⟨rfl, rfl⟩ | ⟨rfl, rfl⟩ | ⟨rfl, rfl⟩ | ⟨rfl, rfl⟩
  · rw [if_pos rfl]; exact s9.1
  · rw [if_neg (by decide), if_pos rfl]
  · rw [if_neg (by decide), if_neg (by decide), if_pos rfl]; exact s9.2.1
  · rw [if_neg (by decide), if_neg (by decide), if_neg (by decide), if_pos rfl, ALL_sim s9]
  · rw [if_neg (by decide), if_neg (by decide), if_neg (by decide), if_neg (by decide), if_pos rfl]; exact lsA_sim s9 _ (by omega)
  · rw [if_neg (by decide), if_neg (by decide), if_neg (by decide), if_neg (by decide), if_neg (by decide), if_pos rfl]; exact grA_sim s9 _ (by omega)
  · rw [if_neg (by decide), if_neg (by decide), if_neg (by decide), if_neg (by decide), if_neg (by decide), if_neg (by decide)]; exact fitN_sim s9
set_option maxHeartbeats 1000000 in
theorem q_layer (l : Launch) (hlf : l.stackTraces = false) (κ : gKap) (B n : Nat) (ad : Nat → Nat) (g : Nat → va_E) (HP : gHP) (nl : Int) (f F9 : Int → Int) (M9 : Int → Int × (Int → Int)) (li : Int) (wh : Int) (hnn : 192 ≤ n) (h : XI κ ad g HP nl f F9 M9) (hl : 0 ≤ li ∧ li < nl) (hw : 0 ≤ wh ∧ wh ≤ 9) : Met l yX7_layer wsX7_layer ({ frames := 6, cells := 1, slots := 6, locals := 99 }) (gPreX κ B n ad g [.ref (ad 0), .int (iz li), .int (iz wh)]) (gQi κ B n ad (fun z g' => XI κ ad g' HP nl f F9 M9 ∧ frX n g g' ∧ z = lyF f li wh)) 1 6 (gFree B) := by
  obtain ⟨tl, ns, old, cnt, m0, m1, v, vs, w0, w1, P9, hC, hS, hH⟩ := h
  have hC0 := hC
  have hS0 := hS
  obtain ⟨hX, hpl, hps, hhi, hF, hp0, hp1, hbn⟩ := hC
  obtain ⟨hok, s9, hiv, hivs, hol, hct, hinP, hi0, hi1, hF01, hs0, hs1⟩ := hS
  have hov : okPl nl v := hok.sim s9.symm
  have hv0 := hok.2.1
  have hn6 := hok.1
  obtain ⟨c1, c2, c3, c4⟩ := s9.clay hl.1 hl.2
  refine nx_thr (c_X7_layer l hlf κ B n ad g tl nl v li wh hnn hX hpl hov hbn (by omega) (by omega)) (fun E g9 q => q.elim (fun q => q.2.1 hl) (fun q => q.2.1.2 hw)) (fun z g' q => ?_)
  obtain ⟨hb, hf, -, q⟩ := q
  refine ⟨⟨tl, ns, old, cnt, m0, m1, v, vs, w0, w1, P9, hC0.bench hb hf, hS0, hH⟩, fun k k0 _ => hf k (Or.inr (by omega)), ?_⟩
  unfold lyF
  rcases q with ⟨rfl, rfl⟩ | ⟨rfl, rfl⟩ | ⟨rfl, rfl⟩ | ⟨rfl, rfl⟩ | ⟨rfl, rfl⟩ | ⟨rfl, rfl⟩ | ⟨rfl, rfl⟩ | ⟨rfl, rfl⟩ | ⟨rfl, rfl⟩ | ⟨rfl, rfl⟩
  · rw [if_pos rfl]; exact c1
  · rw [if_neg (by decide), if_pos rfl]; exact c2
  · rw [if_neg (by decide), if_neg (by decide), if_pos rfl]; exact c3
  · rw [if_neg (by decide), if_neg (by decide), if_neg (by decide), if_pos rfl]; exact c4
  · rw [if_neg (by decide), if_neg (by decide), if_neg (by decide), if_neg (by decide), if_pos rfl]; rw [s9.1, c1]
  · rw [if_neg (by decide), if_neg (by decide), if_neg (by decide), if_neg (by decide), if_neg (by decide), if_pos rfl]; rw [s9.1, c1]
  · rw [if_neg (by decide), if_neg (by decide), if_neg (by decide), if_neg (by decide), if_neg (by decide), if_neg (by decide), if_pos rfl]; rw [s9.1, c1]
  · rw [if_neg (by decide), if_neg (by decide), if_neg (by decide), if_neg (by decide), if_neg (by decide), if_neg (by decide), if_neg (by decide), if_pos rfl]; rw [PTlf_sim s9 hl.1 hl.2]
  · rw [if_neg (by decide), if_neg (by decide), if_neg (by decide), if_neg (by decide), if_neg (by decide), if_neg (by decide), if_neg (by decide), if_neg (by decide), if_pos rfl]; exact lsr_sim s9 hl.1 hl.2
  · rw [if_neg (by decide), if_neg (by decide), if_neg (by decide), if_neg (by decide), if_neg (by decide), if_neg (by decide), if_neg (by decide), if_neg (by decide), if_neg (by decide)]; exact grr_sim s9 hl.1 hl.2
set_option maxHeartbeats 1000000 in
theorem q_pen (l : Launch) (hlf : l.stackTraces = false) (κ : gKap) (B n : Nat) (ad : Nat → Nat) (g : Nat → va_E) (HP : gHP) (nl : Int) (f F9 : Int → Int) (M9 : Int → Int × (Int → Int)) (li : Int) (t : Int) (hnn : 192 ≤ n) (h : XI κ ad g HP nl f F9 M9) (hl : 0 ≤ li ∧ li < nl) (ht : 0 ≤ t ∧ t ≤ 9223372036854775807) : Met l yX7_pen wsX7_pen ({ frames := 6, cells := 1, slots := 6, locals := 82 }) (gPreX κ B n ad g [.ref (ad 0), .int (iz li), .long (jz t)]) (gQi κ B n ad (fun z g' => XI κ ad g' HP nl f F9 M9 ∧ frX n g g' ∧ z = peF f li t)) 1 6 (gFree B) := by
  obtain ⟨tl, ns, old, cnt, m0, m1, v, vs, w0, w1, P9, hC, hS, hH⟩ := h
  have hC0 := hC
  have hS0 := hS
  obtain ⟨hX, hpl, hps, hhi, hF, hp0, hp1, hbn⟩ := hC
  obtain ⟨hok, s9, hiv, hivs, hol, hct, hinP, hi0, hi1, hF01, hs0, hs1⟩ := hS
  have hov : okPl nl v := hok.sim s9.symm
  have hv0 := hok.2.1
  have hn6 := hok.1
  obtain ⟨c1, c2, c3, c4⟩ := s9.clay hl.1 hl.2
  refine nx_thr (c_X7_pen l hlf κ B n ad g tl nl v li t hnn hX hpl hov (by omega) (by omega)) (fun E g9 q => q.elim (fun q => q.2.1 hl) (fun q => absurd q.2.1.2 (by omega))) (fun z g' q => ?_)
  obtain ⟨rfl, -, -, rfl⟩ := q
  refine ⟨⟨tl, ns, old, cnt, m0, m1, v, vs, w0, w1, P9, hC0, hS0, hH⟩, frX.rf, ?_⟩
  unfold peF
  rw [s9.1, c1, c2, c3, c4]
set_option maxHeartbeats 1000000 in
theorem q_comes (l : Launch) (hlf : l.stackTraces = false) (κ : gKap) (B n : Nat) (ad : Nat → Nat) (g : Nat → va_E) (HP : gHP) (nl : Int) (f F9 : Int → Int) (M9 : Int → Int × (Int → Int)) (li : Int) (an : Int) (ra : Int) (hnn : 192 ≤ n) (h : XI κ ad g HP nl f F9 M9) (hl : 0 ≤ li ∧ li < nl) (ha : 0 ≤ an ∧ an < f 0) (hr : 0 ≤ ra ∧ ra ≤ 300) : Met l yX7_comes wsX7_comes ({ frames := 6, cells := 1, slots := 6, locals := 82 }) (gPreX κ B n ad g [.ref (ad 0), .int (iz li), .int (iz an), .int (iz ra)]) (gQi κ B n ad (fun z g' => XI κ ad g' HP nl f F9 M9 ∧ frX n g g' ∧ isFirst (cmsP f li an ra) (pd (f 0) (f (4 * li + 1))) z)) 1 6 (gFree B) := by
  obtain ⟨tl, ns, old, cnt, m0, m1, v, vs, w0, w1, P9, hC, hS, hH⟩ := h
  have hC0 := hC
  have hS0 := hS
  obtain ⟨hX, hpl, hps, hhi, hF, hp0, hp1, hbn⟩ := hC
  obtain ⟨hok, s9, hiv, hivs, hol, hct, hinP, hi0, hi1, hF01, hs0, hs1⟩ := hS
  have hov : okPl nl v := hok.sim s9.symm
  have hv0 := hok.2.1
  have hn6 := hok.1
  obtain ⟨c1, c2, c3, c4⟩ := s9.clay hl.1 hl.2
  have hv9 := s9.1
  refine nx_thr (c_X7_comes l hlf κ B n ad g tl nl v li an ra hnn hX hpl hov (by omega) (by omega) (by omega)) (fun E g9 q => q.elim (fun q => q.2.1 hl) (fun q => q.2.1.2 (by rw [hv9]; exact ⟨ha, hr⟩))) (fun z g' q => ?_)
  obtain ⟨rfl, -, -, q⟩ := q
  refine ⟨⟨tl, ns, old, cnt, m0, m1, v, vs, w0, w1, P9, hC0, hS0, hH⟩, frX.rf, ?_⟩
  unfold cmsP
  rw [s9.1, c1, c2, c3, c4] at q
  exact q
set_option maxHeartbeats 1000000 in
theorem q_at (l : Launch) (hlf : l.stackTraces = false) (κ : gKap) (B n : Nat) (ad : Nat → Nat) (g : Nat → va_E) (HP : gHP) (nl : Int) (f F9 : Int → Int) (M9 : Int → Int × (Int → Int)) (ra : Int) (hnn : 192 ≤ n) (h : XI κ ad g HP nl f F9 M9) (hr : 0 ≤ ra ∧ ra ≤ 300) : Met l yX7_at wsX7_at ({ frames := 6, cells := 1, slots := 6, locals := 100 }) (gPreX κ B n ad g [.ref (ad 0), .int (iz ra)]) (gQi κ B n ad (fun z g' => XI κ ad g' HP nl f F9 M9 ∧ frX n g g' ∧ z = (cntR (ALLp nl f) ra : Int))) 1 6 (gFree B) := by
  obtain ⟨tl, ns, old, cnt, m0, m1, v, vs, w0, w1, P9, hC, hS, hH⟩ := h
  have hC0 := hC
  have hS0 := hS
  obtain ⟨hX, hpl, hps, hhi, hF, hp0, hp1, hbn⟩ := hC
  obtain ⟨hok, s9, hiv, hivs, hol, hct, hinP, hi0, hi1, hF01, hs0, hs1⟩ := hS
  have hov : okPl nl v := hok.sim s9.symm
  have hv0 := hok.2.1
  refine nx_thr (c_X7_at l hlf κ B n ad g tl nl v ra hnn hX hpl hov hbn (by omega)) (fun E g9 q => q.2.1 hr) (fun z g' q => ?_)
  obtain ⟨hb, hf, -, rfl⟩ := q
  refine ⟨⟨tl, ns, old, cnt, m0, m1, v, vs, w0, w1, P9, hC0.bench hb hf, hS0, hH⟩, fun k k0 _ => hf k (Or.inr (by omega)), ?_⟩
  rw [ALL_sim s9]
set_option maxHeartbeats 1000000 in
theorem q_blank (l : Launch) (hlf : l.stackTraces = false) (κ : gKap) (B n : Nat) (ad : Nat → Nat) (g : Nat → va_E) (HP : gHP) (nl : Int) (f F9 : Int → Int) (M9 : Int → Int × (Int → Int)) (hnn : 192 ≤ n) (h : XI κ ad g HP nl f F9 M9) : Met l yX7_blank wsX7_blank ({ frames := 4, cells := 0, slots := 0, locals := 100 }) (gPreX κ B n ad g [.ref (ad 0)]) (gQi κ B n ad (fun z g' => XI κ ad g' HP nl f F9 M9 ∧ frX n g g' ∧ z = bkF nl f)) 0 0 (gFree B) := by
  obtain ⟨tl, ns, old, cnt, m0, m1, v, vs, w0, w1, P9, hC, hS, hH⟩ := h
  have hC0 := hC
  have hS0 := hS
  obtain ⟨hX, hpl, hps, hhi, hF, hp0, hp1, hbn⟩ := hC
  obtain ⟨hok, s9, hiv, hivs, hol, hct, hinP, hi0, hi1, hF01, hs0, hs1⟩ := hS
  have hov : okPl nl v := hok.sim s9.symm
  have hv0 := hok.2.1
  refine nx_pre (c_X7_blank l κ B n ad g tl nl v hnn hX hpl hov hbn) (fun z g' q => ?_)
  obtain ⟨hb, hf, q⟩ := q
  refine ⟨⟨tl, ns, old, cnt, m0, m1, v, vs, w0, w1, P9, hC0.bench hb hf, hS0, hH⟩, fun k k0 _ => hf k (Or.inr (by omega)), ?_⟩
  unfold bkF
  rcases q with ⟨h0, rfl⟩ | ⟨h0, rfl⟩
  · rw [if_pos h0]
  · rw [if_neg (by omega), ALL_sim s9]
set_option maxHeartbeats 1000000 in
theorem q_together (l : Launch) (hlf : l.stackTraces = false) (κ : gKap) (B n : Nat) (ad : Nat → Nat) (g : Nat → va_E) (HP : gHP) (nl : Int) (f F9 : Int → Int) (M9 : Int → Int × (Int → Int)) (hnn : 192 ≤ n) (h : XI κ ad g HP nl f F9 M9) : Met l yX7_together wsX7_together ({ frames := 3, cells := 0, slots := 0, locals := 72 }) (gPreX κ B n ad g [.ref (ad 0)]) (gQl κ B n ad (fun z g' => XI κ ad g' HP nl f F9 M9 ∧ frX n g g' ∧ z = tgF nl f)) 0 0 (gFree B) := by
  obtain ⟨tl, ns, old, cnt, m0, m1, v, vs, w0, w1, P9, hC, hS, hH⟩ := h
  have hC0 := hC
  have hS0 := hS
  obtain ⟨hX, hpl, hps, hhi, hF, hp0, hp1, hbn⟩ := hC
  obtain ⟨hok, s9, hiv, hivs, hol, hct, hinP, hi0, hi1, hF01, hs0, hs1⟩ := hS
  have hov : okPl nl v := hok.sim s9.symm
  have hv0 := hok.2.1
  refine nx_preL (c_X7_together l κ B n ad g tl nl v hnn hX hpl hov) (fun z g' q => ?_)
  obtain ⟨rfl, q⟩ := q
  refine ⟨⟨tl, ns, old, cnt, m0, m1, v, vs, w0, w1, P9, hC0, hS0, hH⟩, frX.rf, ?_⟩
  unfold tgF
  rcases q with ⟨h0, rfl⟩ | ⟨h0, rfl⟩
  · rw [if_pos h0]
  · rw [if_neg (by omega)]; exact tgA_sim s9 _ (by omega)
set_option maxHeartbeats 1000000 in
theorem q_order (l : Launch) (hlf : l.stackTraces = false) (κ : gKap) (B n : Nat) (ad : Nat → Nat) (g : Nat → va_E) (HP : gHP) (nl : Int) (f F9 : Int → Int) (M9 : Int → Int × (Int → Int)) (pl : Int) (hnn : 192 ≤ n) (h : XI κ ad g HP nl f F9 M9) (hpl9 : 0 ≤ pl ∧ pl ≤ 100) : Met l yX7_order wsX7_order ({ frames := 6, cells := 1, slots := 6, locals := 98 }) (gPreX κ B n ad g [.ref (ad 0), .int (iz pl)]) (gQi κ B n ad (fun z g' => XI κ ad g' HP nl f F9 M9 ∧ frX n g g' ∧ isFirst (fun l9 => cutN nl f l9 = pl) nl z)) 1 6 (gFree B) := by
  obtain ⟨tl, ns, old, cnt, m0, m1, v, vs, w0, w1, P9, hC, hS, hH⟩ := h
  have hC0 := hC
  have hS0 := hS
  obtain ⟨hX, hpl, hps, hhi, hF, hp0, hp1, hbn⟩ := hC
  obtain ⟨hok, s9, hiv, hivs, hol, hct, hinP, hi0, hi1, hF01, hs0, hs1⟩ := hS
  have hov : okPl nl v := hok.sim s9.symm
  have hv0 := hok.2.1
  refine nx_thr (c_X7_order l hlf κ B n ad g tl nl v pl hnn hX hpl hov (by omega)) (fun E g9 q => absurd q.2.1 (by omega)) (fun z g' q => ?_)
  obtain ⟨rfl, -, q⟩ := q
  refine ⟨⟨tl, ns, old, cnt, m0, m1, v, vs, w0, w1, P9, hC0, hS0, hH⟩, frX.rf, ?_⟩
  exact q.iff (fun t t0 t1 => by rw [cutN_sim s9 t0 t1])
set_option maxHeartbeats 1000000 in
theorem q_sighting (l : Launch) (hlf : l.stackTraces = false) (κ : gKap) (B n : Nat) (ad : Nat → Nat) (g : Nat → va_E) (HP : gHP) (nl : Int) (f F9 : Int → Int) (M9 : Int → Int × (Int → Int)) (i : Int) (wh : Int) (hnn : 192 ≤ n) (h : XI κ ad g HP nl f F9 M9) (hi : 0 ≤ i ∧ i < f 25) (hw : 0 ≤ wh ∧ wh ≤ 2) : Met l yX7_sighting wsX7_sighting ({ frames := 6, cells := 1, slots := 6, locals := 103 }) (gPreX κ B n ad g [.ref (ad 0), .int (iz i), .int (iz wh)]) (gQi κ B n ad (fun z g' => XI κ ad g' HP nl f F9 M9 ∧ frX n g g' ∧ z = siF nl f i wh)) 1 6 (gFree B) := by
  obtain ⟨tl, ns, old, cnt, m0, m1, v, vs, w0, w1, P9, hC, hS, hH⟩ := h
  have hC0 := hC
  have hS0 := hS
  obtain ⟨hX, hpl, hps, hhi, hF, hp0, hp1, hbn⟩ := hC
  obtain ⟨hok, s9, hiv, hivs, hol, hct, hinP, hi0, hi1, hF01, hs0, hs1⟩ := hS
  have hov : okPl nl v := hok.sim s9.symm
  have hv0 := hok.2.1
  have h25 := hok.2.2.1
  have hv25 := s9.2.1
  have e1 : v (26 + 2 * i) = f (26 + 2 * i) := s9.2.2.2 _ (by omega) (by omega)
  have e2 : v (27 + 2 * i) = f (27 + 2 * i) := s9.2.2.2 _ (by omega) (by omega)
  refine nx_thr (c_X7_sighting l hlf κ B n ad g tl nl v i wh hnn hX hpl hov (by omega) (by omega)) (fun E g9 q => q.elim (fun q => q.2.1 (by omega)) (fun q => q.2.1.2 hw)) (fun z g' q => ?_)
  obtain ⟨rfl, -, q⟩ := q
  refine ⟨⟨tl, ns, old, cnt, m0, m1, v, vs, w0, w1, P9, hC0, hS0, hH⟩, frX.rf, ?_⟩
  unfold siF
  rcases q with ⟨rfl, rfl⟩ | ⟨rfl, rfl⟩ | ⟨rfl, rfl⟩
  · rw [if_pos rfl]; exact e1
  · rw [if_neg (by decide), if_pos rfl]; exact e2
  · rw [if_neg (by decide), if_neg (by decide), e1, e2]; exact thrN_sim s9
set_option maxHeartbeats 1000000 in
theorem q_common (l : Launch) (hlf : l.stackTraces = false) (κ : gKap) (B n : Nat) (ad : Nat → Nat) (g : Nat → va_E) (HP : gHP) (nl : Int) (f F9 : Int → Int) (M9 : Int → Int × (Int → Int)) (li : Int) (lj : Int) (hnn : 192 ≤ n) (h : XI κ ad g HP nl f F9 M9) (hl : 0 ≤ li ∧ li < nl) (hm : 0 ≤ lj ∧ lj < nl) : Met l yX7_common wsX7_common ({ frames := 6, cells := 1, slots := 6, locals := 100 }) (gPreX κ B n ad g [.ref (ad 0), .int (iz li), .int (iz lj)]) (gQi κ B n ad (fun z g' => XI κ ad g' HP nl f F9 M9 ∧ frX n g g' ∧ z = coF f li lj)) 1 6 (gFree B) := by
  obtain ⟨tl, ns, old, cnt, m0, m1, v, vs, w0, w1, P9, hC, hS, hH⟩ := h
  have hC0 := hC
  have hS0 := hS
  obtain ⟨hX, hpl, hps, hhi, hF, hp0, hp1, hbn⟩ := hC
  obtain ⟨hok, s9, hiv, hivs, hol, hct, hinP, hi0, hi1, hF01, hs0, hs1⟩ := hS
  have hov : okPl nl v := hok.sim s9.symm
  have hv0 := hok.2.1
  have hn6 := hok.1
  obtain ⟨c1, c2, c3, c4⟩ := s9.clay hl.1 hl.2
  obtain ⟨d1, d2, d3, d4⟩ := s9.clay hm.1 hm.2
  refine nx_thr (c_X7_common l hlf κ B n ad g tl nl v li lj hnn hX hpl hov hbn (by omega) (by omega)) (fun E g9 q => q.2.1 ⟨hl, hm⟩) (fun z g' q => ?_)
  obtain ⟨hb, hf, -, rfl⟩ := q
  refine ⟨⟨tl, ns, old, cnt, m0, m1, v, vs, w0, w1, P9, hC0.bench hb hf, hS0, hH⟩, fun k k0 _ => hf k (Or.inr (by omega)), ?_⟩
  unfold coF
  rw [com_sim s9 hl.1 hl.2 hm.1 hm.2]
set_option maxHeartbeats 1000000 in
theorem q_meet (l : Launch) (hlf : l.stackTraces = false) (κ : gKap) (B n : Nat) (ad : Nat → Nat) (g : Nat → va_E) (HP : gHP) (nl : Int) (f F9 : Int → Int) (M9 : Int → Int × (Int → Int)) (li : Int) (lj : Int) (hnn : 192 ≤ n) (h : XI κ ad g HP nl f F9 M9) (hl : 0 ≤ li ∧ li < nl) (hm : 0 ≤ lj ∧ lj < nl) : Met l yX7_meet wsX7_meet ({ frames := 6, cells := 1, slots := 6, locals := 82 }) (gPreX κ B n ad g [.ref (ad 0), .int (iz li), .int (iz lj)]) (gQi κ B n ad (fun z g' => XI κ ad g' HP nl f F9 M9 ∧ frX n g g' ∧ isFirst (metP f li lj) (f (4 * li + 1) / gd (f (4 * li + 1)) (f (4 * lj + 1)) * f (4 * lj + 1)) z)) 1 6 (gFree B) := by
  obtain ⟨tl, ns, old, cnt, m0, m1, v, vs, w0, w1, P9, hC, hS, hH⟩ := h
  have hC0 := hC
  have hS0 := hS
  obtain ⟨hX, hpl, hps, hhi, hF, hp0, hp1, hbn⟩ := hC
  obtain ⟨hok, s9, hiv, hivs, hol, hct, hinP, hi0, hi1, hF01, hs0, hs1⟩ := hS
  have hov : okPl nl v := hok.sim s9.symm
  have hv0 := hok.2.1
  have hn6 := hok.1
  obtain ⟨c1, c2, c3, c4⟩ := s9.clay hl.1 hl.2
  obtain ⟨d1, d2, d3, d4⟩ := s9.clay hm.1 hm.2
  refine nx_thr (c_X7_meet l hlf κ B n ad g tl nl v li lj hnn hX hpl hov (by omega) (by omega)) (fun E g9 q => q.2.1 ⟨hl, hm⟩) (fun z g' q => ?_)
  obtain ⟨rfl, -, q⟩ := q
  refine ⟨⟨tl, ns, old, cnt, m0, m1, v, vs, w0, w1, P9, hC0, hS0, hH⟩, frX.rf, ?_⟩
  unfold metP
  rw [c1, c2, c3, c4, d1, d2, d3, d4] at q
  exact q
set_option maxHeartbeats 1000000 in
theorem q_turned (l : Launch) (hlf : l.stackTraces = false) (κ : gKap) (B n : Nat) (ad : Nat → Nat) (g : Nat → va_E) (HP : gHP) (nl : Int) (f F9 : Int → Int) (M9 : Int → Int × (Int → Int)) (li : Int) (lj : Int) (hnn : 192 ≤ n) (h : XI κ ad g HP nl f F9 M9) (hl : 0 ≤ li ∧ li < nl) (hm : 0 ≤ lj ∧ lj < nl) : Met l yX7_turned wsX7_turned ({ frames := 6, cells := 1, slots := 6, locals := 102 }) (gPreX κ B n ad g [.ref (ad 0), .int (iz li), .int (iz lj)]) (gQi κ B n ad (fun z g' => XI κ ad g' HP nl f F9 M9 ∧ frX n g g' ∧ isFirst (trnP f li lj) (f 0) z)) 1 6 (gFree B) := by
  obtain ⟨tl, ns, old, cnt, m0, m1, v, vs, w0, w1, P9, hC, hS, hH⟩ := h
  have hC0 := hC
  have hS0 := hS
  obtain ⟨hX, hpl, hps, hhi, hF, hp0, hp1, hbn⟩ := hC
  obtain ⟨hok, s9, hiv, hivs, hol, hct, hinP, hi0, hi1, hF01, hs0, hs1⟩ := hS
  have hov : okPl nl v := hok.sim s9.symm
  have hv0 := hok.2.1
  have hn6 := hok.1
  obtain ⟨c1, c2, c3, c4⟩ := s9.clay hl.1 hl.2
  obtain ⟨d1, d2, d3, d4⟩ := s9.clay hm.1 hm.2
  refine nx_thr (c_X7_turned l hlf κ B n ad g tl nl v li lj hnn hX hpl hov hbn (by omega) (by omega)) (fun E g9 q => q.2.1 ⟨hl, hm⟩) (fun z g' q => ?_)
  obtain ⟨hb, hf, -, q⟩ := q
  refine ⟨⟨tl, ns, old, cnt, m0, m1, v, vs, w0, w1, P9, hC0.bench hb hf, hS0, hH⟩, fun k k0 _ => hf k (Or.inr (by omega)), ?_⟩
  unfold trnP
  rw [s9.1, c1, c2, c3, c4, d1, d2, d3, d4] at q
  exact q
set_option maxHeartbeats 1000000 in
theorem q_bestStart (l : Launch) (hlf : l.stackTraces = false) (κ : gKap) (B n : Nat) (ad : Nat → Nat) (g : Nat → va_E) (HP : gHP) (nl : Int) (f F9 : Int → Int) (M9 : Int → Int × (Int → Int)) (li : Int) (lj : Int) (hnn : 192 ≤ n) (h : XI κ ad g HP nl f F9 M9) (hl : 0 ≤ li ∧ li < nl) (hm : 0 ≤ lj ∧ lj < nl) (hne : li ≠ lj) : Met l yX7_bestStart wsX7_bestStart ({ frames := 6, cells := 1, slots := 6, locals := 105 }) (gPreX κ B n ad g [.ref (ad 0), .int (iz li), .int (iz lj)]) (gQi κ B n ad (fun z g' => XI κ ad g' HP nl f F9 M9 ∧ frX n g g' ∧ z = bsF f li lj)) 1 6 (gFree B) := by
  obtain ⟨tl, ns, old, cnt, m0, m1, v, vs, w0, w1, P9, hC, hS, hH⟩ := h
  have hC0 := hC
  have hS0 := hS
  obtain ⟨hX, hpl, hps, hhi, hF, hp0, hp1, hbn⟩ := hC
  obtain ⟨hok, s9, hiv, hivs, hol, hct, hinP, hi0, hi1, hF01, hs0, hs1⟩ := hS
  have hov : okPl nl v := hok.sim s9.symm
  have hv0 := hok.2.1
  have hn6 := hok.1
  obtain ⟨c1, c2, c3, c4⟩ := s9.clay hl.1 hl.2
  obtain ⟨d1, d2, d3, d4⟩ := s9.clay hm.1 hm.2
  refine nx_thr (c_X7_bestStart l hlf κ B n ad g tl nl v li lj hnn hX hpl hov hbn (by omega) (by omega)) (fun E g9 q => q.elim (fun q => q.2.1 ⟨hl, hm⟩) (fun q => hne q.2.1.2)) (fun z g' q => ?_)
  obtain ⟨hb, hf, -, -, rfl⟩ := q
  refine ⟨⟨tl, ns, old, cnt, m0, m1, v, vs, w0, w1, P9, hC0.bench hb hf, hS0, hH⟩, fun k k0 _ => hf k (Or.inr (by omega)), ?_⟩
  unfold bsF
  rw [s9.1, c1, c2, c3, d1, d2, d3, d4]
theorem whS_rg (v : Int → Int) (sd ho st0 : Int) : ∀ k : Nat, (0 ≤ (whS v sd ho st0 k).1 ∧ (whS v sd ho st0 k).1 ≤ k) ∧ (-9 ≤ (whS v sd ho st0 k).2.1 ∧ (whS v sd ho st0 k).2.1 ≤ 5 + k) ∧ -9 ≤ (whS v sd ho st0 k).2.2 ∧ (whS v sd ho st0 k).2.2 ≤ 5 + k
  | 0 => by
    exact ⟨⟨Int.le_refl 0, Int.le_refl 0⟩, ⟨(by decide : (-9 : Int) ≤ -9), (by decide : (-9 : Int) ≤ 5 + ((0 : Nat) : Int))⟩, (by decide : (-9 : Int) ≤ -9), (by decide : (-9 : Int) ≤ 5 + ((0 : Nat) : Int))⟩
  | k + 1 => by
    obtain ⟨h1, h2, h3⟩ := whS_rg v sd ho st0 k
    by_cases hf : FITw v (5 + (k : Int)) sd ho st0
    · have e := whS_in (v := v) (sd := sd) (ho := ho) (st0 := st0) (w := 5 + (k : Int)) (by omega) hf
      rw [show (5 + (k : Int) + 1 - 5).toNat = k + 1 by omega, show (5 + (k : Int) - 5).toNat = k by omega] at e
      rw [e]
      dsimp only
      refine ⟨by omega, ?_, by omega⟩
      split <;> omega
    · have e := whS_out (v := v) (sd := sd) (ho := ho) (st0 := st0) (w := 5 + (k : Int)) (by omega) hf
      rw [show (5 + (k : Int) + 1 - 5).toNat = k + 1 by omega, show (5 + (k : Int) - 5).toNat = k by omega] at e
      rw [e]
      omega
set_option maxHeartbeats 1000000 in
theorem q_wheels (l : Launch) (hlf : l.stackTraces = false) (κ : gKap) (B n : Nat) (ad : Nat → Nat) (g : Nat → va_E) (HP : gHP) (nl : Int) (f F9 : Int → Int) (M9 : Int → Int × (Int → Int)) (sd : Int) (ho : Int) (st0 : Int) (wh : Int) (hnn : 192 ≤ n) (h : XI κ ad g HP nl f F9 M9) (h1 : sd = 0 ∨ sd = 1) (h2 : 0 ≤ ho ∧ ho ≤ 20) (h3 : 0 ≤ st0 ∧ st0 < f 0) (h4 : 0 ≤ wh ∧ wh ≤ 2) : Met l yX7_wheels wsX7_wheels ({ frames := 6, cells := 1, slots := 6, locals := 100 }) (gPreX κ B n ad g [.ref (ad 0), .int (iz sd), .int (iz ho), .int (iz st0), .int (iz wh)]) (gQi κ B n ad (fun z g' => XI κ ad g' HP nl f F9 M9 ∧ frX n g g' ∧ -9 ≤ z ∧ z ≤ 100)) 1 6 (gFree B) := by
  obtain ⟨tl, ns, old, cnt, m0, m1, v, vs, w0, w1, P9, hC, hS, hH⟩ := h
  have hC0 := hC
  have hS0 := hS
  obtain ⟨hX, hpl, hps, hhi, hF, hp0, hp1, hbn⟩ := hC
  obtain ⟨hok, s9, hiv, hivs, hol, hct, hinP, hi0, hi1, hF01, hs0, hs1⟩ := hS
  have hov : okPl nl v := hok.sim s9.symm
  have hv0 := hok.2.1
  have hv9 := s9.1
  have hk := whS_rg v sd ho st0 56
  refine nx_thr (c_X7_wheels l hlf κ B n ad g tl nl v sd ho st0 wh hnn hX hpl hov hbn (by omega) (by omega) (by omega) (by omega)) (fun E g9 q => q.2.1 ⟨h1, h2, by rw [hv9]; exact h3, h4⟩) (fun z g' q => ?_)
  obtain ⟨hb, hf, -, q⟩ := q
  refine ⟨⟨tl, ns, old, cnt, m0, m1, v, vs, w0, w1, P9, hC0.bench hb hf, hS0, hH⟩, fun k k0 _ => hf k (Or.inr (by omega)), ?_⟩
  omega
theorem cntS_ge1 {S : Int → Int → Prop} {a r : Int} (ha : 0 ≤ a ∧ a < 128) (hr : 0 ≤ r ∧ r ≤ 300) (h : S a r) : 1 ≤ cntS S := by
  have e1 : 0 < fb_ct (fun b => dB (S (64 * (((2 * r + a / 64).toNat : Int) % 2) + b) (((2 * r + a / 64).toNat : Int) / 2))) 64 := by
    refine fb_ct_pos.mpr ⟨(a % 64).toNat, by omega, dB_iff.mpr ?_⟩
    rw [show 64 * (((2 * r + a / 64).toNat : Int) % 2) + ((a % 64).toNat : Int) = a by omega, show ((2 * r + a / 64).toNat : Int) / 2 = r by omega]
    exact h
  have e2 := fb_sm_part (fun j : Nat => fb_ct (fun b => dB (S (64 * ((j : Int) % 2) + b) ((j : Int) / 2))) 64) (i := (2 * r + a / 64).toNat) (n := 602) (by omega)
  have e3 : cntS S = fb_sm (fun j : Nat => fb_ct (fun b => dB (S (64 * ((j : Int) % 2) + b) ((j : Int) / 2))) 64) 602 := rfl
  rw [e3]
  omega
theorem smd_rg (s k : Int) : 120 ≤ smd s k ∧ smd s k ≤ 280 := by
  have h := smr_rg (s := s) (k := k)
  unfold smd
  refine rad_range ⟨by omega, by omega, by omega, by omega, by omega, by omega⟩ (Int.emod_nonneg _ (by omega)) (Int.emod_lt_of_pos _ (by omega))
theorem smx_rg (s : Int) : ∀ k : Nat, 0 ≤ smx s k ∧ smx s k ≤ 280
  | 0 => ⟨Int.le_refl 0, (by decide : (0 : Int) ≤ 280)⟩
  | k + 1 => by
    have h := smx_rg s k
    have e := smx_step (s := s) (k := (k : Int)) (by omega)
    rw [show ((k : Int) + 1).toNat = k + 1 by omega, show (k : Int).toNat = k by omega] at e
    have hd := smd_rg s k
    rw [e]
    omega
set_option maxHeartbeats 1000000 in
theorem q_simulate (l : Launch) (hlf : l.stackTraces = false) (κ : gKap) (B n : Nat) (ad : Nat → Nat) (g : Nat → va_E) (HP : gHP) (nl : Int) (f F9 : Int → Int) (M9 : Int → Int × (Int → Int)) (sd9 : Int) (m9 : Int) (hnn : 192 ≤ n) (h : XI κ ad g HP nl f F9 M9) (hsd9 : inJ sd9) (hm9 : 1 ≤ m9 ∧ m9 ≤ 200) : Met l yX7_simulate wsX7_simulate ({ frames := 6, cells := 1, slots := 6, locals := 82 }) (gPreX κ B n ad g [.ref (ad 0), .long (jz sd9), .int (iz m9)]) (gQi κ B n ad (fun z g' => XI κ ad g' HP nl f F9 M9 ∧ frX n g g' ∧ 1000 ≤ z ∧ z ≤ 40000000)) 1 6 (gFree B) := by
  obtain ⟨tl, ns, old, cnt, m0, m1, v, vs, w0, w1, P9, hC, hS, hH⟩ := h
  have hC0 := hC
  have hS0 := hS
  obtain ⟨hX, hpl, hps, hhi, hF, hp0, hp1, hbn⟩ := hC
  obtain ⟨hok, s9, hiv, hivs, hol, hct, hinP, hi0, hi1, hF01, hs0, hs1⟩ := hS
  have hov : okPl nl v := hok.sim s9.symm
  have hv0 := hok.2.1
  have hv9 := s9.1
  refine nx_thr (c_X7_simulate l hlf κ B n ad g tl nl v sd9 m9 hnn hX hpl hov hbn hsd9 (by omega)) (fun E g9 q => q.2.1 hm9) (fun z g' q => ?_)
  obtain ⟨hb, hf, -, rfl⟩ := q
  refine ⟨⟨tl, ns, old, cnt, m0, m1, v, vs, w0, w1, P9, hC0.bench hb hf, hS0, hH⟩, fun k k0 _ => hf k (Or.inr (by omega)), ?_⟩
  have a1 := smx_rg sd9 m9.toNat
  have a2 := smd_rg sd9 0
  have a3 : 0 ≤ sma (v 0) sd9 0 ∧ sma (v 0) sd9 0 < v 0 := ⟨Int.emod_nonneg _ (by omega), Int.emod_lt_of_pos _ (by omega)⟩
  have a4 := cntS_ge1 (S := fun x y => ∃ j, 0 ≤ j ∧ j < m9 ∧ x = sma (v 0) sd9 j ∧ y = smd sd9 j) (a := sma (v 0) sd9 0) (r := smd sd9 0) (by omega) (by omega) ⟨0, by omega, by omega, rfl, rfl⟩
  have a5 := cntS_le (fun x y => ∃ j, 0 ≤ j ∧ j < m9 ∧ x = sma (v 0) sd9 j ∧ y = smd sd9 j)
  omega
set_option maxHeartbeats 1000000 in
theorem q_setRing (l : Launch) (hlf : l.stackTraces = false) (κ : gKap) (B n : Nat) (ad : Nat → Nat) (g : Nat → va_E) (HP : gHP) (nl : Int) (f F9 : Int → Int) (M9 : Int → Int × (Int → Int)) (te : Int) (hnn : 192 ≤ n) (h : XI κ ad g HP nl f F9 M9) (ht : 12 ≤ te ∧ te ≤ 96) : Met l yX7_setRing wsX7_setRing ({ frames := 6, cells := 1, slots := 6, locals := 94 }) (gPreX κ B n ad g [.ref (ad 0), .int (iz te)]) (gQi κ B n ad (fun z g' => XI κ ad g' (HPl nl f) nl (tkr nl f te) F9 M9 ∧ frX n g g' ∧ z = f 0)) 1 6 (gFree B) := by
  obtain ⟨tl, ns, old, cnt, m0, m1, v, vs, w0, w1, P9, hC, hS, hH⟩ := h
  have hC0 := hC
  have hS0 := hS
  obtain ⟨hX, hpl, hps, hhi, hF, hp0, hp1, hbn⟩ := hC
  obtain ⟨hok, s9, hiv, hivs, hol, hct, hinP, hi0, hi1, hF01, hs0, hs1⟩ := hS
  have hov : okPl nl v := hok.sim s9.symm
  have hv0 := hok.2.1
  refine nx_thr (c_X7_setRing l hlf κ B n ad g tl nl v old cnt P9 te hnn hX hpl hov hiv hhi hol hct hinP (by omega)) (fun E g9 q => q.2.1 ht) (fun z g' q => ?_)
  obtain ⟨-, rfl, hr, hp, hq⟩ := q
  exact ⟨hC0.act hS0 hr hp hq (hok.tk ht) s9.ctkr (hiv.tk ht), fun k k0 _ => hq k (by omega) (by omega), s9.1⟩
set_option maxHeartbeats 1000000 in
theorem q_addLayer (l : Launch) (hlf : l.stackTraces = false) (κ : gKap) (B n : Nat) (ad : Nat → Nat) (g : Nat → va_E) (HP : gHP) (nl : Int) (f F9 : Int → Int) (M9 : Int → Int × (Int → Int)) (qw : Int) (qs : Int) (qh : Int) (qt : Int) (hnn : 192 ≤ n) (h : XI κ ad g HP nl f F9 M9) (ha : (5 ≤ qw ∧ qw ≤ 60) ∧ (qs = 0 ∨ qs = 1) ∧ (0 ≤ qh ∧ qh ≤ 20) ∧ 0 ≤ qt ∧ qt < f 0) (hn6 : nl < 6) : Met l yX7_addLayer wsX7_addLayer ({ frames := 6, cells := 1, slots := 6, locals := 94 }) (gPreX κ B n ad g [.ref (ad 0), .int (iz qw), .int (iz qs), .int (iz qh), .int (iz qt)]) (gQi κ B n ad (fun z g' => XI κ ad g' (HPl nl f) (nl + 1) (v4 f nl qw qs qh qt) F9 M9 ∧ frX n g g' ∧ z = nl)) 1 6 (gFree B) := by
  obtain ⟨tl, ns, old, cnt, m0, m1, v, vs, w0, w1, P9, hC, hS, hH⟩ := h
  have hC0 := hC
  have hS0 := hS
  obtain ⟨hX, hpl, hps, hhi, hF, hp0, hp1, hbn⟩ := hC
  obtain ⟨hok, s9, hiv, hivs, hol, hct, hinP, hi0, hi1, hF01, hs0, hs1⟩ := hS
  have hov : okPl nl v := hok.sim s9.symm
  have hv0 := hok.2.1
  have hv9 := s9.1
  have hn0 := hok.1
  refine nx_thr (c_X7_addLayer l hlf κ B n ad g tl nl v old cnt P9 qw qs qh qt hnn hX hpl hov hiv hhi hol hct hinP (by omega) (by omega) (by omega) (by omega)) (fun E g9 q => q.elim (fun q => q.2.1 (by rw [hv9]; exact ha)) (fun q => absurd q.2.1.2 (by omega))) (fun z g' q => ?_)
  obtain ⟨-, hz, hr, hp, hq⟩ := q
  exact ⟨hC0.act hS0 hr hp hq (hok.put hn6 ⟨by omega, by omega, by omega, by omega, by omega, by omega⟩ ha.2.2.2) (s9.cv4 (by omega)) (hiv.v4 (by omega) (by omega) (by omega) (by omega)), fun k k0 _ => hq k (by omega) (by omega), hz⟩
set_option maxHeartbeats 1000000 in
theorem q_change (l : Launch) (hlf : l.stackTraces = false) (κ : gKap) (B n : Nat) (ad : Nat → Nat) (g : Nat → va_E) (HP : gHP) (nl : Int) (f F9 : Int → Int) (M9 : Int → Int × (Int → Int)) (li : Int) (wh : Int) (x9 : Int) (hnn : 192 ≤ n) (h : XI κ ad g HP nl f F9 M9) (hl : 0 ≤ li ∧ li < nl) (hc : (wh = 0 ∧ 5 ≤ x9 ∧ x9 ≤ 60) ∨ (wh = 1 ∧ (x9 = 0 ∨ x9 = 1)) ∨ (wh = 2 ∧ 0 ≤ x9 ∧ x9 ≤ 20) ∨ (wh = 3 ∧ 0 ≤ x9 ∧ x9 < f 0)) : Met l yX7_change wsX7_change ({ frames := 6, cells := 1, slots := 6, locals := 94 }) (gPreX κ B n ad g [.ref (ad 0), .int (iz li), .int (iz wh), .int (iz x9)]) (gQi κ B n ad (fun z g' => XI κ ad g' (HPl nl f) nl (vu f (4 * li + 1 + wh) x9) F9 M9 ∧ frX n g g' ∧ z = f (4 * li + 1 + wh))) 1 6 (gFree B) := by
  obtain ⟨tl, ns, old, cnt, m0, m1, v, vs, w0, w1, P9, hC, hS, hH⟩ := h
  have hC0 := hC
  have hS0 := hS
  obtain ⟨hX, hpl, hps, hhi, hF, hp0, hp1, hbn⟩ := hC
  obtain ⟨hok, s9, hiv, hivs, hol, hct, hinP, hi0, hi1, hF01, hs0, hs1⟩ := hS
  have hov : okPl nl v := hok.sim s9.symm
  have hv0 := hok.2.1
  have hv9 := s9.1
  have hn0 := hok.1
  have hx9 : inI x9 := by
    have := hok.2.1
    omega
  refine nx_thr (c_X7_change l hlf κ B n ad g tl nl v old cnt P9 li wh x9 hnn hX hpl hov hiv hhi hol hct hinP (by omega) (by omega) hx9) (fun E g9 q => q.elim (fun q => q.2.1 hl) (fun q => q.2.1.2 (by rw [hv9]; exact hc))) (fun z g' q => ?_)
  obtain ⟨-, rfl, hr, hp, hq⟩ := q
  exact ⟨hC0.act hS0 hr hp hq (hok.ch hl hc) (s9.cvu (by omega) (by omega)) (hiv.vu hx9), fun k k0 _ => hq k (by omega) (by omega), s9.2.2.1 _ (by omega) (by omega)⟩
set_option maxHeartbeats 1000000 in
theorem q_remove (l : Launch) (hlf : l.stackTraces = false) (κ : gKap) (B n : Nat) (ad : Nat → Nat) (g : Nat → va_E) (HP : gHP) (nl : Int) (f F9 : Int → Int) (M9 : Int → Int × (Int → Int)) (li : Int) (hnn : 192 ≤ n) (h : XI κ ad g HP nl f F9 M9) (hl : 0 ≤ li ∧ li < nl) : Met l yX7_remove wsX7_remove ({ frames := 6, cells := 1, slots := 6, locals := 94 }) (gPreX κ B n ad g [.ref (ad 0), .int (iz li)]) (gQi κ B n ad (fun z g' => XI κ ad g' (HPl nl f) (nl - 1) (drv nl f li) F9 M9 ∧ frX n g g' ∧ z = nl - 1)) 1 6 (gFree B) := by
  obtain ⟨tl, ns, old, cnt, m0, m1, v, vs, w0, w1, P9, hC, hS, hH⟩ := h
  have hC0 := hC
  have hS0 := hS
  obtain ⟨hX, hpl, hps, hhi, hF, hp0, hp1, hbn⟩ := hC
  obtain ⟨hok, s9, hiv, hivs, hol, hct, hinP, hi0, hi1, hF01, hs0, hs1⟩ := hS
  have hov : okPl nl v := hok.sim s9.symm
  have hv0 := hok.2.1
  have hn0 := hok.1
  refine nx_thr (c_X7_remove l hlf κ B n ad g tl nl v old cnt P9 li hnn hX hpl hov hiv hhi hol hct hinP (by omega)) (fun E g9 q => q.2.1 hl) (fun z g' q => ?_)
  obtain ⟨-, rfl, hr, hp, hq⟩ := q
  exact ⟨hC0.act hS0 hr hp hq (hok.dr hl) (s9.cdrv hl hn0.2) (hiv.dr hn0.2 hl.1), fun k k0 _ => hq k (by omega) (by omega), rfl⟩
set_option maxHeartbeats 1000000 in
theorem q_see (l : Launch) (hlf : l.stackTraces = false) (κ : gKap) (B n : Nat) (ad : Nat → Nat) (g : Nat → va_E) (HP : gHP) (nl : Int) (f F9 : Int → Int) (M9 : Int → Int × (Int → Int)) (an : Int) (ra : Int) (hnn : 192 ≤ n) (h : XI κ ad g HP nl f F9 M9) (ha : 0 ≤ an ∧ an < f 0) (hr9 : 0 ≤ ra ∧ ra ≤ 300) : Met l yX7_see wsX7_see ({ frames := 6, cells := 1, slots := 6, locals := 123 }) (gPreX κ B n ad g [.ref (ad 0), .int (iz an), .int (iz ra)]) (gQi κ B n ad (fun z g' => XI κ ad g' (HPl nl f) nl (ntv f an ra) F9 M9 ∧ frX n g g' ∧ z = fitN nl (ntv f an ra))) 1 6 (gFree B) := by
  obtain ⟨tl, ns, old, cnt, m0, m1, v, vs, w0, w1, P9, hC, hS, hH⟩ := h
  have hC0 := hC
  have hS0 := hS
  obtain ⟨hX, hpl, hps, hhi, hF, hp0, hp1, hbn⟩ := hC
  obtain ⟨hok, s9, hiv, hivs, hol, hct, hinP, hi0, hi1, hF01, hs0, hs1⟩ := hS
  have hov : okPl nl v := hok.sim s9.symm
  have hv0 := hok.2.1
  have hv9 := s9.1
  have hn0 := hok.1
  refine nx_thr (c_X7_see l hlf κ B n ad g tl nl v old cnt P9 an ra hnn hX hpl hov hiv hhi hol hct hinP (by omega) (by omega)) (fun E g9 q => q.2.1 (by rw [hv9]; exact ⟨ha, hr9⟩)) (fun z g' q => ?_)
  obtain ⟨-, rfl, hr, hp, hq⟩ := q
  have s8 := s9.cntv (a := an) (r := ra) hok.2.2.1 hn0.2
  exact ⟨hC0.act hS0 hr hp hq (hok.note9 ha hr9).1 s8 (hiv.ntv hov.2.2.1 (by omega) (by omega)), fun k k0 _ => hq k (by omega) (by omega), fitN_sim s8⟩
set_option maxHeartbeats 1000000 in
theorem q_forget (l : Launch) (hlf : l.stackTraces = false) (κ : gKap) (B n : Nat) (ad : Nat → Nat) (g : Nat → va_E) (HP : gHP) (nl : Int) (f F9 : Int → Int) (M9 : Int → Int × (Int → Int)) (hnn : 192 ≤ n) (h : XI κ ad g HP nl f F9 M9) : Met l yX7_forget wsX7_forget ({ frames := 4, cells := 0, slots := 0, locals := 94 }) (gPreX κ B n ad g [.ref (ad 0)]) (gQi κ B n ad (fun z g' => XI κ ad g' (HPl nl f) nl (vu f 25 0) F9 M9 ∧ frX n g g' ∧ z = f 25)) 0 0 (gFree B) := by
  obtain ⟨tl, ns, old, cnt, m0, m1, v, vs, w0, w1, P9, hC, hS, hH⟩ := h
  have hC0 := hC
  have hS0 := hS
  obtain ⟨hX, hpl, hps, hhi, hF, hp0, hp1, hbn⟩ := hC
  obtain ⟨hok, s9, hiv, hivs, hol, hct, hinP, hi0, hi1, hF01, hs0, hs1⟩ := hS
  have hov : okPl nl v := hok.sim s9.symm
  have hv0 := hok.2.1
  refine nx_pre (c_X7_forget l κ B n ad g tl nl v old cnt P9 hnn hX hpl hov hiv hhi hol hct hinP) (fun z g' q => ?_)
  obtain ⟨rfl, hr, hp, hq⟩ := q
  exact ⟨hC0.act hS0 hr hp hq (okPl.fg hok) s9.csee0 (hiv.vu (by omega)), fun k k0 _ => hq k (by omega) (by omega), s9.2.1⟩
set_option maxHeartbeats 1000000 in
theorem q_undo (l : Launch) (hlf : l.stackTraces = false) (κ : gKap) (B n : Nat) (ad : Nat → Nat) (g : Nat → va_E) (nl0 : Int) (f0 : Int → Int) (nl : Int) (f F9 : Int → Int) (M9 : Int → Int × (Int → Int)) (hnn : 192 ≤ n) (h : XI κ ad g (HPl nl0 f0) nl f F9 M9) : Met l yX7_undo wsX7_undo ({ frames := 6, cells := 1, slots := 6, locals := 94 }) (gPreX κ B n ad g [.ref (ad 0)]) (gQi κ B n ad (fun z g' => XI κ ad g' HP0 nl0 f0 F9 M9 ∧ frX n g g' ∧ -10 ≤ z ∧ z ≤ 20)) 1 6 (gFree B) := by
  obtain ⟨tl, ns, old, cnt, m0, m1, v, vs, w0, w1, P9, hC, hS, hH⟩ := h
  have hC0 := hC
  have hS0 := hS
  obtain ⟨hX, hpl, hps, hhi, hF, hp0, hp1, hbn⟩ := hC
  obtain ⟨hok, s9, hiv, hivs, hol, hct, hinP, hi0, hi1, hF01, hs0, hs1⟩ := hS
  have hov : okPl nl v := hok.sim s9.symm
  have hv0 := hok.2.1
  obtain ⟨e1, e2, e3, e4⟩ := hH
  refine nx_thr (c_X7_undo l hlf κ B n ad g tl nl v old cnt P9 hnn hX hpl hov hiv hhi hol hct hinP (fun _ => by rw [e2, e3.2.1]; exact ⟨e4.1, e4.2.2.1.1, e4.2.2.1.2⟩)) (fun E g9 q => absurd q.2.1 (by omega)) (fun z g' q => ?_)
  obtain ⟨-, rfl, U9, r1, r2, r3, r4, hq⟩ := q
  rw [e2] at r2 r3
  refine ⟨⟨tl, ns, old, cnt - 1, m0, m1, U9, vs, w0, w1, P9, ⟨hX.far (hq _ (by omega) (by omega)) (hq _ (by omega) (by omega)), r2, hps.far (fun q _ _ => hq q (by omega) (by omega)), r1, (hq _ (by omega) (by omega)).trans hF, hp0.far (fun q _ _ => hq q (by omega) (by omega)), hp1.far (fun q _ _ => hq q (by omega) (by omega)), hbn.far (fun q _ _ => hq q (by omega) (by omega))⟩, ⟨e4, r3.tr e3, r4, hivs, hol, by omega, hinP, hi0, hi1, hF01, hs0, hs1⟩, trivial⟩, fun k k0 _ => hq k (by omega) (by omega), by omega, by omega⟩
set_option maxHeartbeats 1000000 in
theorem q_save (l : Launch) (hlf : l.stackTraces = false) (κ : gKap) (B n : Nat) (ad : Nat → Nat) (g : Nat → va_E) (HP : gHP) (nl : Int) (f F9 : Int → Int) (M9 : Int → Int × (Int → Int)) (sl : Int) (hnn : 192 ≤ n) (h : XI κ ad g HP nl f F9 M9) (hsl : 0 ≤ sl ∧ sl < 2) : Met l yX7_save wsX7_save ({ frames := 6, cells := 1, slots := 6, locals := 82 }) (gPreX κ B n ad g [.ref (ad 0), .int (iz sl)]) (gQi κ B n ad (fun z g' => XI κ ad g' HP0 nl f (vu F9 sl 1) (fun i => if i = sl then (nl, f) else M9 i) ∧ frX n g g' ∧ z = nl)) 1 6 (gFree B) := by
  obtain ⟨tl, ns, old, cnt, m0, m1, v, vs, w0, w1, P9, hC, hS, hH⟩ := h
  have hC0 := hC
  have hS0 := hS
  obtain ⟨hX, hpl, hps, hhi, hF, hp0, hp1, hbn⟩ := hC
  obtain ⟨hok, s9, hiv, hivs, hol, hct, hinP, hi0, hi1, hF01, hs0, hs1⟩ := hS
  have hov : okPl nl v := hok.sim s9.symm
  have hv0 := hok.2.1
  refine nx_thr (c_X7_save l hlf κ B n ad g tl nl v F9 m0 w0 m1 w1 sl hnn hX hpl hov hiv hF hp0 hi0 hp1 hi1 (by omega)) (fun E g9 q => q.2.1 hsl) (fun z g' q => ?_)
  obtain ⟨-, hz, U9, r1, r2, r3, r4, hq⟩ := q
  have fr : frX n g g' := fun k k0 _ => hq k (by omega) (by omega)
  refine ⟨?_, fr, hz⟩
  have kF : ∀ i, 0 ≤ i → i < 2 → vu F9 sl 1 i = 0 ∨ vu F9 sl 1 i = 1 := fun i i0 i1 => by
    by_cases hi : i = sl
    · exact Or.inr (by rw [hi]; exact vu_self _ _ _)
    · rw [vu_ne hi]; exact hF01 i i0 i1
  have kC := fun (k : Nat) (hk : k ≠ 165) (hk2 : k < 166 ∨ 186 ≤ k) => hq k hk (by omega)
  rcases (show sl = 0 ∨ sl = 1 by omega) with rfl | rfl
  · refine ⟨tl, ns, old, cnt, nl, m1, v, vs, U9, w1, P9, ⟨hX.far (kC _ (by omega) (by omega)) (kC _ (by omega) (by omega)), hpl.far (fun q _ _ => kC q (by omega) (by omega)), hps.far (fun q _ _ => kC q (by omega) (by omega)), hhi.far (fun q _ _ => kC q (by omega) (by omega)), r4, r1, hp1.far (fun q _ _ => hq q (by omega) (by omega)), hbn.far (fun q _ _ => kC q (by omega) (by omega))⟩, ⟨hok, s9, hiv, hivs, hol, hct, hinP, r3, hi1, kF, fun _ => ⟨rfl, r2.tr s9, hok⟩, fun q => ?_⟩, trivial⟩
    rw [vu_ne (by decide)] at q
    exact hs1 q
  · refine ⟨tl, ns, old, cnt, m0, nl, v, vs, w0, U9, P9, ⟨hX.far (kC _ (by omega) (by omega)) (kC _ (by omega) (by omega)), hpl.far (fun q _ _ => kC q (by omega) (by omega)), hps.far (fun q _ _ => kC q (by omega) (by omega)), hhi.far (fun q _ _ => kC q (by omega) (by omega)), r4, hp0.far (fun q _ _ => hq q (by omega) (by omega)), r1, hbn.far (fun q _ _ => kC q (by omega) (by omega))⟩, ⟨hok, s9, hiv, hivs, hol, hct, hinP, hi0, r3, kF, fun q => ?_, fun _ => ⟨rfl, r2.tr s9, hok⟩⟩, trivial⟩
    rw [vu_ne (by decide)] at q
    exact hs0 q
theorem sc_rm1 {nl k : Int} {v : Int → Int} : cmOK 2 k 0 0 0 nl v ↔ k < nl := by
  unfold cmOK
  rw [if_neg (by decide), if_pos rfl]
  exact ⟨fun h => h.2.2, fun h => ⟨rfl, by decide, h⟩⟩
theorem sc_rm {nl k : Int} {v : Int → Int} (hn : 0 ≤ nl ∧ nl ≤ 6) (hk : 0 ≤ k ∧ k < 7) : rsF (scG 1 (20000 + 1000 * k)) 1 3 0 nl v = if k < nl then -9 else 0 := by
  have e0 : scG 1 (20000 + 1000 * k) 0 = 20000 + 1000 * k := by
    show (20000 + 1000 * k) / gu (1 - 1 - 0) % 100000 = 20000 + 1000 * k
    rw [show gu (1 - 1 - 0) = 1 from by decide, Int.ediv_one]
    omega
  have a1 : (20000 + 1000 * k) / 10000 % 10 = 2 := by omega
  have a2 : (20000 + 1000 * k) / 1000 % 10 = k := by omega
  have a3 : (20000 + 1000 * k) / 100 % 10 = 0 := by omega
  have a4 : (20000 + 1000 * k) / 10 % 10 = 0 := by omega
  have a5 : (20000 + 1000 * k) % 10 = 0 := by omega
  have hc : cmG (scG 1 (20000 + 1000 * k) 0) nl v ↔ k < nl := by
    rw [e0]
    unfold cmG
    rw [a1, a2, a3, a4, a5]
    exact sc_rm1
  by_cases h : k < nl
  · rw [if_pos h]
    have e1 := rsF_yes (G9 := scG 1 (20000 + 1000 * k)) (m9 := 1) (k := 0) (nl := nl) (v := v) (by omega) (by omega) (hc.mpr h)
    rw [show ((3 : Int) - 0).toNat = 3 from by decide] at e1
    rw [e1]
    exact rsF_end (by omega)
  · rw [if_neg h]
    have e1 := rsF_no (G9 := scG 1 (20000 + 1000 * k)) (m9 := 1) (k := 0) (nl := nl) (v := v) (by omega) (by omega) (fun q => h (hc.mp q))
    rw [show ((3 : Int) - 0).toNat = 3 from by decide] at e1
    exact e1
set_option maxHeartbeats 1000000 in
theorem q_runScript (l : Launch) (hlf : l.stackTraces = false) (κ : gKap) (B n : Nat) (ad : Nat → Nat) (g : Nat → va_E) (HP : gHP) (nl : Int) (f F9 : Int → Int) (M9 : Int → Int × (Int → Int)) (k9 : Int) (sc : Int) (hnn : 192 ≤ n) (h : XI κ ad g HP nl f F9 M9) (hk9 : 0 ≤ k9 ∧ k9 < 7) (hsc : sc = 20000 + 1000 * k9) : Met l yX7_runScript wsX7_runScript ({ frames := 6, cells := 3, slots := 15, locals := 148 }) (gPreX κ B n ad g [.ref (ad 0), .int (iz 1), .long (jz sc)]) (gQi κ B n ad (fun z g' => XI κ ad g' HP nl f F9 M9 ∧ frX n g g' ∧ z = if k9 < nl then -9 else 0)) 3 15 (gFree B) := by
  obtain ⟨tl, ns, old, cnt, m0, m1, v, vs, w0, w1, P9, hC, hS, hH⟩ := h
  have hC0 := hC
  have hS0 := hS
  obtain ⟨hX, hpl, hps, hhi, hF, hp0, hp1, hbn⟩ := hC
  obtain ⟨hok, s9, hiv, hivs, hol, hct, hinP, hi0, hi1, hF01, hs0, hs1⟩ := hS
  have hov : okPl nl v := hok.sim s9.symm
  have hv0 := hok.2.1
  subst hsc
  refine nx_thr (c_X7_runScript l hlf κ B n ad g tl nl v ns vs 1 (20000 + 1000 * k9) hnn hX hpl hov hiv hps hivs hbn (by omega) (by omega)) (fun E g9 q => q.2.1 ⟨by omega, by omega, by rw [show gu 1 = 100000 from by decide]; omega⟩) (fun z g' q => ?_)
  obtain ⟨-, U9, u1, u2, rfl, n9, V9, p1, p2, hb, hq⟩ := q
  refine ⟨⟨tl, n9, old, cnt, m0, m1, v, V9, w0, w1, P9, ⟨hX.far (hq _ (by omega) (by omega) (by omega)) (hq _ (by omega) (by omega) (by omega)), hpl.far (fun q _ _ => hq q (by omega) (by omega) (by omega)), p1, hhi.far (fun q _ _ => hq q (by omega) (by omega) (by omega)), (hq _ (by omega) (by omega) (by omega)).trans hF, hp0.far (fun q _ _ => hq q (by omega) (by omega) (by omega)), hp1.far (fun q _ _ => hq q (by omega) (by omega) (by omega)), hb⟩, ⟨hok, s9, hiv, p2, hol, hct, hinP, hi0, hi1, hF01, hs0, hs1⟩, hH⟩, fun k k0 k1 => hq k k1 (by omega) (by omega), ?_⟩
  exact sc_rm hok.1 hk9
