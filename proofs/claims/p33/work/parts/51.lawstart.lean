/-! THE LAW: what the start gives -/
theorem k_str {s : State} {A : Array Value} {cur : ClassId} (hc : s.vm.findClass RX7 = some cur) {k : Nat} {tx : String} (h : (Cond.stringRef RX7 k tx).before A s = true) : ∃ sa, vk_R RX7 k tx sa s := by
  obtain ⟨_, _, _, a, _, _, _, _, _, he⟩ := Cond.stringRef_spec hc h
  exact ⟨a, vk_R.of h he⟩
theorem k_arr {s : State} {A : Array Value} {t : FieldType} (h : (Cond.arrayClass t).before A s = true) (hr : ∀ cA, s.vm.findClass ("[" ++ t.toString) = some cA → va_RA s cA t) : ∃ cA, ArrOfT s cA t ∧ va_RA s cA t := by
  obtain ⟨c, k, comp, h1, h2, h3⟩ := Cond.arrayClass_spec h
  exact ⟨c, fun N z => ⟨(fun k h => by cases h), k, h2, comp, h3⟩, hr c h1⟩
theorem k_arq {s : State} {A : Array Value} {n : String} (h : (Cond.arrayOver (.object n)).before A s = true) : ∃ cA, ArrOfT s cA (.object n) ∧ va_RA s cA (.object n) := by
  obtain ⟨comp, c, k, h1, _, h2, h3, h4⟩ := Cond.arrayOver_spec h
  exact ⟨c, fun N z => ⟨(fun k h => by cases h), k, h2, comp, h3⟩, k, comp, h2, h3, h1, h4⟩
set_option maxRecDepth 20000 in
theorem k_ns : ∀ q ∈ gNs, Cond.methodLinkNest q.1 q.2.1 q.2.2 RX7 ∈ lw_tbl := by decide +kernel
set_option maxRecDepth 20000 in
theorem k_st : ∀ q ∈ gStr, Cond.stringRef RX7 q.1 q.2 ∈ lw_tbl := by decide +kernel
set_option maxRecDepth 20000 in
theorem k_ct : ∀ X ∈ gXs, Cond.castable X X ∈ lw_tbl := by decide +kernel
set_option maxRecDepth 20000 in
theorem k_dc : ∀ w ∈ gDs, w ∈ lw_tbl := by decide +kernel
set_option maxRecDepth 20000 in
theorem k_in0 : Cond.instantiable RX0 3 ∈ lw_tbl := by decide +kernel
set_option maxRecDepth 20000 in
theorem k_in1 : Cond.instantiable RX1 5 ∈ lw_tbl := by decide +kernel
set_option maxRecDepth 20000 in
theorem k_in2 : Cond.instantiable RX2 3 ∈ lw_tbl := by decide +kernel
set_option maxRecDepth 20000 in
theorem k_in3 : Cond.instantiable RX3 4 ∈ lw_tbl := by decide +kernel
set_option maxRecDepth 20000 in
theorem k_in4 : Cond.instantiable RX4 6 ∈ lw_tbl := by decide +kernel
set_option maxRecDepth 20000 in
theorem k_in5 : Cond.instantiable RX5 1 ∈ lw_tbl := by decide +kernel
set_option maxRecDepth 20000 in
theorem k_in7 : Cond.instantiable RX7 8 ∈ lw_tbl := by decide +kernel
set_option maxRecDepth 20000 in
theorem k_aint : Cond.arrayClass .int ∈ lw_tbl := by decide +kernel
set_option maxRecDepth 20000 in
theorem k_along : Cond.arrayClass .long ∈ lw_tbl := by decide +kernel
set_option maxRecDepth 20000 in
theorem k_achar : Cond.arrayClass .char ∈ lw_tbl := by decide +kernel
set_option maxRecDepth 20000 in
theorem k_aboolean : Cond.arrayClass .boolean ∈ lw_tbl := by decide +kernel
set_option maxRecDepth 20000 in
theorem k_oRX3 : Cond.arrayOver (.object RX3) ∈ lw_tbl := by decide +kernel
set_option maxRecDepth 20000 in
theorem k_oRX4 : Cond.arrayOver (.object RX4) ∈ lw_tbl := by decide +kernel
set_option maxRecDepth 20000 in
theorem k_z1 : Cond.laysStatic Bundle.tN "UNASSIGNED_STACK" Bundle.steD ∈ lw_tbl := by decide +kernel
set_option maxRecDepth 20000 in
theorem k_z2 : Cond.laysStatic Bundle.tN "SUPPRESSED_SENTINEL" Bundle.listD ∈ lw_tbl := by decide +kernel
set_option maxRecDepth 20000 in
theorem k_zi : Cond.initialized Bundle.tN ∈ lw_tbl := by decide +kernel
theorem law_kap {s : State} {A : Array Value} (hts : ∀ w ∈ lw_tbl, w.before A s = true) : ∃ κ : gKap, gK κ s ∧ ∃ cur, s.vm.findClass RX7 = some cur := by
  obtain ⟨c0, i0, k0⟩ := u_known hts wl_X0 (hts _ k_in0)
  obtain ⟨c1, i1, k1⟩ := u_known hts wl_X1 (hts _ k_in1)
  obtain ⟨c2, i2, k2⟩ := u_known hts wl_X2 (hts _ k_in2)
  obtain ⟨c3, i3, k3⟩ := u_known hts wl_X3 (hts _ k_in3)
  obtain ⟨c4, i4, k4⟩ := u_known hts wl_X4 (hts _ k_in4)
  obtain ⟨c5, i5, k5⟩ := u_known hts wl_X5 (hts _ k_in5)
  obtain ⟨c7, i7, k7⟩ := u_known hts wl_X7 (hts _ k_in7)
  obtain ⟨a0, r0⟩ := k_arr (hts _ k_aint) (fun _ h => h)
  obtain ⟨a1, r1⟩ := k_arr (hts _ k_along) (fun _ h => h)
  obtain ⟨a2, r2⟩ := k_arr (hts _ k_achar) (fun _ h => h)
  obtain ⟨a3, r3⟩ := k_arr (hts _ k_aboolean) (fun _ h => h)
  obtain ⟨a4, r4⟩ := k_arq (hts _ k_oRX3)
  obtain ⟨a5, r5⟩ := k_arq (hts _ k_oRX4)
  refine ⟨((fun i => if i = 0 then c0 else if i = 1 then c1 else if i = 2 then c2 else if i = 3 then c3 else if i = 4 then c4 else if i = 5 then c5 else if i = 6 then c5 else c7, fun i => if i = 0 then i0 else if i = 1 then i1 else if i = 2 then i2 else if i = 3 then i3 else if i = 4 then i4 else if i = 5 then i5 else if i = 6 then i5 else i7), fun i => if i = 0 then a0 else if i = 1 then a1 else if i = 2 then a2 else if i = 3 then a3 else if i = 4 then a4 else a5), ⟨⟨fun c q h => ?_, fun k q h => ?_⟩, fun q hq => va_Nw.of rfl (hts _ (k_ns q hq))⟩, c7, k7.2.1⟩
  · match c, h with
    | 0, h => cases h; exact k0
    | 1, h => cases h; exact k1
    | 2, h => cases h; exact k2
    | 3, h => cases h; exact k3
    | 4, h => cases h; exact k4
    | 5, h => cases h; exact k5
    | 6, h => cases h; exact k5
    | 7, h => cases h; exact k7
    | n + 8, h => exact absurd h (by intro h; cases h)
  · match k, h with
    | 0, h => cases h; exact r0
    | 1, h => cases h; exact r1
    | 2, h => cases h; exact r2
    | 3, h => cases h; exact r3
    | 4, h => cases h; exact r4
    | 5, h => cases h; exact r5
    | n + 6, h => exact absurd h (by intro h; cases h)
theorem law_gX {s : State} {A : Array Value} (hts : ∀ w ∈ lw_tbl, w.before A s = true) {cur : ClassId} (hc : s.vm.findClass RX7 = some cur) (hgv : (Jvm.Cond.and given_1 narrow_1).before A s = true) : gX s.heap.size s := by
  have hs := flat_of_before _ hgv
  refine ⟨⟨fun X hX => va_Nw.of rfl (hts _ (k_ct X hX)), List.forall_mem_cons.mpr ⟨va_Nw.of rfl (hts _ (k_dc _ (List.mem_of_getElem? (i := 0) rfl))), List.forall_mem_cons.mpr ⟨va_Nw.of rfl (hts _ (k_dc _ (List.mem_of_getElem? (i := 1) rfl))), List.forall_mem_cons.mpr ⟨va_Nw.of rfl (hts _ (k_dc _ (List.mem_of_getElem? (i := 2) rfl))), fun _ z => nomatch z⟩⟩⟩⟩, fun q hq => k_str hc (hts _ (k_st q hq)), ?_, ?_⟩
  · exact vx_Zqof (hts _ k_z1) (hts _ k_zi) (hs _ (by decide +kernel)) (fun a ha q => by have q2 : s.heap.size ≤ a := q; omega)
  · exact vx_Zqof (hts _ k_z2) (hts _ k_zi) (hs _ (by decide +kernel)) (fun a ha q => by have q2 : s.heap.size ≤ a := q; omega)
theorem law_AO {s : State} {A : Array Value} (hts : ∀ w ∈ lw_tbl, w.before A s = true) : gAO s := ⟨va_AO.of (hts _ k_oRX3), va_AO.of (hts _ k_oRX4)⟩
theorem XSc.grow {κ : gKap} {ad a9 : Nat → Nat} {g g' : Nat → va_E} {tl nl ns old cnt m0 m1 : Int} {v vs w0 w1 F9 : Int → Int} {P9 : Nat → Int × (Int → Int)} (h : XSc κ ad g tl nl ns old cnt m0 m1 v vs w0 w1 F9 P9) (hE : ∀ k, k < 192 → a9 k = ad k) (hq : ∀ q, q < 192 → g' q = g q) : XSc κ a9 g' tl nl ns old cnt m0 m1 v vs w0 w1 F9 P9 := by
  obtain ⟨⟨ha, hb⟩, h3, h4, h5, h6, h7, h8, h9⟩ := h
  have e : (fun j => if j < 2 then some (ad (166 + 10 * j)) else none) = (fun j : Nat => if j < 2 then some (a9 (166 + 10 * j)) else none) := by
    funext j
    by_cases hj : j < 2
    · rw [if_pos hj, if_pos hj, hE _ (by omega)]
    · rw [if_neg hj, if_neg hj]
  exact ⟨⟨by rw [hq 0 (by omega), ha, hE 1 (by omega), hE 2 (by omega), hE 12 (by omega), hE 22 (by omega), hE 164 (by omega), hE 165 (by omega), hE 186 (by omega)], by rw [hq 164 (by omega), hb, e]⟩, h3.grow (fun k hk => hE k (by omega)) (fun q _ _ => hq q (by omega)), h4.grow (fun k hk => hE k (by omega)) (fun q _ _ => hq q (by omega)), h5.grow (fun k hk => hE k (by omega)) (fun q _ _ => hq q (by omega)), (hq _ (by omega)).trans h6, h7.grow (fun k hk => hE k (by omega)) (fun q _ _ => hq q (by omega)), h8.grow (fun k hk => hE k (by omega)) (fun q _ _ => hq q (by omega)), h9.grow (fun k hk => hE k (by omega)) (fun q _ _ => hq q (by omega))⟩
theorem XI.grow {κ : gKap} {ad a9 : Nat → Nat} {g g' : Nat → va_E} {HP : gHP} {nl : Int} {f F9 : Int → Int} {M9 : Int → Int × (Int → Int)} (h : XI κ ad g HP nl f F9 M9) (hE : ∀ k, k < 192 → a9 k = ad k) (hq : ∀ q, q < 192 → g' q = g q) : XI κ a9 g' HP nl f F9 M9 := by
  obtain ⟨tl, ns, old, cnt, m0, m1, v, vs, w0, w1, P9, hC, hS, hH⟩ := h
  exact ⟨tl, ns, old, cnt, m0, m1, v, vs, w0, w1, P9, hC.grow hE hq, hS, hH⟩
theorem XI.new {κ : gKap} {ad : Nat → Nat} {g : Nat → va_E} (h : isX κ ad g 0 ∧ g 1 = aCh κ 100 (fun _ => 0) ∧ isPl κ ad g 2 0 v00 ∧ isPl κ ad g 12 0 v00 ∧ isHi κ ad g 22 0 0 (fun _ => (0, v00)) ∧ g 165 = aZ κ 2 (fun _ => 0) ∧ isPl κ ad g 166 0 v00 ∧ isPl κ ad g 176 0 v00 ∧ isBn κ ad g 186) : XI κ ad g HP0 0 v00 (fun _ => 0) (fun _ => (0, v00)) := by
  obtain ⟨h1, -, h3, h4, h5, h6, h7, h8, h9⟩ := h
  exact ⟨0, 0, 0, 0, 0, 0, v00, v00, v00, v00, fun _ => (0, v00), ⟨h1, h3, h4, h5, h6, h7, h8, h9⟩, ⟨v00_ok, sim.rf, v00_in, v00_in, by omega, by omega, fun _ _ => v00_in, v00_in, v00_in, fun _ _ _ => Or.inl rfl, fun q => absurd q (by decide), fun q => absurd q (by decide)⟩, trivial⟩
set_option maxRecDepth 20000 in
theorem nwL_7 : ∀ w ∈ u_ws RX7 TX7 8, w ∈ wsL_law := by decide +kernel
set_option maxRecDepth 20000 in
theorem ml_c7 : Cond.classLink RL 10 RX7 ∈ wsL_law := by decide +kernel
set_option maxRecDepth 20000 in
theorem ml_i7 : Cond.instantiable RX7 8 ∈ wsL_law := by decide +kernel
set_option maxRecDepth 20000 in
theorem ml_z7 : Cond.initialized RX7 ∈ wsL_law := by decide +kernel
set_option maxRecDepth 20000 in
theorem ml_m7 : Cond.methodLink RL 104 yX7_init ∈ wsL_law := by decide +kernel
set_option maxRecDepth 20000 in
theorem ml_y7 : Cond.instanceMethod yX7_init ∈ wsL_law := by decide +kernel
