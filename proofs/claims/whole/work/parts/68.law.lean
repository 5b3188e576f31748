/-! THE LAW: from its entry to its end -/
theorem k_str {s : State} {A : Array Value} {cur : ClassId} (hc : s.vm.findClass RX7 = some cur) {k : Nat} {tx : String} (h : (Cond.stringRef RX7 k tx).before A s = true) : ∃ sa, vk_R RX7 k tx sa s := by
  obtain ⟨_, _, _, a, _, _, _, _, _, he⟩ := Cond.stringRef_spec hc h
  exact ⟨a, vk_R.of h he⟩
theorem k_arr {s : State} {A : Array Value} {t : FieldType} (h : (Cond.arrayClass t).before A s = true) (hr : ∀ cA, s.vm.findClass ("[" ++ t.toString) = some cA → va_RA s cA t) : ∃ cA, ArrOfT s cA t ∧ va_RA s cA t := by
  obtain ⟨c, k, comp, h1, h2, h3⟩ := Cond.arrayClass_spec h
  exact ⟨c, fun N z => ⟨(fun k h => by cases h), k, h2, comp, h3⟩, hr c h1⟩
theorem k_arq {s : State} {A : Array Value} {n : String} (h : (Cond.arrayOver (.object n)).before A s = true) : ∃ cA, ArrOfT s cA (.object n) ∧ va_RA s cA (.object n) := by
  obtain ⟨comp, c, k, h1, _, h2, h3, h4⟩ := Cond.arrayOver_spec h
  exact ⟨c, fun N z => ⟨(fun k h => by cases h), k, h2, comp, h3⟩, k, comp, h2, h3, h1, h4⟩
set_option maxRecDepth 20000 in
theorem k_ns : ∀ q ∈ gNs, Cond.methodLinkNest q.1 q.2.1 q.2.2 RX7 ∈ lw_tbl := by decide +kernel
set_option maxRecDepth 20000 in
theorem k_st : ∀ q ∈ gStr, Cond.stringRef RX7 q.1 q.2 ∈ lw_tbl := by decide +kernel
set_option maxRecDepth 20000 in
theorem k_ct : ∀ X ∈ gXs, Cond.castable X X ∈ lw_tbl := by decide +kernel
set_option maxRecDepth 20000 in
theorem k_dc : ∀ w ∈ gDs, w ∈ lw_tbl := by decide +kernel
set_option maxRecDepth 20000 in
theorem k_in0 : Cond.instantiable RX0 3 ∈ lw_tbl := by decide +kernel
set_option maxRecDepth 20000 in
theorem k_in1 : Cond.instantiable RX1 5 ∈ lw_tbl := by decide +kernel
set_option maxRecDepth 20000 in
theorem k_in2 : Cond.instantiable RX2 3 ∈ lw_tbl := by decide +kernel
set_option maxRecDepth 20000 in
theorem k_in3 : Cond.instantiable RX3 4 ∈ lw_tbl := by decide +kernel
set_option maxRecDepth 20000 in
theorem k_in4 : Cond.instantiable RX4 6 ∈ lw_tbl := by decide +kernel
set_option maxRecDepth 20000 in
theorem k_in5 : Cond.instantiable RX5 1 ∈ lw_tbl := by decide +kernel
set_option maxRecDepth 20000 in
theorem k_in6 : Cond.instantiable RX6 3 ∈ lw_tbl := by decide +kernel
set_option maxRecDepth 20000 in
theorem k_in7 : Cond.instantiable RX7 8 ∈ lw_tbl := by decide +kernel
set_option maxRecDepth 20000 in
theorem k_in8 : Cond.instantiable RX8 17 ∈ lw_tbl := by decide +kernel
set_option maxRecDepth 20000 in
theorem k_aint : Cond.arrayClass .int ∈ lw_tbl := by decide +kernel
set_option maxRecDepth 20000 in
theorem k_along : Cond.arrayClass .long ∈ lw_tbl := by decide +kernel
set_option maxRecDepth 20000 in
theorem k_achar : Cond.arrayClass .char ∈ lw_tbl := by decide +kernel
set_option maxRecDepth 20000 in
theorem k_aboolean : Cond.arrayClass .boolean ∈ lw_tbl := by decide +kernel
set_option maxRecDepth 20000 in
theorem k_oRX3 : Cond.arrayOver (.object RX3) ∈ lw_tbl := by decide +kernel
set_option maxRecDepth 20000 in
theorem k_oRX4 : Cond.arrayOver (.object RX4) ∈ lw_tbl := by decide +kernel
set_option maxRecDepth 20000 in
theorem k_z1 : Cond.laysStatic Bundle.tN "UNASSIGNED_STACK" Bundle.steD ∈ lw_tbl := by decide +kernel
set_option maxRecDepth 20000 in
theorem k_z2 : Cond.laysStatic Bundle.tN "SUPPRESSED_SENTINEL" Bundle.listD ∈ lw_tbl := by decide +kernel
set_option maxRecDepth 20000 in
theorem k_zi : Cond.initialized Bundle.tN ∈ lw_tbl := by decide +kernel
theorem law_kap {s : State} {A : Array Value} (hts : ∀ w ∈ lw_tbl, w.before A s = true) : ∃ κ : gKap, gK κ s ∧ ∃ cur, s.vm.findClass RX7 = some cur := by
  obtain ⟨c0, i0, k0⟩ := u_known hts wl_X0 (hts _ k_in0)
  obtain ⟨c1, i1, k1⟩ := u_known hts wl_X1 (hts _ k_in1)
  obtain ⟨c2, i2, k2⟩ := u_known hts wl_X2 (hts _ k_in2)
  obtain ⟨c3, i3, k3⟩ := u_known hts wl_X3 (hts _ k_in3)
  obtain ⟨c4, i4, k4⟩ := u_known hts wl_X4 (hts _ k_in4)
  obtain ⟨c5, i5, k5⟩ := u_known hts wl_X5 (hts _ k_in5)
  obtain ⟨c6, i6, k6⟩ := u_known hts wl_X6 (hts _ k_in6)
  obtain ⟨c7, i7, k7⟩ := u_known hts wl_X7 (hts _ k_in7)
  obtain ⟨c8, i8, k8⟩ := u_known hts wl_X8 (hts _ k_in8)
  obtain ⟨a0, r0⟩ := k_arr (hts _ k_aint) (fun _ h => h)
  obtain ⟨a1, r1⟩ := k_arr (hts _ k_along) (fun _ h => h)
  obtain ⟨a2, r2⟩ := k_arr (hts _ k_achar) (fun _ h => h)
  obtain ⟨a3, r3⟩ := k_arr (hts _ k_aboolean) (fun _ h => h)
  obtain ⟨a4, r4⟩ := k_arq (hts _ k_oRX3)
  obtain ⟨a5, r5⟩ := k_arq (hts _ k_oRX4)
  refine ⟨((fun i => if i = 0 then c0 else if i = 1 then c1 else if i = 2 then c2 else if i = 3 then c3 else if i = 4 then c4 else if i = 5 then c5 else if i = 6 then c6 else if i = 7 then c7 else c8, fun i => if i = 0 then i0 else if i = 1 then i1 else if i = 2 then i2 else if i = 3 then i3 else if i = 4 then i4 else if i = 5 then i5 else if i = 6 then i6 else if i = 7 then i7 else i8), fun i => if i = 0 then a0 else if i = 1 then a1 else if i = 2 then a2 else if i = 3 then a3 else if i = 4 then a4 else a5), ⟨⟨fun c q h => ?_, fun k q h => ?_⟩, fun q hq => va_Nw.of rfl (hts _ (k_ns q hq))⟩, c7, k7.2.1⟩
  · match c, h with
    | 0, h => cases h; exact k0
    | 1, h => cases h; exact k1
    | 2, h => cases h; exact k2
    | 3, h => cases h; exact k3
    | 4, h => cases h; exact k4
    | 5, h => cases h; exact k5
    | 6, h => cases h; exact k6
    | 7, h => cases h; exact k7
    | 8, h => cases h; exact k8
    | n + 9, h => exact absurd h (by intro h; cases h)
  · match k, h with
    | 0, h => cases h; exact r0
    | 1, h => cases h; exact r1
    | 2, h => cases h; exact r2
    | 3, h => cases h; exact r3
    | 4, h => cases h; exact r4
    | 5, h => cases h; exact r5
    | n + 6, h => exact absurd h (by intro h; cases h)
theorem law_gX {s : State} {A : Array Value} (hts : ∀ w ∈ lw_tbl, w.before A s = true) {cur : ClassId} (hc : s.vm.findClass RX7 = some cur) (hgv : (Jvm.Cond.and given_1 narrow_1).before A s = true) : gX s.heap.size s := by
  have hs := flat_of_before _ hgv
  refine ⟨⟨fun X hX => va_Nw.of rfl (hts _ (k_ct X hX)), List.forall_mem_cons.mpr ⟨va_Nw.of rfl (hts _ (k_dc _ (List.mem_of_getElem? (i := 0) rfl))), List.forall_mem_cons.mpr ⟨va_Nw.of rfl (hts _ (k_dc _ (List.mem_of_getElem? (i := 1) rfl))), List.forall_mem_cons.mpr ⟨va_Nw.of rfl (hts _ (k_dc _ (List.mem_of_getElem? (i := 2) rfl))), fun _ z => nomatch z⟩⟩⟩⟩, fun q hq => k_str hc (hts _ (k_st q hq)), ?_, ?_⟩
  · exact vx_Zqof (hts _ k_z1) (hts _ k_zi) (hs _ (by decide +kernel)) (fun a ha q => by have q2 : s.heap.size ≤ a := q; omega)
  · exact vx_Zqof (hts _ k_z2) (hts _ k_zi) (hs _ (by decide +kernel)) (fun a ha q => by have q2 : s.heap.size ≤ a := q; omega)
set_option maxRecDepth 20000 in
theorem law_nc {s : State} {A : Array Value} (hgv : (Jvm.Cond.and given_1 narrow_1).before A s = true) : gNc s := by
  have hs := flat_of_before _ hgv
  have key : ∀ E ∈ gXs, ∀ nm ∈ gXs, E ≠ nm → Cond.not (.castable E nm) ∈ flatC (Jvm.Cond.and given_1 narrow_1) := by decide +kernel
  exact fun E hE nm hn hne => va_Nc.of (hs _ (key E hE nm hn hne))
theorem law_AO {s : State} {A : Array Value} (hts : ∀ w ∈ lw_tbl, w.before A s = true) : gAO s := ⟨va_AO.of (hts _ k_oRX3), va_AO.of (hts _ k_oRX4)⟩
theorem LSc.grow {κ : gKap} {ad a9 : Nat → Nat} {g g' : Nat → va_E} {tl nl ns old cnt m0 m1 : Int} {T9 v vs w0 w1 F9 : Int → Int} {P9 : Nat → Int × (Int → Int)} (h : LSc κ ad g tl nl ns old cnt m0 m1 T9 v vs w0 w1 F9 P9) (hE : ∀ k, k < 192 → a9 k = ad k) (hq : ∀ q, q < 192 → g' q = g q) : LSc κ a9 g' tl nl ns old cnt m0 m1 T9 v vs w0 w1 F9 P9 := by
  obtain ⟨⟨ha, hb⟩, h2, h3, h4, h5, h6, h7, h8, h9⟩ := h
  have e : (fun j => if j < 2 then some (ad (166 + 10 * j)) else none) = (fun j : Nat => if j < 2 then some (a9 (166 + 10 * j)) else none) := by
    funext j
    by_cases hj : j < 2
    · rw [if_pos hj, if_pos hj, hE _ (by omega)]
    · rw [if_neg hj, if_neg hj]
  exact ⟨⟨by rw [hq 0 (by omega), ha, hE 1 (by omega), hE 2 (by omega), hE 12 (by omega), hE 22 (by omega), hE 164 (by omega), hE 165 (by omega), hE 186 (by omega)], by rw [hq 164 (by omega), hb, e]⟩, (hq _ (by omega)).trans h2, h3.grow (fun k hk => hE k (by omega)) (fun q _ _ => hq q (by omega)), h4.grow (fun k hk => hE k (by omega)) (fun q _ _ => hq q (by omega)), h5.grow (fun k hk => hE k (by omega)) (fun q _ _ => hq q (by omega)), (hq _ (by omega)).trans h6, h7.grow (fun k hk => hE k (by omega)) (fun q _ _ => hq q (by omega)), h8.grow (fun k hk => hE k (by omega)) (fun q _ _ => hq q (by omega)), h9.grow (fun k hk => hE k (by omega)) (fun q _ _ => hq q (by omega))⟩
theorem k_sim : sim 0 v00 (vu (fun _ => 0) 0 24) := by
  have e25 : vu (fun _ => 0) 0 24 25 = 0 := by decide
  refine ⟨by decide, by decide, fun i i0 i1 => absurd i1 (by omega), fun i i0 i1 => ?_⟩
  rw [e25] at i1
  omega
theorem k_ok : okPl 0 (vu (fun _ => 0) 0 24) := v00_ok.sim k_sim
theorem k_zin : inV (fun _ => 0) := fun i _ _ => (by decide : inI 0)
set_option maxRecDepth 20000 in
theorem nwL_7 : ∀ w ∈ u_ws RX7 TX7 8, w ∈ wsL_law := by decide +kernel
set_option maxRecDepth 20000 in
theorem nwL_8 : ∀ w ∈ u_ws RX8 TX8 17, w ∈ wsL_law := by decide +kernel
set_option maxRecDepth 20000 in
theorem ml_c7 : Cond.classLink RL 8 RX7 ∈ wsL_law := by decide +kernel
set_option maxRecDepth 20000 in
theorem ml_i7 : Cond.instantiable RX7 8 ∈ wsL_law := by decide +kernel
set_option maxRecDepth 20000 in
theorem ml_z7 : Cond.initialized RX7 ∈ wsL_law := by decide +kernel
set_option maxRecDepth 20000 in
theorem ml_m7 : Cond.methodLink RL 97 yX7_init ∈ wsL_law := by decide +kernel
set_option maxRecDepth 20000 in
theorem ml_y7 : Cond.instanceMethod yX7_init ∈ wsL_law := by decide +kernel
set_option maxRecDepth 20000 in
theorem ml_c8 : Cond.classLink RL 98 RX8 ∈ wsL_law := by decide +kernel
set_option maxRecDepth 20000 in
theorem ml_i8 : Cond.instantiable RX8 17 ∈ wsL_law := by decide +kernel
set_option maxRecDepth 20000 in
theorem ml_z8 : Cond.initialized RX8 ∈ wsL_law := by decide +kernel
set_option maxRecDepth 20000 in
theorem ml_m8 : Cond.methodLink RL 100 yX8_init ∈ wsL_law := by decide +kernel
set_option maxRecDepth 20000 in
theorem ml_y8 : Cond.instanceMethod yX8_init ∈ wsL_law := by decide +kernel
set_option maxRecDepth 20000 in
theorem ml_al : Cond.arrayClass .long ∈ wsL_law := by decide +kernel
/-! THE CLAIM OUT OF ONE WALK OF THE LAW'S BODY. Your part is whole_start (and what it stands on); all else here is the same for every law, but numbers. -/
def R_law : String := "RosettePlateLaw"
def lw_P (b : Addr) (xs : List Int32) (args : Array Value) (s : State) : Prop := args = #[.ref b] ∧ s.IntsAt b xs ∧ xs.length ≤ 2560 ∧ (Jvm.Cond.and given_1 narrow_1).before args s = true
def lw_Q (_ : Array Value) (s : State) (o : Outcome) (t : State) : Prop := o = .returned (some (.int 1)) ∧ Framed s o t [] 601024 7293034
def lw_Z (below : List Frame) (a : Array Value) (s : State) : State → Prop := fun t => ∃ o, t.status = .running ∧ Ended t below o ∧ lw_Q a s o t
/-- the law's own end, with 1 on the stack, nothing written that was there before, its room as the claim has it -/
theorem lw_ret {p : Program} {l : Launch} {e : Env} {s : State} {m : MethodId} {below : List Frame} {meth : Method} {c : Code} {b : Nat} (hx : p.tables.exec = Jvm.exec) (hb : c.code = code) (hr : meth.sig.returnType = ret) (hlocks : meth.locks = false) {pc : Nat} {H : Heap} {ls : Array Slot} (hdg : decode code pc = .ok (.ireturn, 1)) : W p l e room_1 s m #[Value.ref b] below meth c H [] 601024 7293034 (lw_Z below #[Value.ref b] s) (F0 m pc ls [.int 1]) := by
  intro T hT X
  obtain ⟨fs, hret, hrun, hended, hW, hframe⟩ := X.leave (v := some (.int 1)) (hlocks := hlocks) (fun h => by rw [hr] at h; cases h)
  have hmeth' : T.vm.method? m = some meth := X.method'
  refine ⟨T.setFrames fs, ?_, .returned (some (.int 1)), hrun, hended, rfl, ⟨_, rfl⟩, hW, hframe⟩
  jvm_step X.here [X.here.top, hx, hb, hdg, hmeth', hr, ret, narrow_b1]
  (try refine ⟨rfl, ?_⟩); (try refine ⟨rfl, ?_⟩)
  first | (intro acts; rw [hret _ acts rfl rfl rfl]) | rw [hret _ _ rfl rfl rfl]
  exact Steps.refl _
/-- what holds at the law's entry: the machine, the code, the tables' words (any of lw_tbl by 'hts w (by decide +kernel)'), the script of L ints xs at the cell b, what the Statement gives of the start (any of its parts by flat_of_before) -/
def lw_At (p : Program) (s : State) (m : MethodId) (meth : Method) (c : Code) (b L : Nat) (xs : Nat → Int32) : Prop :=
  p.tables.exec = Jvm.exec ∧ c.code = code ∧ meth.sig.returnType = ret ∧ c.maxLocals = 7 ∧ s.vm.findClass R_law = some m.cls ∧ (∀ w ∈ lw_tbl, w.before #[Value.ref b] s = true) ∧ va_X b L xs s s.heap ∧ b < s.heap.size ∧ meth.locks = false ∧ (Jvm.Cond.and given_1 narrow_1).before #[Value.ref b] s = true
set_option maxHeartbeats 4000000 in
set_option maxRecDepth 100000 in
theorem law_body {p : Program} {l : Launch} {e : Env} {s : State} {m : MethodId} {below : List Frame} {meth : Method} {c : Code} {b L : Nat} {xs : Nat → Int32} {κ : gKap} (hlf : l.stackTraces = false) (C : gC p c cL_law 7 s m #[Value.ref b] wsL_law RL κ s.heap.size 0 (fun _ => 0)) (hx : p.tables.exec = Jvm.exec) (hcode : c.code = code) (hr : meth.sig.returnType = ret) (hlk : meth.locks = false) (X : gX s.heap.size s) (N9 : gNc s) (AO : gAO s) (hXs : va_X b L xs s s.heap) (hbl : b < s.heap.size) (hL : L ≤ 2560) {ls : Array Slot} (hl : lv_has ls 7 [(0, .ref b)]) : W p l e room_1 s m #[Value.ref b] below meth c s.heap [] 0 0 (lw_Z below #[Value.ref b] s) (F0 m 0 ls []) := by
  have G : gG κ s.heap.size 0 (fun _ => 0) s (fun _ => .inr (0, [])) s.heap [] := ⟨fun k q hq => absurd hq (by intro h; simp [gW] at h), va_S.rf⟩
  refine g_new C G (n := 0) (fs := [.null, .int (iz 0), .null, .null, .null, .null, .null, .null]) (ty := tyX7) (rfl : vwCl[7]? = some (RX7, TX7, 8)) nwL_7 tyX7_ok ml_c7 ml_i7 ml_z7 (fun j hj => by rcases j with _ | _ | _ | _ | _ | _ | _ | _ | j <;> first | rfl | omega) (Nat.le_of_ble_eq_true rfl) (Nat.le_of_ble_eq_true rfl) dL_law_0 (fun (ad_1 : Nat → Nat) H hE_1 C G => ?_)
  refine lv_dup C.1.1 C.1.2.1 dL_law_3 rfl ?_
  refine g_cvG (n' := 192) C G (g_runIA (As := []) (rest := [.ref (ad_1 0)]) (pos := 0) C G AO (c_X7_init l κ s.heap.size ad_1 _ (gu_self _ _ _)) (cwI 0 C.1.2.2.2.2 gL_law_X7_init rfl rfl rfl (C.1.2.2.2.2 _ ml_z7) (C.1.2.2.2.2 _ ml_m7) (C.1.2.2.2.2 _ ml_y7) rfl (by decide +kernel) ⟨Nat.le_of_ble_eq_true rfl, Nat.le_of_ble_eq_true rfl⟩) rfl hl rfl (Nat.le_of_ble_eq_true rfl) dL_law_4 ⟨Nat.le_of_ble_eq_true rfl, Nat.le_of_ble_eq_true rfl⟩) (fun ad_2 g_2 H locs hE_2 hw_2 C G => ?_)
  rw [← hE_2 0 (by omega)]
  obtain ⟨w1, w2, w3, w4, w5, w6, w7, w8, w9⟩ := hw_2
  refine lv_astore_n (lv' := [(1, .ref (ad_2 0)), (0, .ref b)]) C.1.1 C.1.2.1 dL_law_7 rfl hl (by decide) rfl (fun ls hl => ?_)
  have hS2 : LSc κ ad_2 g_2 0 0 0 0 0 0 0 (fun _ => 0) v00 v00 v00 v00 (fun _ => 0) (fun _ => (0, v00)) := ⟨w1, w2, w3, w4, w5, w6, w7, w8, w9⟩
  refine g_new C G (n := 192) (fs := [.null, .int (iz 0), .int (iz 0), .null, .int (iz 0), .null, .int (iz 0), .null, .int (iz 0), .int (iz 0), .int (iz 0), .int (iz 0), .int (iz 0), .null, .int (iz 0), .null, .null]) (ty := tyX8) (rfl : vwCl[8]? = some (RX8, TX8, 17)) nwL_8 tyX8_ok ml_c8 ml_i8 ml_z8 (fun j hj => by rcases j with _ | _ | _ | _ | _ | _ | _ | _ | _ | _ | _ | _ | _ | _ | _ | _ | _ | j <;> first | rfl | omega) (Nat.le_of_ble_eq_true rfl) (Nat.le_of_ble_eq_true rfl) dL_law_8 (fun (ad_3 : Nat → Nat) H hE_3 C G => ?_)
  have hS3 := hS2.grow hE_3 (g' := va_up g_2 192 (.inr (8, [.null, .int (iz 0), .int (iz 0), .null, .int (iz 0), .null, .int (iz 0), .null, .int (iz 0), .int (iz 0), .int (iz 0), .int (iz 0), .int (iz 0), .null, .int (iz 0), .null, .null]))) (fun q hq => gu_ne (by omega))
  rw [← hE_3 0 (by omega)] at hl
  refine lv_dup C.1.1 C.1.2.1 dL_law_11 rfl ?_
  refine g_cvG (n' := 200) C G (g_runIA (As := []) (rest := [.ref (ad_3 192)]) (pos := 192) C G AO (c_X8_init l κ s.heap.size ad_3 _ (gu_self _ _ _)) (cwI 0 C.1.2.2.2.2 gL_law_X8_init rfl rfl rfl (C.1.2.2.2.2 _ ml_z8) (C.1.2.2.2.2 _ ml_m8) (C.1.2.2.2.2 _ ml_y8) rfl (by decide +kernel) ⟨Nat.le_of_ble_eq_true rfl, Nat.le_of_ble_eq_true rfl⟩) rfl hl rfl (Nat.le_of_ble_eq_true rfl) dL_law_12 ⟨Nat.le_of_ble_eq_true rfl, Nat.le_of_ble_eq_true rfl⟩) (fun ad_4 g_4 H locs hE_4 hw_4 C G => ?_)
  rw [← hE_4 192 (by omega)]
  rw [← hE_4 0 (by omega)] at hl
  obtain ⟨u1, u2, u3, u4, u5, u6, u7, u8, u9⟩ := hw_4
  have hS4 := hS3.grow (a9 := ad_4) (g' := g_4) (fun k hk => hE_4 k (by omega)) u9
  refine lv_astore_n (lv' := [(2, .ref (ad_4 192)), (1, .ref (ad_4 0)), (0, .ref b)]) C.1.1 C.1.2.1 dL_law_15 rfl hl (by decide) rfl (fun ls hl => ?_)
  refine g_iconst (a := 1) C dL_law_16 rfl ?_
  refine g_newJ C G (n := 200) 1 rfl (Nat.le_of_ble_eq_true rfl) ml_al (Nat.le_of_ble_eq_true rfl) (Nat.le_of_ble_eq_true rfl) dL_law_17 (fun (ad_5 : Nat → Nat) H hE_5 C G => ?_)
  rw [← hE_5 0 (by omega), ← hE_5 192 (by omega)] at hl
  generalize hg_5 : va_up g_4 200 _ = g_5 at G
  have ho : g_5 200 = aJ κ 1 (fun i => lN ((fun _ => 0) i)) := by rw [← hg_5]; exact gu_self _ _ _
  have hq5 : ∀ q, q < 200 → g_5 q = g_4 q := fun q hq => by rw [← hg_5]; exact gu_ne (by omega)
  have hS5 := hS4.grow (a9 := ad_5) (g' := g_5) (fun k hk => hE_5 k (by omega)) (fun q hq => hq5 q (by omega))
  have hJ : jkM κ ad_5 g_5 0 0 0 0 0 0 0 (vu (fun _ => 0) 0 24) (fun _ => 0) (fun _ => 0) (fun _ => 0) := by
    refine ⟨0, 0, 0, 0, fun _ => 0, fun _ => 0, fun _ => 0, ?_, (hq5 _ (by omega)).trans u2, (hq5 _ (by omega)).trans u3, (hq5 _ (by omega)).trans u4, (hq5 _ (by omega)).trans u5, (hq5 _ (by omega)).trans u6, (hq5 _ (by omega)).trans u7, (hq5 _ (by omega)).trans u8, ⟨by omega, by omega⟩, fun i _ _ => ⟨Int.le_refl 0, Int.le_refl 0⟩, k_zin⟩
    rw [hq5 192 (by omega), u1]
    unfold oM
    rw [hE_5 193 (by omega), hE_5 194 (by omega), hE_5 195 (by omega), hE_5 196 (by omega), hE_5 197 (by omega), hE_5 198 (by omega), hE_5 199 (by omega)]
  have hP : LSp 0 0 0 0 0 0 0 0 (fun _ => 0) v00 v00 (vu (fun _ => 0) 0 24) v00 v00 (fun _ => 0) (fun _ => 0) (fun _ => 0) (fun _ => (0, v00)) := ⟨⟨by omega, by omega⟩, fun i _ _ => (by decide : (0 : Int) ≤ 0 ∧ (0 : Int) ≤ 255), k_ok, k_sim, v00_in, v00_in, ⟨by omega, by omega⟩, ⟨by omega, by omega⟩, fun _ _ => v00_in, hsR.none, v00_in, v00_in, ⟨Or.inl rfl, Or.inl rfl⟩, ⟨rfl, rfl⟩, fun q => absurd q (by decide), fun q => absurd q (by decide)⟩
  have hI : LI κ ad_5 g_5 0 (1000 * ((0 : Nat) : Int)) := ⟨0, 0, 0, 0, 0, 0, 0, 0, 0, fun _ => 0, v00, v00, vu (fun _ => 0) 0 24, v00, v00, fun _ => 0, fun _ => 0, fun _ => 0, fun _ => (0, v00), hS5, hP, hJ⟩
  refine lv_astore_n (lv' := [(3, .ref (ad_5 200)), (2, .ref (ad_5 192)), (1, .ref (ad_5 0)), (0, .ref b)]) C.1.1 C.1.2.1 dL_law_19 rfl hl (by decide) rfl (fun ls hl => ?_)
  refine g_iconst (a := 0) C dL_law_20 rfl ?_
  refine lv_istore (lv' := [(4, .int (iz 0)), (3, .ref (ad_5 200)), (2, .ref (ad_5 192)), (1, .ref (ad_5 0)), (0, .ref b)]) C.1.1 C.1.2.1 dL_law_21 hl (by decide) rfl (fun ls hl => ?_)
  refine W.widen (k := 210 + 3 * 0) (n := 33000 + 15 * 0) (Nat.le_of_ble_eq_true rfl) (Nat.le_of_ble_eq_true rfl) ?_
  refine law_loop hlf C X N9 hXs hbl rfl hL (fun g H locs ls G => ?_) 513 0 g_5 0 H locs ls (by omega) (by omega) hI ⟨_, ho⟩ G (lv_sub hl [0, 4, 3, 2, 1] rfl)
  refine g_iconst (a := 1) C dL_law_1956 rfl ?_
  refine va_forget (fun q hq => G.2.2.2 q hq) (W.widen (k := 601024) (n := 7293034) (by omega) (by omega) ?_)
  rw [show iz 1 = 1 from by decide]
  exact lw_ret hx hcode hr hlk dL_law_1957
theorem whole_start {p : Program} {e : Env} {s : State} {m : MethodId} {below : List Frame} {meth : Method} {c : Code} (l : Launch) (hflags : l.flags = flags0) {b L : Nat} {xs : Nat → Int32} (hL : L ≤ 2560) (C0 : lw_At p s m meth c b L xs) : W p l e room_1 s m #[Value.ref b] below meth c s.heap [] 0 0 (lw_Z below #[Value.ref b] s) (entryFrame m ([Value.ref b] : List Value).toArray 7) := by
  have hlf : l.stackTraces = false := by unfold Launch.stackTraces; rw [hflags]; decide
  obtain ⟨hexec, hcode, hret, hml, hown, hts, hXs, hbl, hlk, hgv⟩ := C0
  obtain ⟨κ, hK, cur, hcur⟩ := law_kap hts
  have hl := lv_entry [Value.ref b] (n := 7) (Nat.le_of_ble_eq_true rfl)
  rw [lg_entry_eq]
  exact law_body hlf ⟨⟨hexec, hcode, hml, hown, fun w h => hts w (wl_all w h)⟩, hK, ⟨fun i j h => absurd h (by omega), fun i h => absurd h (by omega)⟩, Nat.le_refl _⟩ hexec hcode hret hlk (law_gX hts hcur hgv) (law_nc hgv) (law_AO hts) hXs hbl hL hl
set_option maxHeartbeats 4000000 in
theorem lw_walk (l : Launch) (hflags : l.flags = flags0) (b : Addr) (xs : List Int32) : MetFree l x (headSpec (Jvm.Cond.code x code maxLocals ret :: tables_1) room_1) (lw_P b xs) (fun _ _ _ _ _ => True) lw_Q := by
  refine MetFree.of_bodyS (code := code) (maxLocals := maxLocals) (ret := ret) (by decide) ?_ ?_
  · intro args s m h hn
    obtain ⟨meth, c, h1, h2, h3, h4, h5, h6, -, -⟩ := Cond.code_spec hn (atoms_spec (ws := Jvm.Cond.code x code maxLocals ret :: tables_1) h _ List.mem_cons_self)
    exact ⟨meth, c, h1, h2, h3, h4, h5, h6⟩
  · intro p e s m args below meth c s₁ B hml0 hP _
    obtain ⟨rfl, hx, hbd, hgv⟩ := hP
    obtain ⟨scr, harrAt, hlist, hof, hsmall⟩ := hx
    obtain ⟨hcb, hkn, -, -⟩ := State.arrayAt?_spec harrAt
    have hown : s.vm.findClass R_law = some m.cls := findClass_of_methodNamed B.named
    have hts0 : ∀ c ∈ (Jvm.Cond.code x code maxLocals ret :: tables_1), c.before #[Value.ref b] s = true := atoms_spec (ws := Jvm.Cond.code x code maxLocals ret :: tables_1) B.pre
    have hts : ∀ w ∈ lw_tbl, w.before #[Value.ref b] s = true := k2_hts_sels lw_privs (fun w hw => hts0 w (List.mem_cons_of_mem _ hw)) lw_privs_ok
    have hml : c.maxLocals = 7 := B.maxLocals_eq (hts0 _ List.mem_cons_self)
    have X₀ : Stand p l e room_1 s m #[Value.ref b] below meth c s₁ [] 0 0 := Stand.of_body B
    have hh0 : s₁.heap = s.heap := by rw [B.state]; rfl
    have hsz : scr.slots.size = xs.length := by rw [← Array.length_toList, hlist, List.length_map]
    have hval : ∀ j : Nat, j < xs.length → scr.slots[j]? = some (.int (xs.getD j 0)) := fun j hj => by
      rw [← Array.getElem?_toList, hlist]
      simp [hj]
    have hbl : b < s.heap.size := (Array.getElem?_eq_some_iff.mp hcb).1
    have hX : va_X b xs.length (fun j => xs.getD j 0) s s.heap := ⟨scr, hcb, hof, hkn, hsz, hval⟩
    have K : W p l e room_1 s m #[Value.ref b] below meth c s₁.heap [] 0 0 (lw_Z below #[Value.ref b] s) (entryFrame m ([Value.ref b] : List Value).toArray 7) := by
      rw [hh0]
      exact whole_start l hflags hbd ⟨B.exec, B.bytes, B.returns, hml, hown, hts, hX, hbl, B.notSynchronized, hgv⟩
    obtain ⟨t, a1, o, b1, b2, b3⟩ := K s₁ rfl X₀
    exact ⟨t, o, a1, b1, b2, b3⟩
theorem lw_pre_spec {args : Array Value} {s : State} (h : (Jvm.Cond.and given_1 narrow_1).before args s = true) (hr : rest_1_c.before args s = true) : ∃ (b : Addr) (xs : List Int32), lw_P b xs args s := by
  have hs := flat_of_before _ h
  have hq := flat_of_before _ hr
  have hc : (Cond.count 1).before args s = true := hs _ (by decide +kernel)
  have harr : (Cond.arrayOf (.arg 0) .int).before args s = true := hs _ (by decide +kernel)
  have hle : (Cond.le (.length (.arg 0)) (.int 2560)).before args s = true := hs _ (by decide +kernel)
  have hlen : (Cond.isInt (.length (.arg 0))).before args s = true := hq _ (by decide +kernel)
  have hall : (Cond.all (.arg 0) (.isInt (.elem (.arg 0) (.index 0)))).before args s = true := hq _ (by decide +kernel)
  obtain ⟨b, xs, hb, hx⟩ := State.ints_of_pre rfl harr hlen hall
  have hsm : xs.length < 2 ^ 31 := hx.choose_spec.2.2.2
  have hev : (Term.length (.arg 0)).eval args s none [] s = some (.int xs.length.toInt32) := hx.length_eval hb
  have hv := Cond.le_ints hev (show (Term.int 2560).eval args s none [] s = some (.int 2560) from rfl)
  have hd : xs.length.toInt32 ≤ 2560 := by
    simpa [Cond.before, Cond.holds, hv] using hle
  have hN : xs.length ≤ 2560 := (Int32.ofNat_le_ofNat hsm (by decide)).mp (show Int32.ofNat xs.length ≤ Int32.ofNat 2560 from hd)
  exact ⟨b, xs, Cond.one_arg hc (show args[0]? = some (.ref b) from hb), hx, hN, h⟩
theorem lw_comes (l : Launch) (hflags : l.flags = flags0) : Comes l x (Jvm.Cond.code x code maxLocals ret :: tables_1) room_1 (fun tb e args s => Calls_1 tb e args s ∧ rest_1 tb e args s ∧ Pre_1 tb e args s)
    (fun _ _ args s o t => lw_Q args s o t) := by
  intro p e ha hc hk s m args below hf hfit hheap happ hpre
  obtain ⟨b, xs, hP⟩ := lw_pre_spec hpre.2.2 hpre.2.1
  obtain ⟨k, o, h1, h2, h3, hQ⟩ := lw_walk l hflags b xs p e ha hc hk s m args below hf ((Spec.applies_iff_loose hf).mp happ).1 hP trivial
  exact ⟨k, o, h1, h2, h3, hQ⟩
theorem lw_frame {s t : State} {o : Outcome} {args : Array Value} (h : Framed s o t [] 601024 7293034) :
    Framed s o t (fieldLocs frame_1_writes args s ++ arrayLocs frame_1_arrays args s ++ staticLocs frame_1_statics s) 601024 7293034 := h
theorem lw_limb (L : Cond) (hL : ∀ (args : Array Value) (s t : State), L.after args s (.returned (some (.int 1))) t = true) :
    ArmFor flags0 classFile x code maxLocals ret World_1 tables_1 room_1 Calls_1 rest_1 Pre_1
      (fun tb e a s o t => postC L tb e a s o t ∧ Framed s o t (fieldLocs frame_1_writes a s ++ arrayLocs frame_1_arrays a s ++ staticLocs frame_1_statics s) 601024 7293034) := by
  intro l hflags _ _ p e ha hc hk s m args below hf hfit hheap happ hpre
  obtain ⟨k, o, h1, h2, h3, rfl, hF⟩ := lw_comes l hflags p e ha hc hk s m args below hf hfit hheap happ hpre
  exact ⟨k, _, h1, h2, h3, hL args s _, lw_frame hF⟩
theorem i_vc : Claimed_1_1 ∧ Claimed_1_2 := ⟨lw_limb limb_1_1 (fun args s t => by simp [limb_1_1, Cond.after, Cond.holds, Cond.value]), lw_limb limb_1_2 (fun args s t => Cond.after_iff.mpr (by
  first | (rw [show limb_1_2 = Cond.eq .result (.int 1) from rfl, Cond.eq_ints (x := 1) (y := 1) rfl rfl]; simp; done) | (simp [limb_1_2, Cond.value, Term.eval]; done)))⟩
