/-! THE CLAIM OUT OF ONE WALK OF THE LAW'S BODY. Your part is whole_start (and what it stands on); all else here is the same for every law, but numbers. -/
def R_law : String := "RosettePlateLaw"
def lw_P (b : Addr) (xs : List Int32) (args : Array Value) (s : State) : Prop := args = #[.ref b] ∧ s.IntsAt b xs ∧ xs.length ≤ 260 ∧ (Jvm.Cond.and given_1 narrow_1).before args s = true
def lw_Q (_ : Array Value) (s : State) (o : Outcome) (t : State) : Prop := o = .returned (some (.int 1)) ∧ Framed s o t [] 600104 7301314
def lw_Z (below : List Frame) (a : Array Value) (s : State) : State → Prop := fun t => ∃ o, t.status = .running ∧ Ended t below o ∧ lw_Q a s o t
/-- the law's own end, with 1 on the stack, nothing written that was there before, its room as the claim has it -/
theorem lw_ret {p : Program} {l : Launch} {e : Env} {s : State} {m : MethodId} {below : List Frame} {meth : Method} {c : Code} {b : Nat} (hx : p.tables.exec = Jvm.exec) (hb : c.code = code) (hr : meth.sig.returnType = ret) (hlocks : meth.locks = false) {pc : Nat} {H : Heap} {ls : Array Slot} (hdg : decode code pc = .ok (.ireturn, 1)) : W p l e room_1 s m #[Value.ref b] below meth c H [] 600104 7301314 (lw_Z below #[Value.ref b] s) (F0 m pc ls [.int 1]) := by
  intro T hT X
  obtain ⟨fs, hret, hrun, hended, hW, hframe⟩ := X.leave (v := some (.int 1)) (hlocks := hlocks) (fun h => by rw [hr] at h; cases h)
  have hmeth' : T.vm.method? m = some meth := X.method'
  refine ⟨T.setFrames fs, ?_, .returned (some (.int 1)), hrun, hended, rfl, ⟨_, rfl⟩, hW, hframe⟩
  jvm_step X.here [X.here.top, hx, hb, hdg, hmeth', hr, ret, narrow_b1]
  (try refine ⟨rfl, ?_⟩); (try refine ⟨rfl, ?_⟩)
  first | (intro acts; rw [hret _ acts rfl rfl rfl]) | rw [hret _ _ rfl rfl rfl]
  exact Steps.refl _
/-- what holds at the law's entry: the machine, the code, the tables' words (any of lw_tbl by 'hts w (by decide +kernel)'), the script of L ints xs at the cell b, what the Statement gives of the start (any of its parts by flat_of_before) -/
def lw_At (p : Program) (s : State) (m : MethodId) (meth : Method) (c : Code) (b L : Nat) (xs : Nat → Int32) : Prop :=
  p.tables.exec = Jvm.exec ∧ c.code = code ∧ meth.sig.returnType = ret ∧ c.maxLocals = 8 ∧ s.vm.findClass R_law = some m.cls ∧ (∀ w ∈ lw_tbl, w.before #[Value.ref b] s = true) ∧ va_X b L xs s s.heap ∧ b < s.heap.size ∧ meth.locks = false ∧ (Jvm.Cond.and given_1 narrow_1).before #[Value.ref b] s = true
set_option maxHeartbeats 4000000 in
set_option maxRecDepth 100000 in
theorem law_body {p : Program} {l : Launch} {e : Env} {s : State} {m : MethodId} {below : List Frame} {meth : Method} {c : Code} {b L : Nat} {xs : Nat → Int32} {κ : gKap} (hlf : l.stackTraces = false) (C : gC p c cL_law 8 s m #[Value.ref b] wsL_law RL κ s.heap.size 0 (fun _ => 0)) (hx : p.tables.exec = Jvm.exec) (hcode : c.code = code) (hr : meth.sig.returnType = ret) (hlk : meth.locks = false) (X : gX s.heap.size s) (AO : gAO s) (hXs : va_X b L xs s s.heap) (hbl : b < s.heap.size) (hL : L ≤ 260) {ls : Array Slot} (hl : lv_has ls 8 [(0, .ref b)]) : W p l e room_1 s m #[Value.ref b] below meth c s.heap [] 0 0 (lw_Z below #[Value.ref b] s) (F0 m 0 ls []) := by
  have G : gG κ s.heap.size 0 (fun _ => 0) s (fun _ => .inr (0, [])) s.heap [] := ⟨fun k q hq => absurd hq (by intro h; simp [gW] at h), va_S.rf⟩
  refine g_new C G (n := 0) (fs := [.null, .int (iz 0), .null, .null, .null, .null, .null, .null]) (ty := tyX7) (rfl : vwCl[7]? = some (RX7, TX7, 8)) nwL_7 tyX7_ok ml_c7 ml_i7 ml_z7 (fun j hj => by rcases j with _ | _ | _ | _ | _ | _ | _ | _ | j <;> first | rfl | omega) (Nat.le_of_ble_eq_true rfl) (Nat.le_of_ble_eq_true rfl) dL_law_0 (fun (ad_1 : Nat → Nat) H hE_1 C G => ?_)
  refine lv_dup C.1.1 C.1.2.1 dL_law_3 rfl ?_
  refine g_cvG (n' := 192) C G (g_runIA (As := []) (rest := [.ref (ad_1 0)]) (pos := 0) C G AO (c_X7_init l κ s.heap.size ad_1 _ (gu_self _ _ _)) (cwI 0 C.1.2.2.2.2 gL_law_X7_init rfl rfl rfl (C.1.2.2.2.2 _ ml_z7) (C.1.2.2.2.2 _ ml_m7) (C.1.2.2.2.2 _ ml_y7) rfl (by decide +kernel) ⟨Nat.le_of_ble_eq_true rfl, Nat.le_of_ble_eq_true rfl⟩) rfl hl rfl (Nat.le_of_ble_eq_true rfl) dL_law_4 ⟨Nat.le_of_ble_eq_true rfl, Nat.le_of_ble_eq_true rfl⟩) (fun ad_2 g_2 H locs hE_2 hw_2 C G => ?_)
  rw [← hE_2 0 (by omega)]
  have hI2 := XI.new hw_2
  refine lv_astore_n (lv' := [(1, .ref (ad_2 0)), (0, .ref b)]) C.1.1 C.1.2.1 dL_law_7 rfl hl (by decide) rfl (fun ls hl => ?_)
  refine g_newF C G (fs := [.null, .int (iz 0), .null, .null, .null, .null, .null, .null]) (ty := tyX7) (rfl : vwCl[7]? = some (RX7, TX7, 8)) nwL_7 tyX7_ok ml_c7 ml_i7 ml_z7 (fun j hj => by rcases j with _ | _ | _ | _ | _ | _ | _ | _ | j <;> first | rfl | omega) (Nat.le_of_ble_eq_true rfl) (Nat.le_of_ble_eq_true rfl) dL_law_8 (fun H1 hz1 ho1 hat hS1 => ?_)
  refine lv_dup C.1.1 C.1.2.1 dL_law_11 rfl ?_
  have hBH : s.heap.size ≤ H.size := G.2.1
  have hP1 : gP κ 1 (fun _ => H.size) (fun _ => .inr (7, [.null, .int (iz 0), .null, .null, .null, .null, .null, .null])) H1 := fun k q hq => by
    obtain ⟨hk, rfl⟩ := gW_of hq
    exact hat
  refine va_callv (va_runI (rest := [.ref H.size]) C.1 (c_X7_init l κ H.size (fun _ => H.size) (fun _ => .inr (7, [.null, .int (iz 0), .null, .null, .null, .null, .null, .null])) rfl) (cwI (R := room_1) 0 C.1.2.2.2.2 gL_law_X7_init rfl rfl rfl (C.1.2.2.2.2 _ ml_z7) (C.1.2.2.2.2 _ ml_m7) (C.1.2.2.2.2 _ ml_y7) rfl (by decide +kernel) ⟨Nat.le_of_ble_eq_true rfl, Nat.le_of_ble_eq_true rfl⟩) ⟨gPreA.blind, fun U hU hW => ⟨rfl, ⟨by rw [hU]; omega, by rw [hU]; exact hP1, C.2.1.warm hW, ⟨fun i j hi hj _ => by omega, fun i hi => Nat.le_refl _⟩⟩, AO.warm hW⟩⟩ rfl rfl hl.1 rfl (lv_room (Nat.le_of_ble_eq_true rfl)) dL_law_12 ⟨Nat.le_of_ble_eq_true rfl, Nat.le_of_ble_eq_true rfl⟩) hS1 (fun x hx h => Nat.le_trans hBH h) (fun x h => Nat.le_trans hBH h) (fun u t H2 locs2 ht hvm hw hP2 hz2 hk2 hS2 => ?_)
  subst ht
  obtain ⟨hu1, hu2, hu3⟩ := hw
  have hI3 := XI.new hu3
  have hlo : ∀ k, k < 192 → ad_2 k < H.size := fun k hk => (G.1 k _ (gW_at hk)).lt
  have hD : gD s.heap.size 384 (gJ ad_2 u.1) := by
    refine ⟨fun i j hi hj e9 => ?_, fun i hi => ?_⟩
    · by_cases hi2 : i < 192
      · by_cases hj2 : j < 192
        · rw [gJ_lo hi2, gJ_lo hj2] at e9
          exact C.2.2.1.1 i j hi2 hj2 e9
        · rw [gJ_lo hi2, gJ_hi (by omega)] at e9
          have a1 := hlo i hi2
          have a2 := hu2.2 (j - 192) (by omega)
          omega
      · by_cases hj2 : j < 192
        · rw [gJ_hi (by omega), gJ_lo hj2] at e9
          have a1 := hlo j hj2
          have a2 := hu2.2 (i - 192) (by omega)
          omega
        · rw [gJ_hi (by omega), gJ_hi (by omega)] at e9
          have := hu2.1 (i - 192) (j - 192) (by omega) (by omega) e9
          omega
    · by_cases hi2 : i < 192
      · rw [gJ_lo hi2]
        exact C.2.2.1.2 i hi2
      · rw [gJ_hi (by omega)]
        exact Nat.le_trans hBH (hu2.2 (i - 192) (by omega))
  have hP : gP κ 384 (gJ ad_2 u.1) (gJ g_2 u.2) t.heap := by
    intro k q hq
    obtain ⟨hk, rfl⟩ := gW_of hq
    by_cases hk9 : k < 192
    · rw [gJ_lo hk9, gJ_lo hk9]
      have a1 := hlo k hk9
      refine (G.1 k _ (gW_at hk9)).kept ?_
      have a2 : t.heap[ad_2 k]? = H1[ad_2 k]? := hk2 _ (by omega) (fun z => by have z2 : H.size ≤ ad_2 k := z; omega)
      exact a2.trans (ho1 _ a1)
    · rw [gJ_hi (by omega), gJ_hi (by omega)]
      exact hP2 (k - 192) _ (gW_at (by omega))
  have C9 : gC p c cL_law 8 s m #[Value.ref b] wsL_law RL κ s.heap.size 384 (gJ ad_2 u.1) := ⟨C.1, C.2.1, hD, C.2.2.2⟩
  have G9 : gG κ s.heap.size 384 (gJ ad_2 u.1) s (gJ g_2 u.2) t.heap locs2 := ⟨hP, hS2⟩
  have hA : XI κ (gJ ad_2 u.1) (gJ g_2 u.2) HP0 0 v00 (fun _ => 0) (fun _ => (0, v00)) := hI2.grow (fun k hk => gJ_lo hk) (fun k hk => gJ_lo hk)
  have hB : XI κ (fun k => gJ ad_2 u.1 (sg k)) (fun k => gJ g_2 u.2 (sg k)) HP0 0 v00 (fun _ => 0) (fun _ => (0, v00)) := hI3.grow (fun k hk => gJ_sg hk) (fun k hk => gJ_sg hk)
  have e0 : gJ ad_2 u.1 0 = ad_2 0 := gJ_lo (by omega)
  have e1 : gJ ad_2 u.1 192 = H.size := (gJ_hi (by omega)).trans (hu1 0 (by omega))
  refine lv_astore_n (lv' := [(2, .ref H.size), (1, .ref (ad_2 0)), (0, .ref b)]) C.1.1 C.1.2.1 dL_law_15 rfl hl (by decide) rfl (fun ls hl => ?_)
  refine g_iconst (a := 0) C dL_law_16 rfl ?_
  refine lv_istore_n (lv' := [(3, .int (iz 0)), (2, .ref H.size), (1, .ref (ad_2 0)), (0, .ref b)]) C.1.1 C.1.2.1 dL_law_17 rfl hl (by decide) rfl (fun ls hl => ?_)
  have hl9 : lv_has ls 8 [(3, .int (iz ((0 : Nat) : Int))), (0, .ref b), (1, .ref (gJ ad_2 u.1 0)), (2, .ref (gJ ad_2 u.1 192))] := by
    rw [e0, e1]
    exact lv_sub hl [0, 3, 2, 1] rfl
  refine W.widen (k := 800 + 1500 * 0) (n := 9000 + 9000 * 0) (Nat.le_of_ble_eq_true rfl) (Nat.le_of_ble_eq_true rfl) ?_
  refine law_loop hlf C9 X hXs hbl rfl hL (fun g H locs ls G => ?_) 15 0 0 v00 (fun _ => 0) (fun _ => (0, v00)) (gJ g_2 u.2) t.heap locs2 ls (by omega) (by omega) hA hB G9 hl9
  refine va_forget (fun q hq => G.2.2.2 q hq) (W.widen (k := 600104) (n := 7301314) (by omega) (by omega) ?_)
  rw [show iz 1 = 1 from by decide]
  exact lw_ret hx hcode hr hlk dL_law_248
theorem whole_start {p : Program} {e : Env} {s : State} {m : MethodId} {below : List Frame} {meth : Method} {c : Code} (l : Launch) (hflags : l.flags = flags0) {b L : Nat} {xs : Nat → Int32} (hL : L ≤ 260) (C0 : lw_At p s m meth c b L xs) : W p l e room_1 s m #[Value.ref b] below meth c s.heap [] 0 0 (lw_Z below #[Value.ref b] s) (entryFrame m ([Value.ref b] : List Value).toArray 8) := by
  have hlf : l.stackTraces = false := by unfold Launch.stackTraces; rw [hflags]; decide
  obtain ⟨hexec, hcode, hret, hml, hown, hts, hXs, hbl, hlk, hgv⟩ := C0
  obtain ⟨κ, hK, cur, hcur⟩ := law_kap hts
  have hl := lv_entry [Value.ref b] (n := 8) (Nat.le_of_ble_eq_true rfl)
  rw [lg_entry_eq]
  exact law_body hlf ⟨⟨hexec, hcode, hml, hown, fun w h => hts w (wl_all w h)⟩, hK, ⟨fun i j h => absurd h (by omega), fun i h => absurd h (by omega)⟩, Nat.le_refl _⟩ hexec hcode hret hlk (law_gX hts hcur hgv) (law_AO hts) hXs hbl hL hl
set_option maxHeartbeats 4000000 in
theorem lw_walk (l : Launch) (hflags : l.flags = flags0) (b : Addr) (xs : List Int32) : MetFree l x (headSpec (Jvm.Cond.code x code maxLocals ret :: tables_1) room_1) (lw_P b xs) (fun _ _ _ _ _ => True) lw_Q := by
  refine MetFree.of_bodyS (code := code) (maxLocals := maxLocals) (ret := ret) (by decide) ?_ ?_
  · intro args s m h hn
    obtain ⟨meth, c, h1, h2, h3, h4, h5, h6, -, -⟩ := Cond.code_spec hn (atoms_spec (ws := Jvm.Cond.code x code maxLocals ret :: tables_1) h _ List.mem_cons_self)
    exact ⟨meth, c, h1, h2, h3, h4, h5, h6⟩
  · intro p e s m args below meth c s₁ B hml0 hP _
    obtain ⟨rfl, hx, hbd, hgv⟩ := hP
    obtain ⟨scr, harrAt, hlist, hof, hsmall⟩ := hx
    obtain ⟨hcb, hkn, -, -⟩ := State.arrayAt?_spec harrAt
    have hown : s.vm.findClass R_law = some m.cls := findClass_of_methodNamed B.named
    have hts0 : ∀ c ∈ (Jvm.Cond.code x code maxLocals ret :: tables_1), c.before #[Value.ref b] s = true := atoms_spec (ws := Jvm.Cond.code x code maxLocals ret :: tables_1) B.pre
    have hts : ∀ w ∈ lw_tbl, w.before #[Value.ref b] s = true := k2_hts_sels lw_privs (fun w hw => hts0 w (List.mem_cons_of_mem _ hw)) lw_privs_ok
    have hml : c.maxLocals = 8 := B.maxLocals_eq (hts0 _ List.mem_cons_self)
    have X₀ : Stand p l e room_1 s m #[Value.ref b] below meth c s₁ [] 0 0 := Stand.of_body B
    have hh0 : s₁.heap = s.heap := by rw [B.state]; rfl
    have hsz : scr.slots.size = xs.length := by rw [← Array.length_toList, hlist, List.length_map]
    have hval : ∀ j : Nat, j < xs.length → scr.slots[j]? = some (.int (xs.getD j 0)) := fun j hj => by
      rw [← Array.getElem?_toList, hlist]
      simp [hj]
    have hbl : b < s.heap.size := (Array.getElem?_eq_some_iff.mp hcb).1
    have hX : va_X b xs.length (fun j => xs.getD j 0) s s.heap := ⟨scr, hcb, hof, hkn, hsz, hval⟩
    have K : W p l e room_1 s m #[Value.ref b] below meth c s₁.heap [] 0 0 (lw_Z below #[Value.ref b] s) (entryFrame m ([Value.ref b] : List Value).toArray 8) := by
      rw [hh0]
      exact whole_start l hflags hbd ⟨B.exec, B.bytes, B.returns, hml, hown, hts, hX, hbl, B.notSynchronized, hgv⟩
    obtain ⟨t, a1, o, b1, b2, b3⟩ := K s₁ rfl X₀
    exact ⟨t, o, a1, b1, b2, b3⟩
theorem lw_pre_spec {args : Array Value} {s : State} (h : (Jvm.Cond.and given_1 narrow_1).before args s = true) (hr : rest_1_c.before args s = true) : ∃ (b : Addr) (xs : List Int32), lw_P b xs args s := by
  have hs := flat_of_before _ h
  have hq := flat_of_before _ hr
  have hc : (Cond.count 1).before args s = true := hs _ (by decide +kernel)
  have harr : (Cond.arrayOf (.arg 0) .int).before args s = true := hs _ (by decide +kernel)
  have hle : (Cond.le (.length (.arg 0)) (.int 260)).before args s = true := hs _ (by decide +kernel)
  have hlen : (Cond.isInt (.length (.arg 0))).before args s = true := hq _ (by decide +kernel)
  have hall : (Cond.all (.arg 0) (.isInt (.elem (.arg 0) (.index 0)))).before args s = true := hq _ (by decide +kernel)
  obtain ⟨b, xs, hb, hx⟩ := State.ints_of_pre rfl harr hlen hall
  have hsm : xs.length < 2 ^ 31 := hx.choose_spec.2.2.2
  have hev : (Term.length (.arg 0)).eval args s none [] s = some (.int xs.length.toInt32) := hx.length_eval hb
  have hv := Cond.le_ints hev (show (Term.int 260).eval args s none [] s = some (.int 260) from rfl)
  have hd : xs.length.toInt32 ≤ 260 := by
    simpa [Cond.before, Cond.holds, hv] using hle
  have hN : xs.length ≤ 260 := (Int32.ofNat_le_ofNat hsm (by decide)).mp (show Int32.ofNat xs.length ≤ Int32.ofNat 260 from hd)
  exact ⟨b, xs, Cond.one_arg hc (show args[0]? = some (.ref b) from hb), hx, hN, h⟩
theorem lw_comes (l : Launch) (hflags : l.flags = flags0) : Comes l x (Jvm.Cond.code x code maxLocals ret :: tables_1) room_1 (fun tb e args s => Calls_1 tb e args s ∧ rest_1 tb e args s ∧ Pre_1 tb e args s)
    (fun _ _ args s o t => lw_Q args s o t) := by
  intro p e ha hc hk s m args below hf hfit hheap happ hpre
  obtain ⟨b, xs, hP⟩ := lw_pre_spec hpre.2.2 hpre.2.1
  obtain ⟨k, o, h1, h2, h3, hQ⟩ := lw_walk l hflags b xs p e ha hc hk s m args below hf ((Spec.applies_iff_loose hf).mp happ).1 hP trivial
  exact ⟨k, o, h1, h2, h3, hQ⟩
theorem lw_frame {s t : State} {o : Outcome} {args : Array Value} (h : Framed s o t [] 600104 7301314) :
    Framed s o t (fieldLocs frame_1_writes args s ++ arrayLocs frame_1_arrays args s ++ staticLocs frame_1_statics s) 600104 7301314 := h
theorem lw_limb (L : Cond) (hL : ∀ (args : Array Value) (s t : State), L.after args s (.returned (some (.int 1))) t = true) :
    ArmFor flags0 classFile x code maxLocals ret World_1 tables_1 room_1 Calls_1 rest_1 Pre_1
      (fun tb e a s o t => postC L tb e a s o t ∧ Framed s o t (fieldLocs frame_1_writes a s ++ arrayLocs frame_1_arrays a s ++ staticLocs frame_1_statics s) 600104 7301314) := by
  intro l hflags _ _ p e ha hc hk s m args below hf hfit hheap happ hpre
  obtain ⟨k, o, h1, h2, h3, rfl, hF⟩ := lw_comes l hflags p e ha hc hk s m args below hf hfit hheap happ hpre
  exact ⟨k, _, h1, h2, h3, hL args s _, lw_frame hF⟩
theorem i_vc : Claimed_1_1 ∧ Claimed_1_2 := ⟨lw_limb limb_1_1 (fun args s t => by simp [limb_1_1, Cond.after, Cond.holds, Cond.value]), lw_limb limb_1_2 (fun args s t => Cond.after_iff.mpr (by
  first | (rw [show limb_1_2 = Cond.eq .result (.int 1) from rfl, Cond.eq_ints (x := 1) (y := 1) rfl rfl]; simp; done) | (simp [limb_1_2, Cond.value, Term.eval]; done)))⟩
