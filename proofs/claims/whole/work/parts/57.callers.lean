/-! THE LAW'S CALLERS: what is returned or thrown -/
def rI (r : Int) : Int := (iz r).toInt
theorem iz_rI (r : Int) : iz r = iz (rI r) := iz_of (iz r)
theorem rI_in (r : Int) : inI (rI r) := inI_of (iz r)
def gNc (U : State) : Prop := ∀ E ∈ gXs, ∀ nm ∈ gXs, E ≠ nm → va_Nc E nm U
theorem gNc.moved {u U : State} (hvm : u.vm.Alike U.vm) (h : gNc u) : gNc U := fun E hE nm hn hne => (h E hE nm hn hne).moved hvm
def gPreY (κ : gKap) (B n : Nat) (ad : Nat → Nat) (g : Nat → va_E) (As : List Value) : Array Value → State → Prop := va_Pc As (fun U => gS κ B n ad g U ∧ gX B U ∧ gNc U)
theorem gPreY.blind {κ : gKap} {B n : Nat} {ad : Nat → Nat} {g : Nat → va_E} {As : List Value} : FrameBlind (gPreY κ B n ad g As) := fun a U g9 mk h => ⟨h.1, ⟨h.2.1.1, h.2.1.2.1, gK.same (s := U) rfl h.2.1.2.2.1, h.2.1.2.2.2⟩, h.2.2.1.calling, gNc.moved (u := U) (U := U.calling g9 mk a) (Vm.Alike.refl U.vm) h.2.2.2⟩
theorem Met_ofWH {l : Launch} {y : MethodName} {ws ws' : List Cond} {rm : Room} {Pc : Array Value → State → Prop} {Qc : Array Value → State → Outcome → State → Prop} {mc ms : Nat} {free : Addr → Prop} {cc : ByteArray} {maxL : Nat} {ret : Option FieldType} {hh : List (Nat × Nat × Nat × Nat)}
    (hy : plainName y.cls = true) (hw : ws = Cond.codeWith y cc maxL ret hh :: ws')
    (body : ∀ p e s m args below meth c s₁, BodyLoose p l y (headSpec ws rm) cc maxL ret e s m args below meth c s₁ → c.maxLocals = maxL → Pc args s →
      W p l e (headSpec ws rm).room s m args below meth c s.heap [] 0 0 (MQ below Qc args s mc ms free) (entryFrame m args maxL)) : Met l y ws rm Pc Qc mc ms free := by
  refine MetFree.of_bodyS (code := cc) (maxLocals := maxL) (ret := ret) hy ?_ ?_
  · intro args s m h hn
    obtain ⟨m9, meth, c, hn9, h1, h2, h3, h4, -, h5, h6, -⟩ := Cond.codeWith_spec (atoms_spec (ws := ws) h _ (by rw [hw]; exact List.mem_cons_self))
    cases hn.symm.trans hn9
    exact ⟨meth, c, h1, h2, h3, h4, h5, h6⟩
  · intro p e s m args below meth c s₁ B hml hP _
    have hh0 : s₁.heap = s.heap := by rw [B.state]; rfl
    obtain ⟨t, a1, o, b1, b2, b3⟩ := body p e s m args below meth c s₁ B hml hP s₁ hh0 (Stand.of_body B)
    exact ⟨t, o, a1, b1, b2, ⟨b3.1, b3.2⟩⟩
section GY
variable {p : Program} {l : Launch} {e : Env} {R : Room} {s : State} {m : MethodId} {args : Array Value} {below : List Frame} {meth : Method} {c : Code} {H : Heap} {locs : List Loc} {cells slots : Nat} {Q : State → Prop}
variable {cc : ByteArray} {nL pc : Nat} {ls : Array Slot} {rest : List Value} {Ts : List Cond} {own : String} {κ : gKap} {B n : Nat} {ad : Nat → Nat} {g : Nat → va_E}
theorem g_metH {y : MethodName} (own : String) {ws ws' : List Cond} {rm : Room} {As : List Value} {Qc : Array Value → State → Outcome → State → Prop} {mc ms maxL : Nat} {ret : Option FieldType} {hh : List (Nat × Nat × Nat × Nat)}
    (hy : plainName y.cls = true) (hw : ws = Cond.codeWith y cc maxL ret hh :: ws') (ho : y.cls = own) (hsl : (lg_sl As).length ≤ maxL)
    (body : ∀ (p : Program) (e : Env) (s : State) (m : MethodId) (args : Array Value) (below : List Frame) (meth : Method) (c : Code), gC p c cc maxL s m args ws own κ B n ad → meth.sig.returnType = ret → meth.locks = false → c.exceptionTable.toList = tableOf hh → gX B s → gNc s → gG κ B n ad s g s.heap [] → ∀ ls : Array Slot, lv_has ls maxL (lv_args 0 As) → W p l e rm s m args below meth c s.heap [] 0 0 (MQ below Qc args s mc ms (gFree B)) (F0 m 0 ls [])) :
    Met l y ws rm (gPreY κ B n ad g As) Qc mc ms (gFree B) := by
  subst ho
  refine Met_ofWH (cc := cc) (maxL := maxL) (ret := ret) (hh := hh) hy hw ?_
  intro p e s m args below meth c s₁ Bd hml hv
  obtain ⟨rfl, ⟨hB, hP, hK, hD⟩, hX, hN⟩ := hv
  have hts := atoms_spec (ws := ws) Bd.pre
  have hown : s.vm.findClass y.cls = some m.cls := findClass_of_methodNamed Bd.named
  have hl := lv_entry As (n := maxL) hsl
  have htab := vx_table (x := y) Bd (hts _ (by rw [hw]; exact List.mem_cons_self))
  rw [lg_entry_eq]
  exact body p e s m _ below meth c ⟨⟨Bd.exec, Bd.bytes, hml, hown, hts⟩, hK, hD, hB⟩ Bd.returns Bd.notSynchronized htab hX hN ⟨hP, va_S.rf⟩ _ hl
theorem g_runVX (C : gC p c cc nL s m args Ts own κ B n ad) (G : gG κ B n ad s g H locs) (X : gX B s) {y : MethodName} {bytes : ByteArray} {maxL mc ms k index : Nat} {ret : Option FieldType} {ws : List Cond} {rm : Room} {Qc : Array Value → State → Outcome → State → Prop} {XC : String → State → State → Prop} {As st0 : List Value} {lv : List (Nat × Value)} {pos ci N : Nat} {fs : List Value} {Cn : String} {T : u_T} (M : vx_Met l y ws rm (gPreX κ B n ad g (.ref (ad pos) :: As)) Qc XC mc ms (gFree B)) (cw : CallW R s args own Cn index y bytes maxL ret ws rm mc ms k) (hp : pos < n) (he : g pos = .inr (ci, fs)) (hci : vwCl[ci]? = some (Cn, T, N)) (hn : As.length = k) (hl : lv_has ls nL lv) (hst : st0 = As.reverse ++ .ref (ad pos) :: rest) (hW : (rest.map fun v => v.category).sum ≤ 8) (d : decode cc pc = .ok (.invokevirtual index, 3)) (hf : cells + mc ≤ R.cells ∧ slots + ms ≤ R.slots) :
    vx_Run p l e R s m args below meth c H locs cells slots mc ms (F0 m pc ls st0) rest (Qc (Value.ref (ad pos) :: As : List Value).toArray) XC (gFree B) :=
  vx_runV C.1 M cw ⟨gPreX.blind, va_recv C.2.1.1 G.1 hci (q0 := pos) (by rw [gW_at hp, he]), fun U hU hW => ⟨rfl, ⟨by rw [hU]; exact Nat.le_trans C.2.2.2 G.2.1, by rw [hU]; exact G.1, C.2.1.warm hW, C.2.2.1⟩, X.warm hW (fun a ha hna => by rw [hU]; exact G.2.2.1 a ha hna)⟩⟩ rfl hn hl.1 hst (lv_room hW) d hf
theorem g_cxi (C : gC p c cc nL s m args Ts own κ B n ad) (G : gG κ B n ad s g H locs) {st0 : List Value} {a : Array Value} {mc ms : Nat} {post : Int → (Nat → va_E) → Prop} {px : String → (Nat → va_E) → Prop} (hr : vx_Run p l e R s m args below meth c H locs cells slots mc ms (F0 m pc ls st0) rest (gQi κ B n ad post a) (gXX κ B n ad px) (gFree B))
    (kx : ∀ (E : String) (ce : Cell) (q9 : Addr) (g : Nat → va_E) (H : Heap) (locs : List Loc), px E g → gG κ B n ad s g H locs → H[q9]? = some ce → ce.vm = .none → s.vm.findClass E = some ce.cls → vx_W p l e R s m args below meth c H locs (cells + mc) (slots + ms) Q (F0 m pc ls rest) q9)
    (kk : ∀ (z : Int) (g : Nat → va_E) (H : Heap) (locs : List Loc), post z g → gG κ B n ad s g H locs → W p l e R s m args below meth c H locs (cells + mc) (slots + ms) Q (F0 m (pc + 3) ls (.int (iz z) :: rest))) : W p l e R s m args below meth c H locs cells slots Q (F0 m pc ls st0) := by
  refine vx_calli hr G.2 (fun q _ h => h) (fun q h => h) (fun q _ h => h) (fun E ce q9 u t H1 locs1 ht hvm _ hB hz1 hk1 hS hce hcv hcl => ?_) (fun r u t H1 locs1 ht hvm hw hB hz1 hk1 hS => ?_)
  · subst ht
    exact kx E ce q9 u t.heap locs1 hB.1 ⟨hB.2, hS⟩ hce hcv hcl
  · obtain ⟨z, rfl, hp⟩ := hw
    subst ht
    exact kk z u t.heap locs1 hp ⟨hB, hS⟩
end GY
set_option maxHeartbeats 4000000 in
set_option maxRecDepth 100000 in
theorem w_L_append (l : Launch) (κ : gKap) (B n : Nat) (ad : Nat → Nat) (g : Nat → va_E) (a0 : Int) {post : Int → (Nat → va_E) → Prop} {px : String → (Nat → va_E) → Prop} {o9 : Int → Int64} {fs0 : List Value} (M : vx_Met l yX7_append wsX7_append ({ frames := 6, cells := 1, slots := 6, locals := 82 }) (gPreX κ B n ad g [.ref (ad 0), .int (iz a0)]) (gQi κ B n ad post) (gXX κ B n ad px) 1 6 (gFree B)) (hn : 201 ≤ n) (h0 : g 0 = .inr (7, fs0)) (ho : g 200 = aJ κ 1 o9) (hfr : ∀ z g', post z g' → g' 200 = g 200) (hx : ∀ E g9, px E g9 → E = "java/lang/IllegalArgumentException" ∨ E = "java/lang/IllegalStateException") : Met l yL_append wsL_append ({ frames := 7, cells := 1, slots := 6, locals := 103 }) (gPreY κ B n ad g [.ref (ad 0), .int (iz a0), .ref (ad 200)]) (gQi κ B n ad (fun z g' => (z = 0 ∧ ∃ r gm, post r gm ∧ g' = va_up gm 200 (aJ κ 1 (vuJ o9 0 (jz (rI r))))) ∨ (z = 1 ∧ px "java/lang/IllegalArgumentException" g') ∨ (z = 2 ∧ px "java/lang/IllegalStateException" g'))) 1 6 (gFree B) := by
  refine g_metH RL (cc := cL_append) (maxL := 4) (ret := (some .int)) (hh := [(0, 9, 12, 13), (0, 9, 15, 15)]) (by decide) rfl rfl (Nat.le_of_ble_eq_true rfl) ?_
  intro p e s m args below meth c C hr hlk htab X N9 G ls hl
  have hl : lv_has ls 4 [(0, .ref (ad 0)), (1, .int (iz a0)), (2, .ref (ad 200))] := hl
  refine g_aload_n C dL_append_0 rfl hl 2 rfl ?_
  refine g_iconst (a := 0) C dL_append_1 rfl ?_
  refine g_aload_n C dL_append_2 rfl hl 0 rfl ?_
  refine g_iload_n C dL_append_3 rfl hl 1 rfl ?_
  refine g_cxi C G (g_runVX (As := [.int (iz a0)]) (rest := [.int (iz 0), .ref (ad 200)]) (pos := 0) C G X M (cwV 1 C.1.2.2.2.2 gL_append_X7_append rfl rfl rfl (by decide +kernel) ⟨Nat.le_of_ble_eq_true rfl, Nat.le_of_ble_eq_true rfl⟩) (by omega) h0 (T := TX7) (N := 8) rfl rfl hl rfl (Nat.le_of_ble_eq_true rfl) dL_append_4 ⟨Nat.le_of_ble_eq_true rfl, Nat.le_of_ble_eq_true rfl⟩) (fun E ce q9 gx H locs hpx G hce hcv hcl => ?_) (fun r gm H locs hpo G => ?_)
  · have hE := hx E gx hpx
    rcases hE with hE | hE
    · subst hE
      refine vx_catch C.1.2.2.2.1 [] ⟨0, 9, 12, 13⟩ [⟨0, 9, 15, 15⟩] (htab.trans rfl) (fun z hz => nomatch hz) (by decide) (by decide) (C.1.2.2.2.2 _ (by decide +kernel : Cond.classLink RL 13 "java/lang/IllegalArgumentException" ∈ wsL_append)) (va_Nw.use rfl (X.1.1 "java/lang/IllegalArgumentException" (by decide))) hce hcv hcl ?_
      refine lv_astore_n (lv' := [(3, .ref q9), (0, .ref (ad 0)), (1, .int (iz a0)), (2, .ref (ad 200))]) C.1.1 C.1.2.1 dL_append_12 rfl hl (by decide) rfl (fun ls hl => ?_)
      refine g_iconst (a := 1) C dL_append_13 rfl ?_
      refine g_iret C G hr hlk (Nat.le_of_ble_eq_true rfl) (Nat.le_of_ble_eq_true rfl) dL_append_14 ?_
      exact Or.inr (Or.inl ⟨rfl, hpx⟩)
    · subst hE
      refine vx_catch C.1.2.2.2.1 [⟨0, 9, 12, 13⟩] ⟨0, 9, 15, 15⟩ [] (htab.trans rfl) (fun z hz => by rw [List.mem_singleton] at hz; subst hz; exact Or.inr ⟨by decide, "java/lang/IllegalArgumentException", C.1.2.2.2.2 _ (by decide +kernel : Cond.classLink RL 13 "java/lang/IllegalArgumentException" ∈ wsL_append), N9 _ (by decide) _ (by decide) (by decide)⟩) (by decide) (by decide) (C.1.2.2.2.2 _ (by decide +kernel : Cond.classLink RL 15 "java/lang/IllegalStateException" ∈ wsL_append)) (va_Nw.use rfl (X.1.1 "java/lang/IllegalStateException" (by decide))) hce hcv hcl ?_
      refine lv_astore_n (lv' := [(3, .ref q9), (0, .ref (ad 0)), (1, .int (iz a0)), (2, .ref (ad 200))]) C.1.1 C.1.2.1 dL_append_15 rfl hl (by decide) rfl (fun ls hl => ?_)
      refine g_iconst (a := 2) C dL_append_16 rfl ?_
      refine g_iret C G hr hlk (Nat.le_of_ble_eq_true rfl) (Nat.le_of_ble_eq_true rfl) dL_append_17 ?_
      exact Or.inr (Or.inr ⟨rfl, hpx⟩)
  · have hom : gm 200 = aJ κ 1 o9 := (hfr _ _ hpo).trans ho
    rw [iz_rI r]
    refine g_i2l C (rI_in r) dL_append_7 ?_
    refine g_lastore C G (pos := 200) (by omega) hom (by decide) (by decide) (by decide) dL_append_8 (fun H locs G => ?_)
    refine g_goto (tgt := 18) C dL_append_9 (by decide) ?_
    refine g_iconst (a := 0) C dL_append_18 rfl ?_
    refine g_iret C G hr hlk (Nat.le_of_ble_eq_true rfl) (Nat.le_of_ble_eq_true rfl) dL_append_19 ?_
    exact Or.inl ⟨rfl, r, gm, hpo, rfl⟩
set_option maxHeartbeats 4000000 in
set_option maxRecDepth 100000 in
theorem w_L_load (l : Launch) (κ : gKap) (B n : Nat) (ad : Nat → Nat) (g : Nat → va_E)  {post : Int → (Nat → va_E) → Prop} {px : String → (Nat → va_E) → Prop} {o9 : Int → Int64} {fs0 : List Value} (M : vx_Met l yX7_load wsX7_load ({ frames := 6, cells := 2, slots := 9, locals := 137 }) (gPreX κ B n ad g [.ref (ad 0)]) (gQi κ B n ad post) (gXX κ B n ad px) 2 9 (gFree B)) (hn : 201 ≤ n) (h0 : g 0 = .inr (7, fs0)) (ho : g 200 = aJ κ 1 o9) (hfr : ∀ z g', post z g' → g' 200 = g 200) (hx : ∀ E g9, px E g9 → E = "java/lang/IllegalStateException") : Met l yL_load wsL_load ({ frames := 7, cells := 2, slots := 9, locals := 158 }) (gPreY κ B n ad g [.ref (ad 0), .ref (ad 200)]) (gQi κ B n ad (fun z g' => (z = 0 ∧ ∃ r gm, post r gm ∧ g' = va_up gm 200 (aJ κ 1 (vuJ o9 0 (jz (rI r))))) ∨ (z = 1 ∧ px "java/lang/IllegalStateException" g'))) 2 9 (gFree B) := by
  refine g_metH RL (cc := cL_load) (maxL := 3) (ret := (some .int)) (hh := [(0, 8, 11, 15)]) (by decide) rfl rfl (Nat.le_of_ble_eq_true rfl) ?_
  intro p e s m args below meth c C hr hlk htab X N9 G ls hl
  have hl : lv_has ls 3 [(0, .ref (ad 0)), (1, .ref (ad 200))] := hl
  refine g_aload_n C dL_load_0 rfl hl 1 rfl ?_
  refine g_iconst (a := 0) C dL_load_1 rfl ?_
  refine g_aload_n C dL_load_2 rfl hl 0 rfl ?_
  refine g_cxi C G (g_runVX (As := []) (rest := [.int (iz 0), .ref (ad 200)]) (pos := 0) C G X M (cwV 0 C.1.2.2.2.2 gL_load_X7_load rfl rfl rfl (by decide +kernel) ⟨Nat.le_of_ble_eq_true rfl, Nat.le_of_ble_eq_true rfl⟩) (by omega) h0 (T := TX7) (N := 8) rfl rfl hl rfl (Nat.le_of_ble_eq_true rfl) dL_load_3 ⟨Nat.le_of_ble_eq_true rfl, Nat.le_of_ble_eq_true rfl⟩) (fun E ce q9 gx H locs hpx G hce hcv hcl => ?_) (fun r gm H locs hpo G => ?_)
  · have hE := hx E gx hpx
    subst hE
    refine vx_catch C.1.2.2.2.1 [] ⟨0, 8, 11, 15⟩ [] (htab.trans rfl) (fun z hz => nomatch hz) (by decide) (by decide) (C.1.2.2.2.2 _ (by decide +kernel : Cond.classLink RL 15 "java/lang/IllegalStateException" ∈ wsL_load)) (va_Nw.use rfl (X.1.1 "java/lang/IllegalStateException" (by decide))) hce hcv hcl ?_
    refine lv_astore_n (lv' := [(2, .ref q9), (0, .ref (ad 0)), (1, .ref (ad 200))]) C.1.1 C.1.2.1 dL_load_11 rfl hl (by decide) rfl (fun ls hl => ?_)
    refine g_iconst (a := 1) C dL_load_12 rfl ?_
    refine g_iret C G hr hlk (Nat.le_of_ble_eq_true rfl) (Nat.le_of_ble_eq_true rfl) dL_load_13 ?_
    exact Or.inr (⟨rfl, hpx⟩)
  · have hom : gm 200 = aJ κ 1 o9 := (hfr _ _ hpo).trans ho
    rw [iz_rI r]
    refine g_i2l C (rI_in r) dL_load_6 ?_
    refine g_lastore C G (pos := 200) (by omega) hom (by decide) (by decide) (by decide) dL_load_7 (fun H locs G => ?_)
    refine g_goto (tgt := 14) C dL_load_8 (by decide) ?_
    refine g_iconst (a := 0) C dL_load_14 rfl ?_
    refine g_iret C G hr hlk (Nat.le_of_ble_eq_true rfl) (Nat.le_of_ble_eq_true rfl) dL_load_15 ?_
    exact Or.inl ⟨rfl, r, gm, hpo, rfl⟩
set_option maxHeartbeats 4000000 in
set_option maxRecDepth 100000 in
theorem w_L_about (l : Launch) (κ : gKap) (B n : Nat) (ad : Nat → Nat) (g : Nat → va_E) (a0 : Int) {post : Int → (Nat → va_E) → Prop} {px : String → (Nat → va_E) → Prop} {o9 : Int → Int64} {fs0 : List Value} (M : vx_Met l yX7_about wsX7_about ({ frames := 6, cells := 1, slots := 6, locals := 123 }) (gPreX κ B n ad g [.ref (ad 0), .int (iz a0)]) (gQi κ B n ad post) (gXX κ B n ad px) 1 6 (gFree B)) (hn : 201 ≤ n) (h0 : g 0 = .inr (7, fs0)) (ho : g 200 = aJ κ 1 o9) (hfr : ∀ z g', post z g' → g' 200 = g 200) (hx : ∀ E g9, px E g9 → E = "java/lang/IllegalArgumentException") : Met l yL_about wsL_about ({ frames := 7, cells := 1, slots := 6, locals := 144 }) (gPreY κ B n ad g [.ref (ad 0), .int (iz a0), .ref (ad 200)]) (gQi κ B n ad (fun z g' => (z = 0 ∧ ∃ r gm, post r gm ∧ g' = va_up gm 200 (aJ κ 1 (vuJ o9 0 (jz (rI r))))) ∨ (z = 1 ∧ px "java/lang/IllegalArgumentException" g'))) 1 6 (gFree B) := by
  refine g_metH RL (cc := cL_about) (maxL := 4) (ret := (some .int)) (hh := [(0, 9, 12, 13)]) (by decide) rfl rfl (Nat.le_of_ble_eq_true rfl) ?_
  intro p e s m args below meth c C hr hlk htab X N9 G ls hl
  have hl : lv_has ls 4 [(0, .ref (ad 0)), (1, .int (iz a0)), (2, .ref (ad 200))] := hl
  refine g_aload_n C dL_about_0 rfl hl 2 rfl ?_
  refine g_iconst (a := 0) C dL_about_1 rfl ?_
  refine g_aload_n C dL_about_2 rfl hl 0 rfl ?_
  refine g_iload_n C dL_about_3 rfl hl 1 rfl ?_
  refine g_cxi C G (g_runVX (As := [.int (iz a0)]) (rest := [.int (iz 0), .ref (ad 200)]) (pos := 0) C G X M (cwV 1 C.1.2.2.2.2 gL_about_X7_about rfl rfl rfl (by decide +kernel) ⟨Nat.le_of_ble_eq_true rfl, Nat.le_of_ble_eq_true rfl⟩) (by omega) h0 (T := TX7) (N := 8) rfl rfl hl rfl (Nat.le_of_ble_eq_true rfl) dL_about_4 ⟨Nat.le_of_ble_eq_true rfl, Nat.le_of_ble_eq_true rfl⟩) (fun E ce q9 gx H locs hpx G hce hcv hcl => ?_) (fun r gm H locs hpo G => ?_)
  · have hE := hx E gx hpx
    subst hE
    refine vx_catch C.1.2.2.2.1 [] ⟨0, 9, 12, 13⟩ [] (htab.trans rfl) (fun z hz => nomatch hz) (by decide) (by decide) (C.1.2.2.2.2 _ (by decide +kernel : Cond.classLink RL 13 "java/lang/IllegalArgumentException" ∈ wsL_about)) (va_Nw.use rfl (X.1.1 "java/lang/IllegalArgumentException" (by decide))) hce hcv hcl ?_
    refine lv_astore_n (lv' := [(3, .ref q9), (0, .ref (ad 0)), (1, .int (iz a0)), (2, .ref (ad 200))]) C.1.1 C.1.2.1 dL_about_12 rfl hl (by decide) rfl (fun ls hl => ?_)
    refine g_iconst (a := 1) C dL_about_13 rfl ?_
    refine g_iret C G hr hlk (Nat.le_of_ble_eq_true rfl) (Nat.le_of_ble_eq_true rfl) dL_about_14 ?_
    exact Or.inr (⟨rfl, hpx⟩)
  · have hom : gm 200 = aJ κ 1 o9 := (hfr _ _ hpo).trans ho
    rw [iz_rI r]
    refine g_i2l C (rI_in r) dL_about_7 ?_
    refine g_lastore C G (pos := 200) (by omega) hom (by decide) (by decide) (by decide) dL_about_8 (fun H locs G => ?_)
    refine g_goto (tgt := 15) C dL_about_9 (by decide) ?_
    refine g_iconst (a := 0) C dL_about_15 rfl ?_
    refine g_iret C G hr hlk (Nat.le_of_ble_eq_true rfl) (Nat.le_of_ble_eq_true rfl) dL_about_16 ?_
    exact Or.inl ⟨rfl, r, gm, hpo, rfl⟩
set_option maxHeartbeats 4000000 in
set_option maxRecDepth 100000 in
theorem w_L_layer (l : Launch) (κ : gKap) (B n : Nat) (ad : Nat → Nat) (g : Nat → va_E) (a0 : Int) (a1 : Int) {post : Int → (Nat → va_E) → Prop} {px : String → (Nat → va_E) → Prop} {o9 : Int → Int64} {fs0 : List Value} (M : vx_Met l yX7_layer wsX7_layer ({ frames := 6, cells := 1, slots := 6, locals := 99 }) (gPreX κ B n ad g [.ref (ad 0), .int (iz a0), .int (iz a1)]) (gQi κ B n ad post) (gXX κ B n ad px) 1 6 (gFree B)) (hn : 201 ≤ n) (h0 : g 0 = .inr (7, fs0)) (ho : g 200 = aJ κ 1 o9) (hfr : ∀ z g', post z g' → g' 200 = g 200) (hx : ∀ E g9, px E g9 → E = "java/lang/IndexOutOfBoundsException" ∨ E = "java/lang/IllegalArgumentException") : Met l yL_layer wsL_layer ({ frames := 7, cells := 1, slots := 6, locals := 122 }) (gPreY κ B n ad g [.ref (ad 0), .int (iz a0), .int (iz a1), .ref (ad 200)]) (gQi κ B n ad (fun z g' => (z = 0 ∧ ∃ r gm, post r gm ∧ g' = va_up gm 200 (aJ κ 1 (vuJ o9 0 (jz (rI r))))) ∨ (z = 1 ∧ px "java/lang/IndexOutOfBoundsException" g') ∨ (z = 2 ∧ px "java/lang/IllegalArgumentException" g'))) 1 6 (gFree B) := by
  refine g_metH RL (cc := cL_layer) (maxL := 5) (ret := (some .int)) (hh := [(0, 10, 13, 28), (0, 10, 17, 13)]) (by decide) rfl rfl (Nat.le_of_ble_eq_true rfl) ?_
  intro p e s m args below meth c C hr hlk htab X N9 G ls hl
  have hl : lv_has ls 5 [(0, .ref (ad 0)), (1, .int (iz a0)), (2, .int (iz a1)), (3, .ref (ad 200))] := hl
  refine g_aload_n C dL_layer_0 rfl hl 3 rfl ?_
  refine g_iconst (a := 0) C dL_layer_1 rfl ?_
  refine g_aload_n C dL_layer_2 rfl hl 0 rfl ?_
  refine g_iload_n C dL_layer_3 rfl hl 1 rfl ?_
  refine g_iload_n C dL_layer_4 rfl hl 2 rfl ?_
  refine g_cxi C G (g_runVX (As := [.int (iz a0), .int (iz a1)]) (rest := [.int (iz 0), .ref (ad 200)]) (pos := 0) C G X M (cwV 2 C.1.2.2.2.2 gL_layer_X7_layer rfl rfl rfl (by decide +kernel) ⟨Nat.le_of_ble_eq_true rfl, Nat.le_of_ble_eq_true rfl⟩) (by omega) h0 (T := TX7) (N := 8) rfl rfl hl rfl (Nat.le_of_ble_eq_true rfl) dL_layer_5 ⟨Nat.le_of_ble_eq_true rfl, Nat.le_of_ble_eq_true rfl⟩) (fun E ce q9 gx H locs hpx G hce hcv hcl => ?_) (fun r gm H locs hpo G => ?_)
  · have hE := hx E gx hpx
    rcases hE with hE | hE
    · subst hE
      refine vx_catch C.1.2.2.2.1 [] ⟨0, 10, 13, 28⟩ [⟨0, 10, 17, 13⟩] (htab.trans rfl) (fun z hz => nomatch hz) (by decide) (by decide) (C.1.2.2.2.2 _ (by decide +kernel : Cond.classLink RL 28 "java/lang/IndexOutOfBoundsException" ∈ wsL_layer)) (va_Nw.use rfl (X.1.1 "java/lang/IndexOutOfBoundsException" (by decide))) hce hcv hcl ?_
      refine lv_astore (lv' := [(4, .ref q9), (0, .ref (ad 0)), (1, .int (iz a0)), (2, .int (iz a1)), (3, .ref (ad 200))]) C.1.1 C.1.2.1 dL_layer_13 hl (by decide) rfl (fun ls hl => ?_)
      refine g_iconst (a := 1) C dL_layer_15 rfl ?_
      refine g_iret C G hr hlk (Nat.le_of_ble_eq_true rfl) (Nat.le_of_ble_eq_true rfl) dL_layer_16 ?_
      exact Or.inr (Or.inl ⟨rfl, hpx⟩)
    · subst hE
      refine vx_catch C.1.2.2.2.1 [⟨0, 10, 13, 28⟩] ⟨0, 10, 17, 13⟩ [] (htab.trans rfl) (fun z hz => by rw [List.mem_singleton] at hz; subst hz; exact Or.inr ⟨by decide, "java/lang/IndexOutOfBoundsException", C.1.2.2.2.2 _ (by decide +kernel : Cond.classLink RL 28 "java/lang/IndexOutOfBoundsException" ∈ wsL_layer), N9 _ (by decide) _ (by decide) (by decide)⟩) (by decide) (by decide) (C.1.2.2.2.2 _ (by decide +kernel : Cond.classLink RL 13 "java/lang/IllegalArgumentException" ∈ wsL_layer)) (va_Nw.use rfl (X.1.1 "java/lang/IllegalArgumentException" (by decide))) hce hcv hcl ?_
      refine lv_astore (lv' := [(4, .ref q9), (0, .ref (ad 0)), (1, .int (iz a0)), (2, .int (iz a1)), (3, .ref (ad 200))]) C.1.1 C.1.2.1 dL_layer_17 hl (by decide) rfl (fun ls hl => ?_)
      refine g_iconst (a := 2) C dL_layer_19 rfl ?_
      refine g_iret C G hr hlk (Nat.le_of_ble_eq_true rfl) (Nat.le_of_ble_eq_true rfl) dL_layer_20 ?_
      exact Or.inr (Or.inr ⟨rfl, hpx⟩)
  · have hom : gm 200 = aJ κ 1 o9 := (hfr _ _ hpo).trans ho
    rw [iz_rI r]
    refine g_i2l C (rI_in r) dL_layer_8 ?_
    refine g_lastore C G (pos := 200) (by omega) hom (by decide) (by decide) (by decide) dL_layer_9 (fun H locs G => ?_)
    refine g_goto (tgt := 21) C dL_layer_10 (by decide) ?_
    refine g_iconst (a := 0) C dL_layer_21 rfl ?_
    refine g_iret C G hr hlk (Nat.le_of_ble_eq_true rfl) (Nat.le_of_ble_eq_true rfl) dL_layer_22 ?_
    exact Or.inl ⟨rfl, r, gm, hpo, rfl⟩
set_option maxHeartbeats 4000000 in
set_option maxRecDepth 100000 in
theorem w_L_pen (l : Launch) (κ : gKap) (B n : Nat) (ad : Nat → Nat) (g : Nat → va_E) (a0 : Int) (a1 : Int) {post : Int → (Nat → va_E) → Prop} {px : String → (Nat → va_E) → Prop} {o9 : Int → Int64} {fs0 : List Value} (M : vx_Met l yX7_pen wsX7_pen ({ frames := 6, cells := 1, slots := 6, locals := 82 }) (gPreX κ B n ad g [.ref (ad 0), .int (iz a0), .long (jz a1)]) (gQi κ B n ad post) (gXX κ B n ad px) 1 6 (gFree B)) (hn : 201 ≤ n) (h0 : g 0 = .inr (7, fs0)) (ho : g 200 = aJ κ 1 o9) (hfr : ∀ z g', post z g' → g' 200 = g 200) (hx : ∀ E g9, px E g9 → E = "java/lang/IndexOutOfBoundsException" ∨ E = "java/lang/IllegalArgumentException") : Met l yL_pen wsL_pen ({ frames := 7, cells := 1, slots := 6, locals := 106 }) (gPreY κ B n ad g [.ref (ad 0), .int (iz a0), .long (jz a1), .ref (ad 200)]) (gQi κ B n ad (fun z g' => (z = 0 ∧ ∃ r gm, post r gm ∧ g' = va_up gm 200 (aJ κ 1 (vuJ o9 0 (jz (rI r))))) ∨ (z = 1 ∧ px "java/lang/IndexOutOfBoundsException" g') ∨ (z = 2 ∧ px "java/lang/IllegalArgumentException" g'))) 1 6 (gFree B) := by
  refine g_metH RL (cc := cL_pen) (maxL := 6) (ret := (some .int)) (hh := [(0, 11, 14, 28), (0, 11, 18, 13)]) (by decide) rfl rfl (Nat.le_of_ble_eq_true rfl) ?_
  intro p e s m args below meth c C hr hlk htab X N9 G ls hl
  have hl : lv_has ls 6 [(0, .ref (ad 0)), (1, .int (iz a0)), (2, .long (jz a1)), (4, .ref (ad 200))] := hl
  refine g_aload C dL_pen_0 hl 3 rfl ?_
  refine g_iconst (a := 0) C dL_pen_2 rfl ?_
  refine g_aload_n C dL_pen_3 rfl hl 0 rfl ?_
  refine g_iload_n C dL_pen_4 rfl hl 1 rfl ?_
  refine g_lload_n C dL_pen_5 rfl hl 2 rfl ?_
  refine g_cxi C G (g_runVX (As := [.int (iz a0), .long (jz a1)]) (rest := [.int (iz 0), .ref (ad 200)]) (pos := 0) C G X M (cwV 2 C.1.2.2.2.2 gL_pen_X7_pen rfl rfl rfl (by decide +kernel) ⟨Nat.le_of_ble_eq_true rfl, Nat.le_of_ble_eq_true rfl⟩) (by omega) h0 (T := TX7) (N := 8) rfl rfl hl rfl (Nat.le_of_ble_eq_true rfl) dL_pen_6 ⟨Nat.le_of_ble_eq_true rfl, Nat.le_of_ble_eq_true rfl⟩) (fun E ce q9 gx H locs hpx G hce hcv hcl => ?_) (fun r gm H locs hpo G => ?_)
  · have hE := hx E gx hpx
    rcases hE with hE | hE
    · subst hE
      refine vx_catch C.1.2.2.2.1 [] ⟨0, 11, 14, 28⟩ [⟨0, 11, 18, 13⟩] (htab.trans rfl) (fun z hz => nomatch hz) (by decide) (by decide) (C.1.2.2.2.2 _ (by decide +kernel : Cond.classLink RL 28 "java/lang/IndexOutOfBoundsException" ∈ wsL_pen)) (va_Nw.use rfl (X.1.1 "java/lang/IndexOutOfBoundsException" (by decide))) hce hcv hcl ?_
      refine lv_astore (lv' := [(5, .ref q9), (0, .ref (ad 0)), (1, .int (iz a0)), (2, .long (jz a1)), (4, .ref (ad 200))]) C.1.1 C.1.2.1 dL_pen_14 hl (by decide) rfl (fun ls hl => ?_)
      refine g_iconst (a := 1) C dL_pen_16 rfl ?_
      refine g_iret C G hr hlk (Nat.le_of_ble_eq_true rfl) (Nat.le_of_ble_eq_true rfl) dL_pen_17 ?_
      exact Or.inr (Or.inl ⟨rfl, hpx⟩)
    · subst hE
      refine vx_catch C.1.2.2.2.1 [⟨0, 11, 14, 28⟩] ⟨0, 11, 18, 13⟩ [] (htab.trans rfl) (fun z hz => by rw [List.mem_singleton] at hz; subst hz; exact Or.inr ⟨by decide, "java/lang/IndexOutOfBoundsException", C.1.2.2.2.2 _ (by decide +kernel : Cond.classLink RL 28 "java/lang/IndexOutOfBoundsException" ∈ wsL_pen), N9 _ (by decide) _ (by decide) (by decide)⟩) (by decide) (by decide) (C.1.2.2.2.2 _ (by decide +kernel : Cond.classLink RL 13 "java/lang/IllegalArgumentException" ∈ wsL_pen)) (va_Nw.use rfl (X.1.1 "java/lang/IllegalArgumentException" (by decide))) hce hcv hcl ?_
      refine lv_astore (lv' := [(5, .ref q9), (0, .ref (ad 0)), (1, .int (iz a0)), (2, .long (jz a1)), (4, .ref (ad 200))]) C.1.1 C.1.2.1 dL_pen_18 hl (by decide) rfl (fun ls hl => ?_)
      refine g_iconst (a := 2) C dL_pen_20 rfl ?_
      refine g_iret C G hr hlk (Nat.le_of_ble_eq_true rfl) (Nat.le_of_ble_eq_true rfl) dL_pen_21 ?_
      exact Or.inr (Or.inr ⟨rfl, hpx⟩)
  · have hom : gm 200 = aJ κ 1 o9 := (hfr _ _ hpo).trans ho
    rw [iz_rI r]
    refine g_i2l C (rI_in r) dL_pen_9 ?_
    refine g_lastore C G (pos := 200) (by omega) hom (by decide) (by decide) (by decide) dL_pen_10 (fun H locs G => ?_)
    refine g_goto (tgt := 22) C dL_pen_11 (by decide) ?_
    refine g_iconst (a := 0) C dL_pen_22 rfl ?_
    refine g_iret C G hr hlk (Nat.le_of_ble_eq_true rfl) (Nat.le_of_ble_eq_true rfl) dL_pen_23 ?_
    exact Or.inl ⟨rfl, r, gm, hpo, rfl⟩
set_option maxHeartbeats 4000000 in
set_option maxRecDepth 100000 in
theorem w_L_comes (l : Launch) (κ : gKap) (B n : Nat) (ad : Nat → Nat) (g : Nat → va_E) (a0 : Int) (a1 : Int) (a2 : Int) {post : Int → (Nat → va_E) → Prop} {px : String → (Nat → va_E) → Prop} {o9 : Int → Int64} {fs0 : List Value} (M : vx_Met l yX7_comes wsX7_comes ({ frames := 6, cells := 1, slots := 6, locals := 82 }) (gPreX κ B n ad g [.ref (ad 0), .int (iz a0), .int (iz a1), .int (iz a2)]) (gQi κ B n ad post) (gXX κ B n ad px) 1 6 (gFree B)) (hn : 201 ≤ n) (h0 : g 0 = .inr (7, fs0)) (ho : g 200 = aJ κ 1 o9) (hfr : ∀ z g', post z g' → g' 200 = g 200) (hx : ∀ E g9, px E g9 → E = "java/lang/IndexOutOfBoundsException" ∨ E = "java/lang/IllegalArgumentException") : Met l yL_comes wsL_comes ({ frames := 7, cells := 1, slots := 6, locals := 106 }) (gPreY κ B n ad g [.ref (ad 0), .int (iz a0), .int (iz a1), .int (iz a2), .ref (ad 200)]) (gQi κ B n ad (fun z g' => (z = 0 ∧ ∃ r gm, post r gm ∧ g' = va_up gm 200 (aJ κ 1 (vuJ o9 0 (jz (rI r))))) ∨ (z = 1 ∧ px "java/lang/IndexOutOfBoundsException" g') ∨ (z = 2 ∧ px "java/lang/IllegalArgumentException" g'))) 1 6 (gFree B) := by
  refine g_metH RL (cc := cL_comes) (maxL := 6) (ret := (some .int)) (hh := [(0, 12, 15, 28), (0, 12, 19, 13)]) (by decide) rfl rfl (Nat.le_of_ble_eq_true rfl) ?_
  intro p e s m args below meth c C hr hlk htab X N9 G ls hl
  have hl : lv_has ls 6 [(0, .ref (ad 0)), (1, .int (iz a0)), (2, .int (iz a1)), (3, .int (iz a2)), (4, .ref (ad 200))] := hl
  refine g_aload C dL_comes_0 hl 4 rfl ?_
  refine g_iconst (a := 0) C dL_comes_2 rfl ?_
  refine g_aload_n C dL_comes_3 rfl hl 0 rfl ?_
  refine g_iload_n C dL_comes_4 rfl hl 1 rfl ?_
  refine g_iload_n C dL_comes_5 rfl hl 2 rfl ?_
  refine g_iload_n C dL_comes_6 rfl hl 3 rfl ?_
  refine g_cxi C G (g_runVX (As := [.int (iz a0), .int (iz a1), .int (iz a2)]) (rest := [.int (iz 0), .ref (ad 200)]) (pos := 0) C G X M (cwV 3 C.1.2.2.2.2 gL_comes_X7_comes rfl rfl rfl (by decide +kernel) ⟨Nat.le_of_ble_eq_true rfl, Nat.le_of_ble_eq_true rfl⟩) (by omega) h0 (T := TX7) (N := 8) rfl rfl hl rfl (Nat.le_of_ble_eq_true rfl) dL_comes_7 ⟨Nat.le_of_ble_eq_true rfl, Nat.le_of_ble_eq_true rfl⟩) (fun E ce q9 gx H locs hpx G hce hcv hcl => ?_) (fun r gm H locs hpo G => ?_)
  · have hE := hx E gx hpx
    rcases hE with hE | hE
    · subst hE
      refine vx_catch C.1.2.2.2.1 [] ⟨0, 12, 15, 28⟩ [⟨0, 12, 19, 13⟩] (htab.trans rfl) (fun z hz => nomatch hz) (by decide) (by decide) (C.1.2.2.2.2 _ (by decide +kernel : Cond.classLink RL 28 "java/lang/IndexOutOfBoundsException" ∈ wsL_comes)) (va_Nw.use rfl (X.1.1 "java/lang/IndexOutOfBoundsException" (by decide))) hce hcv hcl ?_
      refine lv_astore (lv' := [(5, .ref q9), (0, .ref (ad 0)), (1, .int (iz a0)), (2, .int (iz a1)), (3, .int (iz a2)), (4, .ref (ad 200))]) C.1.1 C.1.2.1 dL_comes_15 hl (by decide) rfl (fun ls hl => ?_)
      refine g_iconst (a := 1) C dL_comes_17 rfl ?_
      refine g_iret C G hr hlk (Nat.le_of_ble_eq_true rfl) (Nat.le_of_ble_eq_true rfl) dL_comes_18 ?_
      exact Or.inr (Or.inl ⟨rfl, hpx⟩)
    · subst hE
      refine vx_catch C.1.2.2.2.1 [⟨0, 12, 15, 28⟩] ⟨0, 12, 19, 13⟩ [] (htab.trans rfl) (fun z hz => by rw [List.mem_singleton] at hz; subst hz; exact Or.inr ⟨by decide, "java/lang/IndexOutOfBoundsException", C.1.2.2.2.2 _ (by decide +kernel : Cond.classLink RL 28 "java/lang/IndexOutOfBoundsException" ∈ wsL_comes), N9 _ (by decide) _ (by decide) (by decide)⟩) (by decide) (by decide) (C.1.2.2.2.2 _ (by decide +kernel : Cond.classLink RL 13 "java/lang/IllegalArgumentException" ∈ wsL_comes)) (va_Nw.use rfl (X.1.1 "java/lang/IllegalArgumentException" (by decide))) hce hcv hcl ?_
      refine lv_astore (lv' := [(5, .ref q9), (0, .ref (ad 0)), (1, .int (iz a0)), (2, .int (iz a1)), (3, .int (iz a2)), (4, .ref (ad 200))]) C.1.1 C.1.2.1 dL_comes_19 hl (by decide) rfl (fun ls hl => ?_)
      refine g_iconst (a := 2) C dL_comes_21 rfl ?_
      refine g_iret C G hr hlk (Nat.le_of_ble_eq_true rfl) (Nat.le_of_ble_eq_true rfl) dL_comes_22 ?_
      exact Or.inr (Or.inr ⟨rfl, hpx⟩)
  · have hom : gm 200 = aJ κ 1 o9 := (hfr _ _ hpo).trans ho
    rw [iz_rI r]
    refine g_i2l C (rI_in r) dL_comes_10 ?_
    refine g_lastore C G (pos := 200) (by omega) hom (by decide) (by decide) (by decide) dL_comes_11 (fun H locs G => ?_)
    refine g_goto (tgt := 23) C dL_comes_12 (by decide) ?_
    refine g_iconst (a := 0) C dL_comes_23 rfl ?_
    refine g_iret C G hr hlk (Nat.le_of_ble_eq_true rfl) (Nat.le_of_ble_eq_true rfl) dL_comes_24 ?_
    exact Or.inl ⟨rfl, r, gm, hpo, rfl⟩
set_option maxHeartbeats 4000000 in
set_option maxRecDepth 100000 in
theorem w_L_at (l : Launch) (κ : gKap) (B n : Nat) (ad : Nat → Nat) (g : Nat → va_E) (a0 : Int) {post : Int → (Nat → va_E) → Prop} {px : String → (Nat → va_E) → Prop} {o9 : Int → Int64} {fs0 : List Value} (M : vx_Met l yX7_at wsX7_at ({ frames := 6, cells := 1, slots := 6, locals := 100 }) (gPreX κ B n ad g [.ref (ad 0), .int (iz a0)]) (gQi κ B n ad post) (gXX κ B n ad px) 1 6 (gFree B)) (hn : 201 ≤ n) (h0 : g 0 = .inr (7, fs0)) (ho : g 200 = aJ κ 1 o9) (hfr : ∀ z g', post z g' → g' 200 = g 200) (hx : ∀ E g9, px E g9 → E = "java/lang/IllegalArgumentException") : Met l yL_at wsL_at ({ frames := 7, cells := 1, slots := 6, locals := 121 }) (gPreY κ B n ad g [.ref (ad 0), .int (iz a0), .ref (ad 200)]) (gQi κ B n ad (fun z g' => (z = 0 ∧ ∃ r gm, post r gm ∧ g' = va_up gm 200 (aJ κ 1 (vuJ o9 0 (jz (rI r))))) ∨ (z = 1 ∧ px "java/lang/IllegalArgumentException" g'))) 1 6 (gFree B) := by
  refine g_metH RL (cc := cL_at) (maxL := 4) (ret := (some .int)) (hh := [(0, 9, 12, 13)]) (by decide) rfl rfl (Nat.le_of_ble_eq_true rfl) ?_
  intro p e s m args below meth c C hr hlk htab X N9 G ls hl
  have hl : lv_has ls 4 [(0, .ref (ad 0)), (1, .int (iz a0)), (2, .ref (ad 200))] := hl
  refine g_aload_n C dL_at_0 rfl hl 2 rfl ?_
  refine g_iconst (a := 0) C dL_at_1 rfl ?_
  refine g_aload_n C dL_at_2 rfl hl 0 rfl ?_
  refine g_iload_n C dL_at_3 rfl hl 1 rfl ?_
  refine g_cxi C G (g_runVX (As := [.int (iz a0)]) (rest := [.int (iz 0), .ref (ad 200)]) (pos := 0) C G X M (cwV 1 C.1.2.2.2.2 gL_at_X7_at rfl rfl rfl (by decide +kernel) ⟨Nat.le_of_ble_eq_true rfl, Nat.le_of_ble_eq_true rfl⟩) (by omega) h0 (T := TX7) (N := 8) rfl rfl hl rfl (Nat.le_of_ble_eq_true rfl) dL_at_4 ⟨Nat.le_of_ble_eq_true rfl, Nat.le_of_ble_eq_true rfl⟩) (fun E ce q9 gx H locs hpx G hce hcv hcl => ?_) (fun r gm H locs hpo G => ?_)
  · have hE := hx E gx hpx
    subst hE
    refine vx_catch C.1.2.2.2.1 [] ⟨0, 9, 12, 13⟩ [] (htab.trans rfl) (fun z hz => nomatch hz) (by decide) (by decide) (C.1.2.2.2.2 _ (by decide +kernel : Cond.classLink RL 13 "java/lang/IllegalArgumentException" ∈ wsL_at)) (va_Nw.use rfl (X.1.1 "java/lang/IllegalArgumentException" (by decide))) hce hcv hcl ?_
    refine lv_astore_n (lv' := [(3, .ref q9), (0, .ref (ad 0)), (1, .int (iz a0)), (2, .ref (ad 200))]) C.1.1 C.1.2.1 dL_at_12 rfl hl (by decide) rfl (fun ls hl => ?_)
    refine g_iconst (a := 1) C dL_at_13 rfl ?_
    refine g_iret C G hr hlk (Nat.le_of_ble_eq_true rfl) (Nat.le_of_ble_eq_true rfl) dL_at_14 ?_
    exact Or.inr (⟨rfl, hpx⟩)
  · have hom : gm 200 = aJ κ 1 o9 := (hfr _ _ hpo).trans ho
    rw [iz_rI r]
    refine g_i2l C (rI_in r) dL_at_7 ?_
    refine g_lastore C G (pos := 200) (by omega) hom (by decide) (by decide) (by decide) dL_at_8 (fun H locs G => ?_)
    refine g_goto (tgt := 15) C dL_at_9 (by decide) ?_
    refine g_iconst (a := 0) C dL_at_15 rfl ?_
    refine g_iret C G hr hlk (Nat.le_of_ble_eq_true rfl) (Nat.le_of_ble_eq_true rfl) dL_at_16 ?_
    exact Or.inl ⟨rfl, r, gm, hpo, rfl⟩
set_option maxHeartbeats 4000000 in
set_option maxRecDepth 100000 in
theorem w_L_order (l : Launch) (κ : gKap) (B n : Nat) (ad : Nat → Nat) (g : Nat → va_E) (a0 : Int) {post : Int → (Nat → va_E) → Prop} {px : String → (Nat → va_E) → Prop} {o9 : Int → Int64} {fs0 : List Value} (M : vx_Met l yX7_order wsX7_order ({ frames := 6, cells := 1, slots := 6, locals := 98 }) (gPreX κ B n ad g [.ref (ad 0), .int (iz a0)]) (gQi κ B n ad post) (gXX κ B n ad px) 1 6 (gFree B)) (hn : 201 ≤ n) (h0 : g 0 = .inr (7, fs0)) (ho : g 200 = aJ κ 1 o9) (hfr : ∀ z g', post z g' → g' 200 = g 200) (hx : ∀ E g9, px E g9 → E = "java/lang/IllegalArgumentException") : Met l yL_order wsL_order ({ frames := 7, cells := 1, slots := 6, locals := 120 }) (gPreY κ B n ad g [.ref (ad 0), .int (iz a0), .ref (ad 200)]) (gQi κ B n ad (fun z g' => (z = 0 ∧ ∃ r gm, post r gm ∧ g' = va_up gm 200 (aJ κ 1 (vuJ o9 0 (jz (rI r))))) ∨ (z = 1 ∧ px "java/lang/IllegalArgumentException" g'))) 1 6 (gFree B) := by
  refine g_metH RL (cc := cL_order) (maxL := 4) (ret := (some .int)) (hh := [(0, 9, 12, 13)]) (by decide) rfl rfl (Nat.le_of_ble_eq_true rfl) ?_
  intro p e s m args below meth c C hr hlk htab X N9 G ls hl
  have hl : lv_has ls 4 [(0, .ref (ad 0)), (1, .int (iz a0)), (2, .ref (ad 200))] := hl
  refine g_aload_n C dL_order_0 rfl hl 2 rfl ?_
  refine g_iconst (a := 0) C dL_order_1 rfl ?_
  refine g_aload_n C dL_order_2 rfl hl 0 rfl ?_
  refine g_iload_n C dL_order_3 rfl hl 1 rfl ?_
  refine g_cxi C G (g_runVX (As := [.int (iz a0)]) (rest := [.int (iz 0), .ref (ad 200)]) (pos := 0) C G X M (cwV 1 C.1.2.2.2.2 gL_order_X7_order rfl rfl rfl (by decide +kernel) ⟨Nat.le_of_ble_eq_true rfl, Nat.le_of_ble_eq_true rfl⟩) (by omega) h0 (T := TX7) (N := 8) rfl rfl hl rfl (Nat.le_of_ble_eq_true rfl) dL_order_4 ⟨Nat.le_of_ble_eq_true rfl, Nat.le_of_ble_eq_true rfl⟩) (fun E ce q9 gx H locs hpx G hce hcv hcl => ?_) (fun r gm H locs hpo G => ?_)
  · have hE := hx E gx hpx
    subst hE
    refine vx_catch C.1.2.2.2.1 [] ⟨0, 9, 12, 13⟩ [] (htab.trans rfl) (fun z hz => nomatch hz) (by decide) (by decide) (C.1.2.2.2.2 _ (by decide +kernel : Cond.classLink RL 13 "java/lang/IllegalArgumentException" ∈ wsL_order)) (va_Nw.use rfl (X.1.1 "java/lang/IllegalArgumentException" (by decide))) hce hcv hcl ?_
    refine lv_astore_n (lv' := [(3, .ref q9), (0, .ref (ad 0)), (1, .int (iz a0)), (2, .ref (ad 200))]) C.1.1 C.1.2.1 dL_order_12 rfl hl (by decide) rfl (fun ls hl => ?_)
    refine g_iconst (a := 1) C dL_order_13 rfl ?_
    refine g_iret C G hr hlk (Nat.le_of_ble_eq_true rfl) (Nat.le_of_ble_eq_true rfl) dL_order_14 ?_
    exact Or.inr (⟨rfl, hpx⟩)
  · have hom : gm 200 = aJ κ 1 o9 := (hfr _ _ hpo).trans ho
    rw [iz_rI r]
    refine g_i2l C (rI_in r) dL_order_7 ?_
    refine g_lastore C G (pos := 200) (by omega) hom (by decide) (by decide) (by decide) dL_order_8 (fun H locs G => ?_)
    refine g_goto (tgt := 15) C dL_order_9 (by decide) ?_
    refine g_iconst (a := 0) C dL_order_15 rfl ?_
    refine g_iret C G hr hlk (Nat.le_of_ble_eq_true rfl) (Nat.le_of_ble_eq_true rfl) dL_order_16 ?_
    exact Or.inl ⟨rfl, r, gm, hpo, rfl⟩
set_option maxHeartbeats 4000000 in
set_option maxRecDepth 100000 in
theorem w_L_sighting (l : Launch) (κ : gKap) (B n : Nat) (ad : Nat → Nat) (g : Nat → va_E) (a0 : Int) (a1 : Int) {post : Int → (Nat → va_E) → Prop} {px : String → (Nat → va_E) → Prop} {o9 : Int → Int64} {fs0 : List Value} (M : vx_Met l yX7_sighting wsX7_sighting ({ frames := 6, cells := 1, slots := 6, locals := 103 }) (gPreX κ B n ad g [.ref (ad 0), .int (iz a0), .int (iz a1)]) (gQi κ B n ad post) (gXX κ B n ad px) 1 6 (gFree B)) (hn : 201 ≤ n) (h0 : g 0 = .inr (7, fs0)) (ho : g 200 = aJ κ 1 o9) (hfr : ∀ z g', post z g' → g' 200 = g 200) (hx : ∀ E g9, px E g9 → E = "java/lang/IndexOutOfBoundsException" ∨ E = "java/lang/IllegalArgumentException") : Met l yL_sighting wsL_sighting ({ frames := 7, cells := 1, slots := 6, locals := 125 }) (gPreY κ B n ad g [.ref (ad 0), .int (iz a0), .int (iz a1), .ref (ad 200)]) (gQi κ B n ad (fun z g' => (z = 0 ∧ ∃ r gm, post r gm ∧ g' = va_up gm 200 (aJ κ 1 (vuJ o9 0 (jz (rI r))))) ∨ (z = 1 ∧ px "java/lang/IndexOutOfBoundsException" g') ∨ (z = 2 ∧ px "java/lang/IllegalArgumentException" g'))) 1 6 (gFree B) := by
  refine g_metH RL (cc := cL_sighting) (maxL := 5) (ret := (some .int)) (hh := [(0, 10, 13, 28), (0, 10, 17, 13)]) (by decide) rfl rfl (Nat.le_of_ble_eq_true rfl) ?_
  intro p e s m args below meth c C hr hlk htab X N9 G ls hl
  have hl : lv_has ls 5 [(0, .ref (ad 0)), (1, .int (iz a0)), (2, .int (iz a1)), (3, .ref (ad 200))] := hl
  refine g_aload_n C dL_sighting_0 rfl hl 3 rfl ?_
  refine g_iconst (a := 0) C dL_sighting_1 rfl ?_
  refine g_aload_n C dL_sighting_2 rfl hl 0 rfl ?_
  refine g_iload_n C dL_sighting_3 rfl hl 1 rfl ?_
  refine g_iload_n C dL_sighting_4 rfl hl 2 rfl ?_
  refine g_cxi C G (g_runVX (As := [.int (iz a0), .int (iz a1)]) (rest := [.int (iz 0), .ref (ad 200)]) (pos := 0) C G X M (cwV 2 C.1.2.2.2.2 gL_sighting_X7_sighting rfl rfl rfl (by decide +kernel) ⟨Nat.le_of_ble_eq_true rfl, Nat.le_of_ble_eq_true rfl⟩) (by omega) h0 (T := TX7) (N := 8) rfl rfl hl rfl (Nat.le_of_ble_eq_true rfl) dL_sighting_5 ⟨Nat.le_of_ble_eq_true rfl, Nat.le_of_ble_eq_true rfl⟩) (fun E ce q9 gx H locs hpx G hce hcv hcl => ?_) (fun r gm H locs hpo G => ?_)
  · have hE := hx E gx hpx
    rcases hE with hE | hE
    · subst hE
      refine vx_catch C.1.2.2.2.1 [] ⟨0, 10, 13, 28⟩ [⟨0, 10, 17, 13⟩] (htab.trans rfl) (fun z hz => nomatch hz) (by decide) (by decide) (C.1.2.2.2.2 _ (by decide +kernel : Cond.classLink RL 28 "java/lang/IndexOutOfBoundsException" ∈ wsL_sighting)) (va_Nw.use rfl (X.1.1 "java/lang/IndexOutOfBoundsException" (by decide))) hce hcv hcl ?_
      refine lv_astore (lv' := [(4, .ref q9), (0, .ref (ad 0)), (1, .int (iz a0)), (2, .int (iz a1)), (3, .ref (ad 200))]) C.1.1 C.1.2.1 dL_sighting_13 hl (by decide) rfl (fun ls hl => ?_)
      refine g_iconst (a := 1) C dL_sighting_15 rfl ?_
      refine g_iret C G hr hlk (Nat.le_of_ble_eq_true rfl) (Nat.le_of_ble_eq_true rfl) dL_sighting_16 ?_
      exact Or.inr (Or.inl ⟨rfl, hpx⟩)
    · subst hE
      refine vx_catch C.1.2.2.2.1 [⟨0, 10, 13, 28⟩] ⟨0, 10, 17, 13⟩ [] (htab.trans rfl) (fun z hz => by rw [List.mem_singleton] at hz; subst hz; exact Or.inr ⟨by decide, "java/lang/IndexOutOfBoundsException", C.1.2.2.2.2 _ (by decide +kernel : Cond.classLink RL 28 "java/lang/IndexOutOfBoundsException" ∈ wsL_sighting), N9 _ (by decide) _ (by decide) (by decide)⟩) (by decide) (by decide) (C.1.2.2.2.2 _ (by decide +kernel : Cond.classLink RL 13 "java/lang/IllegalArgumentException" ∈ wsL_sighting)) (va_Nw.use rfl (X.1.1 "java/lang/IllegalArgumentException" (by decide))) hce hcv hcl ?_
      refine lv_astore (lv' := [(4, .ref q9), (0, .ref (ad 0)), (1, .int (iz a0)), (2, .int (iz a1)), (3, .ref (ad 200))]) C.1.1 C.1.2.1 dL_sighting_17 hl (by decide) rfl (fun ls hl => ?_)
      refine g_iconst (a := 2) C dL_sighting_19 rfl ?_
      refine g_iret C G hr hlk (Nat.le_of_ble_eq_true rfl) (Nat.le_of_ble_eq_true rfl) dL_sighting_20 ?_
      exact Or.inr (Or.inr ⟨rfl, hpx⟩)
  · have hom : gm 200 = aJ κ 1 o9 := (hfr _ _ hpo).trans ho
    rw [iz_rI r]
    refine g_i2l C (rI_in r) dL_sighting_8 ?_
    refine g_lastore C G (pos := 200) (by omega) hom (by decide) (by decide) (by decide) dL_sighting_9 (fun H locs G => ?_)
    refine g_goto (tgt := 21) C dL_sighting_10 (by decide) ?_
    refine g_iconst (a := 0) C dL_sighting_21 rfl ?_
    refine g_iret C G hr hlk (Nat.le_of_ble_eq_true rfl) (Nat.le_of_ble_eq_true rfl) dL_sighting_22 ?_
    exact Or.inl ⟨rfl, r, gm, hpo, rfl⟩
set_option maxHeartbeats 4000000 in
set_option maxRecDepth 100000 in
theorem w_L_common (l : Launch) (κ : gKap) (B n : Nat) (ad : Nat → Nat) (g : Nat → va_E) (a0 : Int) (a1 : Int) {post : Int → (Nat → va_E) → Prop} {px : String → (Nat → va_E) → Prop} {o9 : Int → Int64} {fs0 : List Value} (M : vx_Met l yX7_common wsX7_common ({ frames := 6, cells := 1, slots := 6, locals := 100 }) (gPreX κ B n ad g [.ref (ad 0), .int (iz a0), .int (iz a1)]) (gQi κ B n ad post) (gXX κ B n ad px) 1 6 (gFree B)) (hn : 201 ≤ n) (h0 : g 0 = .inr (7, fs0)) (ho : g 200 = aJ κ 1 o9) (hfr : ∀ z g', post z g' → g' 200 = g 200) (hx : ∀ E g9, px E g9 → E = "java/lang/IndexOutOfBoundsException") : Met l yL_common wsL_common ({ frames := 7, cells := 1, slots := 6, locals := 124 }) (gPreY κ B n ad g [.ref (ad 0), .int (iz a0), .int (iz a1), .ref (ad 200)]) (gQi κ B n ad (fun z g' => (z = 0 ∧ ∃ r gm, post r gm ∧ g' = va_up gm 200 (aJ κ 1 (vuJ o9 0 (jz (rI r))))) ∨ (z = 1 ∧ px "java/lang/IndexOutOfBoundsException" g'))) 1 6 (gFree B) := by
  refine g_metH RL (cc := cL_common) (maxL := 5) (ret := (some .int)) (hh := [(0, 10, 13, 28)]) (by decide) rfl rfl (Nat.le_of_ble_eq_true rfl) ?_
  intro p e s m args below meth c C hr hlk htab X N9 G ls hl
  have hl : lv_has ls 5 [(0, .ref (ad 0)), (1, .int (iz a0)), (2, .int (iz a1)), (3, .ref (ad 200))] := hl
  refine g_aload_n C dL_common_0 rfl hl 3 rfl ?_
  refine g_iconst (a := 0) C dL_common_1 rfl ?_
  refine g_aload_n C dL_common_2 rfl hl 0 rfl ?_
  refine g_iload_n C dL_common_3 rfl hl 1 rfl ?_
  refine g_iload_n C dL_common_4 rfl hl 2 rfl ?_
  refine g_cxi C G (g_runVX (As := [.int (iz a0), .int (iz a1)]) (rest := [.int (iz 0), .ref (ad 200)]) (pos := 0) C G X M (cwV 2 C.1.2.2.2.2 gL_common_X7_common rfl rfl rfl (by decide +kernel) ⟨Nat.le_of_ble_eq_true rfl, Nat.le_of_ble_eq_true rfl⟩) (by omega) h0 (T := TX7) (N := 8) rfl rfl hl rfl (Nat.le_of_ble_eq_true rfl) dL_common_5 ⟨Nat.le_of_ble_eq_true rfl, Nat.le_of_ble_eq_true rfl⟩) (fun E ce q9 gx H locs hpx G hce hcv hcl => ?_) (fun r gm H locs hpo G => ?_)
  · have hE := hx E gx hpx
    subst hE
    refine vx_catch C.1.2.2.2.1 [] ⟨0, 10, 13, 28⟩ [] (htab.trans rfl) (fun z hz => nomatch hz) (by decide) (by decide) (C.1.2.2.2.2 _ (by decide +kernel : Cond.classLink RL 28 "java/lang/IndexOutOfBoundsException" ∈ wsL_common)) (va_Nw.use rfl (X.1.1 "java/lang/IndexOutOfBoundsException" (by decide))) hce hcv hcl ?_
    refine lv_astore (lv' := [(4, .ref q9), (0, .ref (ad 0)), (1, .int (iz a0)), (2, .int (iz a1)), (3, .ref (ad 200))]) C.1.1 C.1.2.1 dL_common_13 hl (by decide) rfl (fun ls hl => ?_)
    refine g_iconst (a := 1) C dL_common_15 rfl ?_
    refine g_iret C G hr hlk (Nat.le_of_ble_eq_true rfl) (Nat.le_of_ble_eq_true rfl) dL_common_16 ?_
    exact Or.inr (⟨rfl, hpx⟩)
  · have hom : gm 200 = aJ κ 1 o9 := (hfr _ _ hpo).trans ho
    rw [iz_rI r]
    refine g_i2l C (rI_in r) dL_common_8 ?_
    refine g_lastore C G (pos := 200) (by omega) hom (by decide) (by decide) (by decide) dL_common_9 (fun H locs G => ?_)
    refine g_goto (tgt := 17) C dL_common_10 (by decide) ?_
    refine g_iconst (a := 0) C dL_common_17 rfl ?_
    refine g_iret C G hr hlk (Nat.le_of_ble_eq_true rfl) (Nat.le_of_ble_eq_true rfl) dL_common_18 ?_
    exact Or.inl ⟨rfl, r, gm, hpo, rfl⟩
set_option maxHeartbeats 4000000 in
set_option maxRecDepth 100000 in
theorem w_L_meet (l : Launch) (κ : gKap) (B n : Nat) (ad : Nat → Nat) (g : Nat → va_E) (a0 : Int) (a1 : Int) {post : Int → (Nat → va_E) → Prop} {px : String → (Nat → va_E) → Prop} {o9 : Int → Int64} {fs0 : List Value} (M : vx_Met l yX7_meet wsX7_meet ({ frames := 6, cells := 1, slots := 6, locals := 82 }) (gPreX κ B n ad g [.ref (ad 0), .int (iz a0), .int (iz a1)]) (gQi κ B n ad post) (gXX κ B n ad px) 1 6 (gFree B)) (hn : 201 ≤ n) (h0 : g 0 = .inr (7, fs0)) (ho : g 200 = aJ κ 1 o9) (hfr : ∀ z g', post z g' → g' 200 = g 200) (hx : ∀ E g9, px E g9 → E = "java/lang/IndexOutOfBoundsException") : Met l yL_meet wsL_meet ({ frames := 7, cells := 1, slots := 6, locals := 106 }) (gPreY κ B n ad g [.ref (ad 0), .int (iz a0), .int (iz a1), .ref (ad 200)]) (gQi κ B n ad (fun z g' => (z = 0 ∧ ∃ r gm, post r gm ∧ g' = va_up gm 200 (aJ κ 1 (vuJ o9 0 (jz (rI r))))) ∨ (z = 1 ∧ px "java/lang/IndexOutOfBoundsException" g'))) 1 6 (gFree B) := by
  refine g_metH RL (cc := cL_meet) (maxL := 5) (ret := (some .int)) (hh := [(0, 10, 13, 28)]) (by decide) rfl rfl (Nat.le_of_ble_eq_true rfl) ?_
  intro p e s m args below meth c C hr hlk htab X N9 G ls hl
  have hl : lv_has ls 5 [(0, .ref (ad 0)), (1, .int (iz a0)), (2, .int (iz a1)), (3, .ref (ad 200))] := hl
  refine g_aload_n C dL_meet_0 rfl hl 3 rfl ?_
  refine g_iconst (a := 0) C dL_meet_1 rfl ?_
  refine g_aload_n C dL_meet_2 rfl hl 0 rfl ?_
  refine g_iload_n C dL_meet_3 rfl hl 1 rfl ?_
  refine g_iload_n C dL_meet_4 rfl hl 2 rfl ?_
  refine g_cxi C G (g_runVX (As := [.int (iz a0), .int (iz a1)]) (rest := [.int (iz 0), .ref (ad 200)]) (pos := 0) C G X M (cwV 2 C.1.2.2.2.2 gL_meet_X7_meet rfl rfl rfl (by decide +kernel) ⟨Nat.le_of_ble_eq_true rfl, Nat.le_of_ble_eq_true rfl⟩) (by omega) h0 (T := TX7) (N := 8) rfl rfl hl rfl (Nat.le_of_ble_eq_true rfl) dL_meet_5 ⟨Nat.le_of_ble_eq_true rfl, Nat.le_of_ble_eq_true rfl⟩) (fun E ce q9 gx H locs hpx G hce hcv hcl => ?_) (fun r gm H locs hpo G => ?_)
  · have hE := hx E gx hpx
    subst hE
    refine vx_catch C.1.2.2.2.1 [] ⟨0, 10, 13, 28⟩ [] (htab.trans rfl) (fun z hz => nomatch hz) (by decide) (by decide) (C.1.2.2.2.2 _ (by decide +kernel : Cond.classLink RL 28 "java/lang/IndexOutOfBoundsException" ∈ wsL_meet)) (va_Nw.use rfl (X.1.1 "java/lang/IndexOutOfBoundsException" (by decide))) hce hcv hcl ?_
    refine lv_astore (lv' := [(4, .ref q9), (0, .ref (ad 0)), (1, .int (iz a0)), (2, .int (iz a1)), (3, .ref (ad 200))]) C.1.1 C.1.2.1 dL_meet_13 hl (by decide) rfl (fun ls hl => ?_)
    refine g_iconst (a := 1) C dL_meet_15 rfl ?_
    refine g_iret C G hr hlk (Nat.le_of_ble_eq_true rfl) (Nat.le_of_ble_eq_true rfl) dL_meet_16 ?_
    exact Or.inr (⟨rfl, hpx⟩)
  · have hom : gm 200 = aJ κ 1 o9 := (hfr _ _ hpo).trans ho
    rw [iz_rI r]
    refine g_i2l C (rI_in r) dL_meet_8 ?_
    refine g_lastore C G (pos := 200) (by omega) hom (by decide) (by decide) (by decide) dL_meet_9 (fun H locs G => ?_)
    refine g_goto (tgt := 17) C dL_meet_10 (by decide) ?_
    refine g_iconst (a := 0) C dL_meet_17 rfl ?_
    refine g_iret C G hr hlk (Nat.le_of_ble_eq_true rfl) (Nat.le_of_ble_eq_true rfl) dL_meet_18 ?_
    exact Or.inl ⟨rfl, r, gm, hpo, rfl⟩
set_option maxHeartbeats 4000000 in
set_option maxRecDepth 100000 in
theorem w_L_turned (l : Launch) (κ : gKap) (B n : Nat) (ad : Nat → Nat) (g : Nat → va_E) (a0 : Int) (a1 : Int) {post : Int → (Nat → va_E) → Prop} {px : String → (Nat → va_E) → Prop} {o9 : Int → Int64} {fs0 : List Value} (M : vx_Met l yX7_turned wsX7_turned ({ frames := 6, cells := 1, slots := 6, locals := 102 }) (gPreX κ B n ad g [.ref (ad 0), .int (iz a0), .int (iz a1)]) (gQi κ B n ad post) (gXX κ B n ad px) 1 6 (gFree B)) (hn : 201 ≤ n) (h0 : g 0 = .inr (7, fs0)) (ho : g 200 = aJ κ 1 o9) (hfr : ∀ z g', post z g' → g' 200 = g 200) (hx : ∀ E g9, px E g9 → E = "java/lang/IndexOutOfBoundsException") : Met l yL_turned wsL_turned ({ frames := 7, cells := 1, slots := 6, locals := 126 }) (gPreY κ B n ad g [.ref (ad 0), .int (iz a0), .int (iz a1), .ref (ad 200)]) (gQi κ B n ad (fun z g' => (z = 0 ∧ ∃ r gm, post r gm ∧ g' = va_up gm 200 (aJ κ 1 (vuJ o9 0 (jz (rI r))))) ∨ (z = 1 ∧ px "java/lang/IndexOutOfBoundsException" g'))) 1 6 (gFree B) := by
  refine g_metH RL (cc := cL_turned) (maxL := 5) (ret := (some .int)) (hh := [(0, 10, 13, 28)]) (by decide) rfl rfl (Nat.le_of_ble_eq_true rfl) ?_
  intro p e s m args below meth c C hr hlk htab X N9 G ls hl
  have hl : lv_has ls 5 [(0, .ref (ad 0)), (1, .int (iz a0)), (2, .int (iz a1)), (3, .ref (ad 200))] := hl
  refine g_aload_n C dL_turned_0 rfl hl 3 rfl ?_
  refine g_iconst (a := 0) C dL_turned_1 rfl ?_
  refine g_aload_n C dL_turned_2 rfl hl 0 rfl ?_
  refine g_iload_n C dL_turned_3 rfl hl 1 rfl ?_
  refine g_iload_n C dL_turned_4 rfl hl 2 rfl ?_
  refine g_cxi C G (g_runVX (As := [.int (iz a0), .int (iz a1)]) (rest := [.int (iz 0), .ref (ad 200)]) (pos := 0) C G X M (cwV 2 C.1.2.2.2.2 gL_turned_X7_turned rfl rfl rfl (by decide +kernel) ⟨Nat.le_of_ble_eq_true rfl, Nat.le_of_ble_eq_true rfl⟩) (by omega) h0 (T := TX7) (N := 8) rfl rfl hl rfl (Nat.le_of_ble_eq_true rfl) dL_turned_5 ⟨Nat.le_of_ble_eq_true rfl, Nat.le_of_ble_eq_true rfl⟩) (fun E ce q9 gx H locs hpx G hce hcv hcl => ?_) (fun r gm H locs hpo G => ?_)
  · have hE := hx E gx hpx
    subst hE
    refine vx_catch C.1.2.2.2.1 [] ⟨0, 10, 13, 28⟩ [] (htab.trans rfl) (fun z hz => nomatch hz) (by decide) (by decide) (C.1.2.2.2.2 _ (by decide +kernel : Cond.classLink RL 28 "java/lang/IndexOutOfBoundsException" ∈ wsL_turned)) (va_Nw.use rfl (X.1.1 "java/lang/IndexOutOfBoundsException" (by decide))) hce hcv hcl ?_
    refine lv_astore (lv' := [(4, .ref q9), (0, .ref (ad 0)), (1, .int (iz a0)), (2, .int (iz a1)), (3, .ref (ad 200))]) C.1.1 C.1.2.1 dL_turned_13 hl (by decide) rfl (fun ls hl => ?_)
    refine g_iconst (a := 1) C dL_turned_15 rfl ?_
    refine g_iret C G hr hlk (Nat.le_of_ble_eq_true rfl) (Nat.le_of_ble_eq_true rfl) dL_turned_16 ?_
    exact Or.inr (⟨rfl, hpx⟩)
  · have hom : gm 200 = aJ κ 1 o9 := (hfr _ _ hpo).trans ho
    rw [iz_rI r]
    refine g_i2l C (rI_in r) dL_turned_8 ?_
    refine g_lastore C G (pos := 200) (by omega) hom (by decide) (by decide) (by decide) dL_turned_9 (fun H locs G => ?_)
    refine g_goto (tgt := 17) C dL_turned_10 (by decide) ?_
    refine g_iconst (a := 0) C dL_turned_17 rfl ?_
    refine g_iret C G hr hlk (Nat.le_of_ble_eq_true rfl) (Nat.le_of_ble_eq_true rfl) dL_turned_18 ?_
    exact Or.inl ⟨rfl, r, gm, hpo, rfl⟩
set_option maxHeartbeats 4000000 in
set_option maxRecDepth 100000 in
theorem w_L_setRing (l : Launch) (κ : gKap) (B n : Nat) (ad : Nat → Nat) (g : Nat → va_E) (a0 : Int) {post : Int → (Nat → va_E) → Prop} {px : String → (Nat → va_E) → Prop} {o9 : Int → Int64} {fs0 : List Value} (M : vx_Met l yX7_setRing wsX7_setRing ({ frames := 6, cells := 1, slots := 6, locals := 94 }) (gPreX κ B n ad g [.ref (ad 0), .int (iz a0)]) (gQi κ B n ad post) (gXX κ B n ad px) 1 6 (gFree B)) (hn : 201 ≤ n) (h0 : g 0 = .inr (7, fs0)) (ho : g 200 = aJ κ 1 o9) (hfr : ∀ z g', post z g' → g' 200 = g 200) (hx : ∀ E g9, px E g9 → E = "java/lang/IllegalArgumentException") : Met l yL_setRing wsL_setRing ({ frames := 7, cells := 1, slots := 6, locals := 116 }) (gPreY κ B n ad g [.ref (ad 0), .int (iz a0), .ref (ad 200)]) (gQi κ B n ad (fun z g' => (z = 0 ∧ ∃ r gm, post r gm ∧ g' = va_up gm 200 (aJ κ 1 (vuJ o9 0 (jz (rI r))))) ∨ (z = 1 ∧ px "java/lang/IllegalArgumentException" g'))) 1 6 (gFree B) := by
  refine g_metH RL (cc := cL_setRing) (maxL := 4) (ret := (some .int)) (hh := [(0, 9, 12, 13)]) (by decide) rfl rfl (Nat.le_of_ble_eq_true rfl) ?_
  intro p e s m args below meth c C hr hlk htab X N9 G ls hl
  have hl : lv_has ls 4 [(0, .ref (ad 0)), (1, .int (iz a0)), (2, .ref (ad 200))] := hl
  refine g_aload_n C dL_setRing_0 rfl hl 2 rfl ?_
  refine g_iconst (a := 0) C dL_setRing_1 rfl ?_
  refine g_aload_n C dL_setRing_2 rfl hl 0 rfl ?_
  refine g_iload_n C dL_setRing_3 rfl hl 1 rfl ?_
  refine g_cxi C G (g_runVX (As := [.int (iz a0)]) (rest := [.int (iz 0), .ref (ad 200)]) (pos := 0) C G X M (cwV 1 C.1.2.2.2.2 gL_setRing_X7_setRing rfl rfl rfl (by decide +kernel) ⟨Nat.le_of_ble_eq_true rfl, Nat.le_of_ble_eq_true rfl⟩) (by omega) h0 (T := TX7) (N := 8) rfl rfl hl rfl (Nat.le_of_ble_eq_true rfl) dL_setRing_4 ⟨Nat.le_of_ble_eq_true rfl, Nat.le_of_ble_eq_true rfl⟩) (fun E ce q9 gx H locs hpx G hce hcv hcl => ?_) (fun r gm H locs hpo G => ?_)
  · have hE := hx E gx hpx
    subst hE
    refine vx_catch C.1.2.2.2.1 [] ⟨0, 9, 12, 13⟩ [] (htab.trans rfl) (fun z hz => nomatch hz) (by decide) (by decide) (C.1.2.2.2.2 _ (by decide +kernel : Cond.classLink RL 13 "java/lang/IllegalArgumentException" ∈ wsL_setRing)) (va_Nw.use rfl (X.1.1 "java/lang/IllegalArgumentException" (by decide))) hce hcv hcl ?_
    refine lv_astore_n (lv' := [(3, .ref q9), (0, .ref (ad 0)), (1, .int (iz a0)), (2, .ref (ad 200))]) C.1.1 C.1.2.1 dL_setRing_12 rfl hl (by decide) rfl (fun ls hl => ?_)
    refine g_iconst (a := 1) C dL_setRing_13 rfl ?_
    refine g_iret C G hr hlk (Nat.le_of_ble_eq_true rfl) (Nat.le_of_ble_eq_true rfl) dL_setRing_14 ?_
    exact Or.inr (⟨rfl, hpx⟩)
  · have hom : gm 200 = aJ κ 1 o9 := (hfr _ _ hpo).trans ho
    rw [iz_rI r]
    refine g_i2l C (rI_in r) dL_setRing_7 ?_
    refine g_lastore C G (pos := 200) (by omega) hom (by decide) (by decide) (by decide) dL_setRing_8 (fun H locs G => ?_)
    refine g_goto (tgt := 15) C dL_setRing_9 (by decide) ?_
    refine g_iconst (a := 0) C dL_setRing_15 rfl ?_
    refine g_iret C G hr hlk (Nat.le_of_ble_eq_true rfl) (Nat.le_of_ble_eq_true rfl) dL_setRing_16 ?_
    exact Or.inl ⟨rfl, r, gm, hpo, rfl⟩
set_option maxHeartbeats 4000000 in
set_option maxRecDepth 100000 in
theorem w_L_addLayer (l : Launch) (κ : gKap) (B n : Nat) (ad : Nat → Nat) (g : Nat → va_E) (a0 : Int) (a1 : Int) (a2 : Int) (a3 : Int) {post : Int → (Nat → va_E) → Prop} {px : String → (Nat → va_E) → Prop} {o9 : Int → Int64} {fs0 : List Value} (M : vx_Met l yX7_addLayer wsX7_addLayer ({ frames := 6, cells := 1, slots := 6, locals := 94 }) (gPreX κ B n ad g [.ref (ad 0), .int (iz a0), .int (iz a1), .int (iz a2), .int (iz a3)]) (gQi κ B n ad post) (gXX κ B n ad px) 1 6 (gFree B)) (hn : 201 ≤ n) (h0 : g 0 = .inr (7, fs0)) (ho : g 200 = aJ κ 1 o9) (hfr : ∀ z g', post z g' → g' 200 = g 200) (hx : ∀ E g9, px E g9 → E = "java/lang/IllegalArgumentException" ∨ E = "java/lang/IllegalStateException") : Met l yL_addLayer wsL_addLayer ({ frames := 7, cells := 1, slots := 6, locals := 118 }) (gPreY κ B n ad g [.ref (ad 0), .int (iz a0), .int (iz a1), .int (iz a2), .int (iz a3), .ref (ad 200)]) (gQi κ B n ad (fun z g' => (z = 0 ∧ ∃ r gm, post r gm ∧ g' = va_up gm 200 (aJ κ 1 (vuJ o9 0 (jz (rI r))))) ∨ (z = 1 ∧ px "java/lang/IllegalArgumentException" g') ∨ (z = 2 ∧ px "java/lang/IllegalStateException" g'))) 1 6 (gFree B) := by
  refine g_metH RL (cc := cL_addLayer) (maxL := 7) (ret := (some .int)) (hh := [(0, 14, 17, 13), (0, 14, 21, 15)]) (by decide) rfl rfl (Nat.le_of_ble_eq_true rfl) ?_
  intro p e s m args below meth c C hr hlk htab X N9 G ls hl
  have hl : lv_has ls 7 [(0, .ref (ad 0)), (1, .int (iz a0)), (2, .int (iz a1)), (3, .int (iz a2)), (4, .int (iz a3)), (5, .ref (ad 200))] := hl
  refine g_aload C dL_addLayer_0 hl 5 rfl ?_
  refine g_iconst (a := 0) C dL_addLayer_2 rfl ?_
  refine g_aload_n C dL_addLayer_3 rfl hl 0 rfl ?_
  refine g_iload_n C dL_addLayer_4 rfl hl 1 rfl ?_
  refine g_iload_n C dL_addLayer_5 rfl hl 2 rfl ?_
  refine g_iload_n C dL_addLayer_6 rfl hl 3 rfl ?_
  refine g_iload C dL_addLayer_7 hl 4 rfl ?_
  refine g_cxi C G (g_runVX (As := [.int (iz a0), .int (iz a1), .int (iz a2), .int (iz a3)]) (rest := [.int (iz 0), .ref (ad 200)]) (pos := 0) C G X M (cwV 4 C.1.2.2.2.2 gL_addLayer_X7_addLayer rfl rfl rfl (by decide +kernel) ⟨Nat.le_of_ble_eq_true rfl, Nat.le_of_ble_eq_true rfl⟩) (by omega) h0 (T := TX7) (N := 8) rfl rfl hl rfl (Nat.le_of_ble_eq_true rfl) dL_addLayer_9 ⟨Nat.le_of_ble_eq_true rfl, Nat.le_of_ble_eq_true rfl⟩) (fun E ce q9 gx H locs hpx G hce hcv hcl => ?_) (fun r gm H locs hpo G => ?_)
  · have hE := hx E gx hpx
    rcases hE with hE | hE
    · subst hE
      refine vx_catch C.1.2.2.2.1 [] ⟨0, 14, 17, 13⟩ [⟨0, 14, 21, 15⟩] (htab.trans rfl) (fun z hz => nomatch hz) (by decide) (by decide) (C.1.2.2.2.2 _ (by decide +kernel : Cond.classLink RL 13 "java/lang/IllegalArgumentException" ∈ wsL_addLayer)) (va_Nw.use rfl (X.1.1 "java/lang/IllegalArgumentException" (by decide))) hce hcv hcl ?_
      refine lv_astore (lv' := [(6, .ref q9), (0, .ref (ad 0)), (1, .int (iz a0)), (2, .int (iz a1)), (3, .int (iz a2)), (4, .int (iz a3)), (5, .ref (ad 200))]) C.1.1 C.1.2.1 dL_addLayer_17 hl (by decide) rfl (fun ls hl => ?_)
      refine g_iconst (a := 1) C dL_addLayer_19 rfl ?_
      refine g_iret C G hr hlk (Nat.le_of_ble_eq_true rfl) (Nat.le_of_ble_eq_true rfl) dL_addLayer_20 ?_
      exact Or.inr (Or.inl ⟨rfl, hpx⟩)
    · subst hE
      refine vx_catch C.1.2.2.2.1 [⟨0, 14, 17, 13⟩] ⟨0, 14, 21, 15⟩ [] (htab.trans rfl) (fun z hz => by rw [List.mem_singleton] at hz; subst hz; exact Or.inr ⟨by decide, "java/lang/IllegalArgumentException", C.1.2.2.2.2 _ (by decide +kernel : Cond.classLink RL 13 "java/lang/IllegalArgumentException" ∈ wsL_addLayer), N9 _ (by decide) _ (by decide) (by decide)⟩) (by decide) (by decide) (C.1.2.2.2.2 _ (by decide +kernel : Cond.classLink RL 15 "java/lang/IllegalStateException" ∈ wsL_addLayer)) (va_Nw.use rfl (X.1.1 "java/lang/IllegalStateException" (by decide))) hce hcv hcl ?_
      refine lv_astore (lv' := [(6, .ref q9), (0, .ref (ad 0)), (1, .int (iz a0)), (2, .int (iz a1)), (3, .int (iz a2)), (4, .int (iz a3)), (5, .ref (ad 200))]) C.1.1 C.1.2.1 dL_addLayer_21 hl (by decide) rfl (fun ls hl => ?_)
      refine g_iconst (a := 2) C dL_addLayer_23 rfl ?_
      refine g_iret C G hr hlk (Nat.le_of_ble_eq_true rfl) (Nat.le_of_ble_eq_true rfl) dL_addLayer_24 ?_
      exact Or.inr (Or.inr ⟨rfl, hpx⟩)
  · have hom : gm 200 = aJ κ 1 o9 := (hfr _ _ hpo).trans ho
    rw [iz_rI r]
    refine g_i2l C (rI_in r) dL_addLayer_12 ?_
    refine g_lastore C G (pos := 200) (by omega) hom (by decide) (by decide) (by decide) dL_addLayer_13 (fun H locs G => ?_)
    refine g_goto (tgt := 25) C dL_addLayer_14 (by decide) ?_
    refine g_iconst (a := 0) C dL_addLayer_25 rfl ?_
    refine g_iret C G hr hlk (Nat.le_of_ble_eq_true rfl) (Nat.le_of_ble_eq_true rfl) dL_addLayer_26 ?_
    exact Or.inl ⟨rfl, r, gm, hpo, rfl⟩
set_option maxHeartbeats 4000000 in
set_option maxRecDepth 100000 in
theorem w_L_change (l : Launch) (κ : gKap) (B n : Nat) (ad : Nat → Nat) (g : Nat → va_E) (a0 : Int) (a1 : Int) (a2 : Int) {post : Int → (Nat → va_E) → Prop} {px : String → (Nat → va_E) → Prop} {o9 : Int → Int64} {fs0 : List Value} (M : vx_Met l yX7_change wsX7_change ({ frames := 6, cells := 1, slots := 6, locals := 94 }) (gPreX κ B n ad g [.ref (ad 0), .int (iz a0), .int (iz a1), .int (iz a2)]) (gQi κ B n ad post) (gXX κ B n ad px) 1 6 (gFree B)) (hn : 201 ≤ n) (h0 : g 0 = .inr (7, fs0)) (ho : g 200 = aJ κ 1 o9) (hfr : ∀ z g', post z g' → g' 200 = g 200) (hx : ∀ E g9, px E g9 → E = "java/lang/IndexOutOfBoundsException" ∨ E = "java/lang/IllegalArgumentException") : Met l yL_change wsL_change ({ frames := 7, cells := 1, slots := 6, locals := 118 }) (gPreY κ B n ad g [.ref (ad 0), .int (iz a0), .int (iz a1), .int (iz a2), .ref (ad 200)]) (gQi κ B n ad (fun z g' => (z = 0 ∧ ∃ r gm, post r gm ∧ g' = va_up gm 200 (aJ κ 1 (vuJ o9 0 (jz (rI r))))) ∨ (z = 1 ∧ px "java/lang/IndexOutOfBoundsException" g') ∨ (z = 2 ∧ px "java/lang/IllegalArgumentException" g'))) 1 6 (gFree B) := by
  refine g_metH RL (cc := cL_change) (maxL := 6) (ret := (some .int)) (hh := [(0, 12, 15, 28), (0, 12, 19, 13)]) (by decide) rfl rfl (Nat.le_of_ble_eq_true rfl) ?_
  intro p e s m args below meth c C hr hlk htab X N9 G ls hl
  have hl : lv_has ls 6 [(0, .ref (ad 0)), (1, .int (iz a0)), (2, .int (iz a1)), (3, .int (iz a2)), (4, .ref (ad 200))] := hl
  refine g_aload C dL_change_0 hl 4 rfl ?_
  refine g_iconst (a := 0) C dL_change_2 rfl ?_
  refine g_aload_n C dL_change_3 rfl hl 0 rfl ?_
  refine g_iload_n C dL_change_4 rfl hl 1 rfl ?_
  refine g_iload_n C dL_change_5 rfl hl 2 rfl ?_
  refine g_iload_n C dL_change_6 rfl hl 3 rfl ?_
  refine g_cxi C G (g_runVX (As := [.int (iz a0), .int (iz a1), .int (iz a2)]) (rest := [.int (iz 0), .ref (ad 200)]) (pos := 0) C G X M (cwV 3 C.1.2.2.2.2 gL_change_X7_change rfl rfl rfl (by decide +kernel) ⟨Nat.le_of_ble_eq_true rfl, Nat.le_of_ble_eq_true rfl⟩) (by omega) h0 (T := TX7) (N := 8) rfl rfl hl rfl (Nat.le_of_ble_eq_true rfl) dL_change_7 ⟨Nat.le_of_ble_eq_true rfl, Nat.le_of_ble_eq_true rfl⟩) (fun E ce q9 gx H locs hpx G hce hcv hcl => ?_) (fun r gm H locs hpo G => ?_)
  · have hE := hx E gx hpx
    rcases hE with hE | hE
    · subst hE
      refine vx_catch C.1.2.2.2.1 [] ⟨0, 12, 15, 28⟩ [⟨0, 12, 19, 13⟩] (htab.trans rfl) (fun z hz => nomatch hz) (by decide) (by decide) (C.1.2.2.2.2 _ (by decide +kernel : Cond.classLink RL 28 "java/lang/IndexOutOfBoundsException" ∈ wsL_change)) (va_Nw.use rfl (X.1.1 "java/lang/IndexOutOfBoundsException" (by decide))) hce hcv hcl ?_
      refine lv_astore (lv' := [(5, .ref q9), (0, .ref (ad 0)), (1, .int (iz a0)), (2, .int (iz a1)), (3, .int (iz a2)), (4, .ref (ad 200))]) C.1.1 C.1.2.1 dL_change_15 hl (by decide) rfl (fun ls hl => ?_)
      refine g_iconst (a := 1) C dL_change_17 rfl ?_
      refine g_iret C G hr hlk (Nat.le_of_ble_eq_true rfl) (Nat.le_of_ble_eq_true rfl) dL_change_18 ?_
      exact Or.inr (Or.inl ⟨rfl, hpx⟩)
    · subst hE
      refine vx_catch C.1.2.2.2.1 [⟨0, 12, 15, 28⟩] ⟨0, 12, 19, 13⟩ [] (htab.trans rfl) (fun z hz => by rw [List.mem_singleton] at hz; subst hz; exact Or.inr ⟨by decide, "java/lang/IndexOutOfBoundsException", C.1.2.2.2.2 _ (by decide +kernel : Cond.classLink RL 28 "java/lang/IndexOutOfBoundsException" ∈ wsL_change), N9 _ (by decide) _ (by decide) (by decide)⟩) (by decide) (by decide) (C.1.2.2.2.2 _ (by decide +kernel : Cond.classLink RL 13 "java/lang/IllegalArgumentException" ∈ wsL_change)) (va_Nw.use rfl (X.1.1 "java/lang/IllegalArgumentException" (by decide))) hce hcv hcl ?_
      refine lv_astore (lv' := [(5, .ref q9), (0, .ref (ad 0)), (1, .int (iz a0)), (2, .int (iz a1)), (3, .int (iz a2)), (4, .ref (ad 200))]) C.1.1 C.1.2.1 dL_change_19 hl (by decide) rfl (fun ls hl => ?_)
      refine g_iconst (a := 2) C dL_change_21 rfl ?_
      refine g_iret C G hr hlk (Nat.le_of_ble_eq_true rfl) (Nat.le_of_ble_eq_true rfl) dL_change_22 ?_
      exact Or.inr (Or.inr ⟨rfl, hpx⟩)
  · have hom : gm 200 = aJ κ 1 o9 := (hfr _ _ hpo).trans ho
    rw [iz_rI r]
    refine g_i2l C (rI_in r) dL_change_10 ?_
    refine g_lastore C G (pos := 200) (by omega) hom (by decide) (by decide) (by decide) dL_change_11 (fun H locs G => ?_)
    refine g_goto (tgt := 23) C dL_change_12 (by decide) ?_
    refine g_iconst (a := 0) C dL_change_23 rfl ?_
    refine g_iret C G hr hlk (Nat.le_of_ble_eq_true rfl) (Nat.le_of_ble_eq_true rfl) dL_change_24 ?_
    exact Or.inl ⟨rfl, r, gm, hpo, rfl⟩
set_option maxHeartbeats 4000000 in
set_option maxRecDepth 100000 in
theorem w_L_remove (l : Launch) (κ : gKap) (B n : Nat) (ad : Nat → Nat) (g : Nat → va_E) (a0 : Int) {post : Int → (Nat → va_E) → Prop} {px : String → (Nat → va_E) → Prop} {o9 : Int → Int64} {fs0 : List Value} (M : vx_Met l yX7_remove wsX7_remove ({ frames := 6, cells := 1, slots := 6, locals := 94 }) (gPreX κ B n ad g [.ref (ad 0), .int (iz a0)]) (gQi κ B n ad post) (gXX κ B n ad px) 1 6 (gFree B)) (hn : 201 ≤ n) (h0 : g 0 = .inr (7, fs0)) (ho : g 200 = aJ κ 1 o9) (hfr : ∀ z g', post z g' → g' 200 = g 200) (hx : ∀ E g9, px E g9 → E = "java/lang/IndexOutOfBoundsException") : Met l yL_remove wsL_remove ({ frames := 7, cells := 1, slots := 6, locals := 115 }) (gPreY κ B n ad g [.ref (ad 0), .int (iz a0), .ref (ad 200)]) (gQi κ B n ad (fun z g' => (z = 0 ∧ ∃ r gm, post r gm ∧ g' = va_up gm 200 (aJ κ 1 (vuJ o9 0 (jz (rI r))))) ∨ (z = 1 ∧ px "java/lang/IndexOutOfBoundsException" g'))) 1 6 (gFree B) := by
  refine g_metH RL (cc := cL_remove) (maxL := 4) (ret := (some .int)) (hh := [(0, 9, 12, 28)]) (by decide) rfl rfl (Nat.le_of_ble_eq_true rfl) ?_
  intro p e s m args below meth c C hr hlk htab X N9 G ls hl
  have hl : lv_has ls 4 [(0, .ref (ad 0)), (1, .int (iz a0)), (2, .ref (ad 200))] := hl
  refine g_aload_n C dL_remove_0 rfl hl 2 rfl ?_
  refine g_iconst (a := 0) C dL_remove_1 rfl ?_
  refine g_aload_n C dL_remove_2 rfl hl 0 rfl ?_
  refine g_iload_n C dL_remove_3 rfl hl 1 rfl ?_
  refine g_cxi C G (g_runVX (As := [.int (iz a0)]) (rest := [.int (iz 0), .ref (ad 200)]) (pos := 0) C G X M (cwV 1 C.1.2.2.2.2 gL_remove_X7_remove rfl rfl rfl (by decide +kernel) ⟨Nat.le_of_ble_eq_true rfl, Nat.le_of_ble_eq_true rfl⟩) (by omega) h0 (T := TX7) (N := 8) rfl rfl hl rfl (Nat.le_of_ble_eq_true rfl) dL_remove_4 ⟨Nat.le_of_ble_eq_true rfl, Nat.le_of_ble_eq_true rfl⟩) (fun E ce q9 gx H locs hpx G hce hcv hcl => ?_) (fun r gm H locs hpo G => ?_)
  · have hE := hx E gx hpx
    subst hE
    refine vx_catch C.1.2.2.2.1 [] ⟨0, 9, 12, 28⟩ [] (htab.trans rfl) (fun z hz => nomatch hz) (by decide) (by decide) (C.1.2.2.2.2 _ (by decide +kernel : Cond.classLink RL 28 "java/lang/IndexOutOfBoundsException" ∈ wsL_remove)) (va_Nw.use rfl (X.1.1 "java/lang/IndexOutOfBoundsException" (by decide))) hce hcv hcl ?_
    refine lv_astore_n (lv' := [(3, .ref q9), (0, .ref (ad 0)), (1, .int (iz a0)), (2, .ref (ad 200))]) C.1.1 C.1.2.1 dL_remove_12 rfl hl (by decide) rfl (fun ls hl => ?_)
    refine g_iconst (a := 1) C dL_remove_13 rfl ?_
    refine g_iret C G hr hlk (Nat.le_of_ble_eq_true rfl) (Nat.le_of_ble_eq_true rfl) dL_remove_14 ?_
    exact Or.inr (⟨rfl, hpx⟩)
  · have hom : gm 200 = aJ κ 1 o9 := (hfr _ _ hpo).trans ho
    rw [iz_rI r]
    refine g_i2l C (rI_in r) dL_remove_7 ?_
    refine g_lastore C G (pos := 200) (by omega) hom (by decide) (by decide) (by decide) dL_remove_8 (fun H locs G => ?_)
    refine g_goto (tgt := 15) C dL_remove_9 (by decide) ?_
    refine g_iconst (a := 0) C dL_remove_15 rfl ?_
    refine g_iret C G hr hlk (Nat.le_of_ble_eq_true rfl) (Nat.le_of_ble_eq_true rfl) dL_remove_16 ?_
    exact Or.inl ⟨rfl, r, gm, hpo, rfl⟩
set_option maxHeartbeats 4000000 in
set_option maxRecDepth 100000 in
theorem w_L_see (l : Launch) (κ : gKap) (B n : Nat) (ad : Nat → Nat) (g : Nat → va_E) (a0 : Int) (a1 : Int) {post : Int → (Nat → va_E) → Prop} {px : String → (Nat → va_E) → Prop} {o9 : Int → Int64} {fs0 : List Value} (M : vx_Met l yX7_see wsX7_see ({ frames := 6, cells := 1, slots := 6, locals := 123 }) (gPreX κ B n ad g [.ref (ad 0), .int (iz a0), .int (iz a1)]) (gQi κ B n ad post) (gXX κ B n ad px) 1 6 (gFree B)) (hn : 201 ≤ n) (h0 : g 0 = .inr (7, fs0)) (ho : g 200 = aJ κ 1 o9) (hfr : ∀ z g', post z g' → g' 200 = g 200) (hx : ∀ E g9, px E g9 → E = "java/lang/IllegalArgumentException") : Met l yL_see wsL_see ({ frames := 7, cells := 1, slots := 6, locals := 145 }) (gPreY κ B n ad g [.ref (ad 0), .int (iz a0), .int (iz a1), .ref (ad 200)]) (gQi κ B n ad (fun z g' => (z = 0 ∧ ∃ r gm, post r gm ∧ g' = va_up gm 200 (aJ κ 1 (vuJ o9 0 (jz (rI r))))) ∨ (z = 1 ∧ px "java/lang/IllegalArgumentException" g'))) 1 6 (gFree B) := by
  refine g_metH RL (cc := cL_see) (maxL := 5) (ret := (some .int)) (hh := [(0, 10, 13, 13)]) (by decide) rfl rfl (Nat.le_of_ble_eq_true rfl) ?_
  intro p e s m args below meth c C hr hlk htab X N9 G ls hl
  have hl : lv_has ls 5 [(0, .ref (ad 0)), (1, .int (iz a0)), (2, .int (iz a1)), (3, .ref (ad 200))] := hl
  refine g_aload_n C dL_see_0 rfl hl 3 rfl ?_
  refine g_iconst (a := 0) C dL_see_1 rfl ?_
  refine g_aload_n C dL_see_2 rfl hl 0 rfl ?_
  refine g_iload_n C dL_see_3 rfl hl 1 rfl ?_
  refine g_iload_n C dL_see_4 rfl hl 2 rfl ?_
  refine g_cxi C G (g_runVX (As := [.int (iz a0), .int (iz a1)]) (rest := [.int (iz 0), .ref (ad 200)]) (pos := 0) C G X M (cwV 2 C.1.2.2.2.2 gL_see_X7_see rfl rfl rfl (by decide +kernel) ⟨Nat.le_of_ble_eq_true rfl, Nat.le_of_ble_eq_true rfl⟩) (by omega) h0 (T := TX7) (N := 8) rfl rfl hl rfl (Nat.le_of_ble_eq_true rfl) dL_see_5 ⟨Nat.le_of_ble_eq_true rfl, Nat.le_of_ble_eq_true rfl⟩) (fun E ce q9 gx H locs hpx G hce hcv hcl => ?_) (fun r gm H locs hpo G => ?_)
  · have hE := hx E gx hpx
    subst hE
    refine vx_catch C.1.2.2.2.1 [] ⟨0, 10, 13, 13⟩ [] (htab.trans rfl) (fun z hz => nomatch hz) (by decide) (by decide) (C.1.2.2.2.2 _ (by decide +kernel : Cond.classLink RL 13 "java/lang/IllegalArgumentException" ∈ wsL_see)) (va_Nw.use rfl (X.1.1 "java/lang/IllegalArgumentException" (by decide))) hce hcv hcl ?_
    refine lv_astore (lv' := [(4, .ref q9), (0, .ref (ad 0)), (1, .int (iz a0)), (2, .int (iz a1)), (3, .ref (ad 200))]) C.1.1 C.1.2.1 dL_see_13 hl (by decide) rfl (fun ls hl => ?_)
    refine g_iconst (a := 1) C dL_see_15 rfl ?_
    refine g_iret C G hr hlk (Nat.le_of_ble_eq_true rfl) (Nat.le_of_ble_eq_true rfl) dL_see_16 ?_
    exact Or.inr (⟨rfl, hpx⟩)
  · have hom : gm 200 = aJ κ 1 o9 := (hfr _ _ hpo).trans ho
    rw [iz_rI r]
    refine g_i2l C (rI_in r) dL_see_8 ?_
    refine g_lastore C G (pos := 200) (by omega) hom (by decide) (by decide) (by decide) dL_see_9 (fun H locs G => ?_)
    refine g_goto (tgt := 17) C dL_see_10 (by decide) ?_
    refine g_iconst (a := 0) C dL_see_17 rfl ?_
    refine g_iret C G hr hlk (Nat.le_of_ble_eq_true rfl) (Nat.le_of_ble_eq_true rfl) dL_see_18 ?_
    exact Or.inl ⟨rfl, r, gm, hpo, rfl⟩
set_option maxHeartbeats 4000000 in
set_option maxRecDepth 100000 in
theorem w_L_undo (l : Launch) (κ : gKap) (B n : Nat) (ad : Nat → Nat) (g : Nat → va_E)  {post : Int → (Nat → va_E) → Prop} {px : String → (Nat → va_E) → Prop} {o9 : Int → Int64} {fs0 : List Value} (M : vx_Met l yX7_undo wsX7_undo ({ frames := 6, cells := 1, slots := 6, locals := 94 }) (gPreX κ B n ad g [.ref (ad 0)]) (gQi κ B n ad post) (gXX κ B n ad px) 1 6 (gFree B)) (hn : 201 ≤ n) (h0 : g 0 = .inr (7, fs0)) (ho : g 200 = aJ κ 1 o9) (hfr : ∀ z g', post z g' → g' 200 = g 200) (hx : ∀ E g9, px E g9 → E = "java/lang/IllegalStateException") : Met l yL_undo wsL_undo ({ frames := 7, cells := 1, slots := 6, locals := 114 }) (gPreY κ B n ad g [.ref (ad 0), .ref (ad 200)]) (gQi κ B n ad (fun z g' => (z = 0 ∧ ∃ r gm, post r gm ∧ g' = va_up gm 200 (aJ κ 1 (vuJ o9 0 (jz (rI r))))) ∨ (z = 1 ∧ px "java/lang/IllegalStateException" g'))) 1 6 (gFree B) := by
  refine g_metH RL (cc := cL_undo) (maxL := 3) (ret := (some .int)) (hh := [(0, 8, 11, 15)]) (by decide) rfl rfl (Nat.le_of_ble_eq_true rfl) ?_
  intro p e s m args below meth c C hr hlk htab X N9 G ls hl
  have hl : lv_has ls 3 [(0, .ref (ad 0)), (1, .ref (ad 200))] := hl
  refine g_aload_n C dL_undo_0 rfl hl 1 rfl ?_
  refine g_iconst (a := 0) C dL_undo_1 rfl ?_
  refine g_aload_n C dL_undo_2 rfl hl 0 rfl ?_
  refine g_cxi C G (g_runVX (As := []) (rest := [.int (iz 0), .ref (ad 200)]) (pos := 0) C G X M (cwV 0 C.1.2.2.2.2 gL_undo_X7_undo rfl rfl rfl (by decide +kernel) ⟨Nat.le_of_ble_eq_true rfl, Nat.le_of_ble_eq_true rfl⟩) (by omega) h0 (T := TX7) (N := 8) rfl rfl hl rfl (Nat.le_of_ble_eq_true rfl) dL_undo_3 ⟨Nat.le_of_ble_eq_true rfl, Nat.le_of_ble_eq_true rfl⟩) (fun E ce q9 gx H locs hpx G hce hcv hcl => ?_) (fun r gm H locs hpo G => ?_)
  · have hE := hx E gx hpx
    subst hE
    refine vx_catch C.1.2.2.2.1 [] ⟨0, 8, 11, 15⟩ [] (htab.trans rfl) (fun z hz => nomatch hz) (by decide) (by decide) (C.1.2.2.2.2 _ (by decide +kernel : Cond.classLink RL 15 "java/lang/IllegalStateException" ∈ wsL_undo)) (va_Nw.use rfl (X.1.1 "java/lang/IllegalStateException" (by decide))) hce hcv hcl ?_
    refine lv_astore_n (lv' := [(2, .ref q9), (0, .ref (ad 0)), (1, .ref (ad 200))]) C.1.1 C.1.2.1 dL_undo_11 rfl hl (by decide) rfl (fun ls hl => ?_)
    refine g_iconst (a := 1) C dL_undo_12 rfl ?_
    refine g_iret C G hr hlk (Nat.le_of_ble_eq_true rfl) (Nat.le_of_ble_eq_true rfl) dL_undo_13 ?_
    exact Or.inr (⟨rfl, hpx⟩)
  · have hom : gm 200 = aJ κ 1 o9 := (hfr _ _ hpo).trans ho
    rw [iz_rI r]
    refine g_i2l C (rI_in r) dL_undo_6 ?_
    refine g_lastore C G (pos := 200) (by omega) hom (by decide) (by decide) (by decide) dL_undo_7 (fun H locs G => ?_)
    refine g_goto (tgt := 14) C dL_undo_8 (by decide) ?_
    refine g_iconst (a := 0) C dL_undo_14 rfl ?_
    refine g_iret C G hr hlk (Nat.le_of_ble_eq_true rfl) (Nat.le_of_ble_eq_true rfl) dL_undo_15 ?_
    exact Or.inl ⟨rfl, r, gm, hpo, rfl⟩
set_option maxHeartbeats 4000000 in
set_option maxRecDepth 100000 in
theorem w_L_bestStart (l : Launch) (κ : gKap) (B n : Nat) (ad : Nat → Nat) (g : Nat → va_E) (a0 : Int) (a1 : Int) {post : Int → (Nat → va_E) → Prop} {px : String → (Nat → va_E) → Prop} {o9 : Int → Int64} {fs0 : List Value} (M : vx_Met l yX7_bestStart wsX7_bestStart ({ frames := 6, cells := 1, slots := 6, locals := 105 }) (gPreX κ B n ad g [.ref (ad 0), .int (iz a0), .int (iz a1)]) (gQi κ B n ad post) (gXX κ B n ad px) 1 6 (gFree B)) (hn : 201 ≤ n) (h0 : g 0 = .inr (7, fs0)) (ho : g 200 = aJ κ 1 o9) (hfr : ∀ z g', post z g' → g' 200 = g 200) (hx : ∀ E g9, px E g9 → E = "java/lang/IndexOutOfBoundsException" ∨ E = "java/lang/IllegalArgumentException") : Met l yL_bestStart wsL_bestStart ({ frames := 7, cells := 1, slots := 6, locals := 129 }) (gPreY κ B n ad g [.ref (ad 0), .int (iz a0), .int (iz a1), .ref (ad 200)]) (gQi κ B n ad (fun z g' => (z = 0 ∧ ∃ r gm, post r gm ∧ g' = va_up gm 200 (aJ κ 1 (vuJ o9 0 (jz (rI r))))) ∨ (z = 1 ∧ px "java/lang/IndexOutOfBoundsException" g') ∨ (z = 2 ∧ px "java/lang/IllegalArgumentException" g'))) 1 6 (gFree B) := by
  refine g_metH RL (cc := cL_bestStart) (maxL := 5) (ret := (some .int)) (hh := [(0, 10, 13, 28), (0, 10, 17, 13)]) (by decide) rfl rfl (Nat.le_of_ble_eq_true rfl) ?_
  intro p e s m args below meth c C hr hlk htab X N9 G ls hl
  have hl : lv_has ls 5 [(0, .ref (ad 0)), (1, .int (iz a0)), (2, .int (iz a1)), (3, .ref (ad 200))] := hl
  refine g_aload_n C dL_bestStart_0 rfl hl 3 rfl ?_
  refine g_iconst (a := 0) C dL_bestStart_1 rfl ?_
  refine g_aload_n C dL_bestStart_2 rfl hl 0 rfl ?_
  refine g_iload_n C dL_bestStart_3 rfl hl 1 rfl ?_
  refine g_iload_n C dL_bestStart_4 rfl hl 2 rfl ?_
  refine g_cxi C G (g_runVX (As := [.int (iz a0), .int (iz a1)]) (rest := [.int (iz 0), .ref (ad 200)]) (pos := 0) C G X M (cwV 2 C.1.2.2.2.2 gL_bestStart_X7_bestStart rfl rfl rfl (by decide +kernel) ⟨Nat.le_of_ble_eq_true rfl, Nat.le_of_ble_eq_true rfl⟩) (by omega) h0 (T := TX7) (N := 8) rfl rfl hl rfl (Nat.le_of_ble_eq_true rfl) dL_bestStart_5 ⟨Nat.le_of_ble_eq_true rfl, Nat.le_of_ble_eq_true rfl⟩) (fun E ce q9 gx H locs hpx G hce hcv hcl => ?_) (fun r gm H locs hpo G => ?_)
  · have hE := hx E gx hpx
    rcases hE with hE | hE
    · subst hE
      refine vx_catch C.1.2.2.2.1 [] ⟨0, 10, 13, 28⟩ [⟨0, 10, 17, 13⟩] (htab.trans rfl) (fun z hz => nomatch hz) (by decide) (by decide) (C.1.2.2.2.2 _ (by decide +kernel : Cond.classLink RL 28 "java/lang/IndexOutOfBoundsException" ∈ wsL_bestStart)) (va_Nw.use rfl (X.1.1 "java/lang/IndexOutOfBoundsException" (by decide))) hce hcv hcl ?_
      refine lv_astore (lv' := [(4, .ref q9), (0, .ref (ad 0)), (1, .int (iz a0)), (2, .int (iz a1)), (3, .ref (ad 200))]) C.1.1 C.1.2.1 dL_bestStart_13 hl (by decide) rfl (fun ls hl => ?_)
      refine g_iconst (a := 1) C dL_bestStart_15 rfl ?_
      refine g_iret C G hr hlk (Nat.le_of_ble_eq_true rfl) (Nat.le_of_ble_eq_true rfl) dL_bestStart_16 ?_
      exact Or.inr (Or.inl ⟨rfl, hpx⟩)
    · subst hE
      refine vx_catch C.1.2.2.2.1 [⟨0, 10, 13, 28⟩] ⟨0, 10, 17, 13⟩ [] (htab.trans rfl) (fun z hz => by rw [List.mem_singleton] at hz; subst hz; exact Or.inr ⟨by decide, "java/lang/IndexOutOfBoundsException", C.1.2.2.2.2 _ (by decide +kernel : Cond.classLink RL 28 "java/lang/IndexOutOfBoundsException" ∈ wsL_bestStart), N9 _ (by decide) _ (by decide) (by decide)⟩) (by decide) (by decide) (C.1.2.2.2.2 _ (by decide +kernel : Cond.classLink RL 13 "java/lang/IllegalArgumentException" ∈ wsL_bestStart)) (va_Nw.use rfl (X.1.1 "java/lang/IllegalArgumentException" (by decide))) hce hcv hcl ?_
      refine lv_astore (lv' := [(4, .ref q9), (0, .ref (ad 0)), (1, .int (iz a0)), (2, .int (iz a1)), (3, .ref (ad 200))]) C.1.1 C.1.2.1 dL_bestStart_17 hl (by decide) rfl (fun ls hl => ?_)
      refine g_iconst (a := 2) C dL_bestStart_19 rfl ?_
      refine g_iret C G hr hlk (Nat.le_of_ble_eq_true rfl) (Nat.le_of_ble_eq_true rfl) dL_bestStart_20 ?_
      exact Or.inr (Or.inr ⟨rfl, hpx⟩)
  · have hom : gm 200 = aJ κ 1 o9 := (hfr _ _ hpo).trans ho
    rw [iz_rI r]
    refine g_i2l C (rI_in r) dL_bestStart_8 ?_
    refine g_lastore C G (pos := 200) (by omega) hom (by decide) (by decide) (by decide) dL_bestStart_9 (fun H locs G => ?_)
    refine g_goto (tgt := 21) C dL_bestStart_10 (by decide) ?_
    refine g_iconst (a := 0) C dL_bestStart_21 rfl ?_
    refine g_iret C G hr hlk (Nat.le_of_ble_eq_true rfl) (Nat.le_of_ble_eq_true rfl) dL_bestStart_22 ?_
    exact Or.inl ⟨rfl, r, gm, hpo, rfl⟩
set_option maxHeartbeats 4000000 in
set_option maxRecDepth 100000 in
theorem w_L_wheels (l : Launch) (κ : gKap) (B n : Nat) (ad : Nat → Nat) (g : Nat → va_E) (a0 : Int) (a1 : Int) (a2 : Int) (a3 : Int) {post : Int → (Nat → va_E) → Prop} {px : String → (Nat → va_E) → Prop} {o9 : Int → Int64} {fs0 : List Value} (M : vx_Met l yX7_wheels wsX7_wheels ({ frames := 6, cells := 1, slots := 6, locals := 100 }) (gPreX κ B n ad g [.ref (ad 0), .int (iz a0), .int (iz a1), .int (iz a2), .int (iz a3)]) (gQi κ B n ad post) (gXX κ B n ad px) 1 6 (gFree B)) (hn : 201 ≤ n) (h0 : g 0 = .inr (7, fs0)) (ho : g 200 = aJ κ 1 o9) (hfr : ∀ z g', post z g' → g' 200 = g 200) (hx : ∀ E g9, px E g9 → E = "java/lang/IllegalArgumentException") : Met l yL_wheels wsL_wheels ({ frames := 7, cells := 1, slots := 6, locals := 128 }) (gPreY κ B n ad g [.ref (ad 0), .int (iz a0), .int (iz a1), .int (iz a2), .int (iz a3), .ref (ad 200)]) (gQi κ B n ad (fun z g' => (z = 0 ∧ ∃ r gm, post r gm ∧ g' = va_up gm 200 (aJ κ 1 (vuJ o9 0 (jz (rI r))))) ∨ (z = 1 ∧ px "java/lang/IllegalArgumentException" g'))) 1 6 (gFree B) := by
  refine g_metH RL (cc := cL_wheels) (maxL := 7) (ret := (some .int)) (hh := [(0, 14, 17, 13)]) (by decide) rfl rfl (Nat.le_of_ble_eq_true rfl) ?_
  intro p e s m args below meth c C hr hlk htab X N9 G ls hl
  have hl : lv_has ls 7 [(0, .ref (ad 0)), (1, .int (iz a0)), (2, .int (iz a1)), (3, .int (iz a2)), (4, .int (iz a3)), (5, .ref (ad 200))] := hl
  refine g_aload C dL_wheels_0 hl 5 rfl ?_
  refine g_iconst (a := 0) C dL_wheels_2 rfl ?_
  refine g_aload_n C dL_wheels_3 rfl hl 0 rfl ?_
  refine g_iload_n C dL_wheels_4 rfl hl 1 rfl ?_
  refine g_iload_n C dL_wheels_5 rfl hl 2 rfl ?_
  refine g_iload_n C dL_wheels_6 rfl hl 3 rfl ?_
  refine g_iload C dL_wheels_7 hl 4 rfl ?_
  refine g_cxi C G (g_runVX (As := [.int (iz a0), .int (iz a1), .int (iz a2), .int (iz a3)]) (rest := [.int (iz 0), .ref (ad 200)]) (pos := 0) C G X M (cwV 4 C.1.2.2.2.2 gL_wheels_X7_wheels rfl rfl rfl (by decide +kernel) ⟨Nat.le_of_ble_eq_true rfl, Nat.le_of_ble_eq_true rfl⟩) (by omega) h0 (T := TX7) (N := 8) rfl rfl hl rfl (Nat.le_of_ble_eq_true rfl) dL_wheels_9 ⟨Nat.le_of_ble_eq_true rfl, Nat.le_of_ble_eq_true rfl⟩) (fun E ce q9 gx H locs hpx G hce hcv hcl => ?_) (fun r gm H locs hpo G => ?_)
  · have hE := hx E gx hpx
    subst hE
    refine vx_catch C.1.2.2.2.1 [] ⟨0, 14, 17, 13⟩ [] (htab.trans rfl) (fun z hz => nomatch hz) (by decide) (by decide) (C.1.2.2.2.2 _ (by decide +kernel : Cond.classLink RL 13 "java/lang/IllegalArgumentException" ∈ wsL_wheels)) (va_Nw.use rfl (X.1.1 "java/lang/IllegalArgumentException" (by decide))) hce hcv hcl ?_
    refine lv_astore (lv' := [(6, .ref q9), (0, .ref (ad 0)), (1, .int (iz a0)), (2, .int (iz a1)), (3, .int (iz a2)), (4, .int (iz a3)), (5, .ref (ad 200))]) C.1.1 C.1.2.1 dL_wheels_17 hl (by decide) rfl (fun ls hl => ?_)
    refine g_iconst (a := 1) C dL_wheels_19 rfl ?_
    refine g_iret C G hr hlk (Nat.le_of_ble_eq_true rfl) (Nat.le_of_ble_eq_true rfl) dL_wheels_20 ?_
    exact Or.inr (⟨rfl, hpx⟩)
  · have hom : gm 200 = aJ κ 1 o9 := (hfr _ _ hpo).trans ho
    rw [iz_rI r]
    refine g_i2l C (rI_in r) dL_wheels_12 ?_
    refine g_lastore C G (pos := 200) (by omega) hom (by decide) (by decide) (by decide) dL_wheels_13 (fun H locs G => ?_)
    refine g_goto (tgt := 21) C dL_wheels_14 (by decide) ?_
    refine g_iconst (a := 0) C dL_wheels_21 rfl ?_
    refine g_iret C G hr hlk (Nat.le_of_ble_eq_true rfl) (Nat.le_of_ble_eq_true rfl) dL_wheels_22 ?_
    exact Or.inl ⟨rfl, r, gm, hpo, rfl⟩
set_option maxHeartbeats 4000000 in
set_option maxRecDepth 100000 in
theorem w_L_wheelFor (l : Launch) (κ : gKap) (B n : Nat) (ad : Nat → Nat) (g : Nat → va_E) (a0 : Int) {post : Int → (Nat → va_E) → Prop} {px : String → (Nat → va_E) → Prop} {o9 : Int → Int64} {fs0 : List Value} (M : vx_Met l yX7_wheelFor wsX7_wheelFor ({ frames := 6, cells := 1, slots := 6, locals := 82 }) (gPreX κ B n ad g [.ref (ad 0), .int (iz a0)]) (gQi κ B n ad post) (gXX κ B n ad px) 1 6 (gFree B)) (hn : 201 ≤ n) (h0 : g 0 = .inr (7, fs0)) (ho : g 200 = aJ κ 1 o9) (hfr : ∀ z g', post z g' → g' 200 = g 200) (hx : ∀ E g9, px E g9 → E = "java/lang/IllegalArgumentException") : Met l yL_wheelFor wsL_wheelFor ({ frames := 7, cells := 1, slots := 6, locals := 104 }) (gPreY κ B n ad g [.ref (ad 0), .int (iz a0), .ref (ad 200)]) (gQi κ B n ad (fun z g' => (z = 0 ∧ ∃ r gm, post r gm ∧ g' = va_up gm 200 (aJ κ 1 (vuJ o9 0 (jz (rI r))))) ∨ (z = 1 ∧ px "java/lang/IllegalArgumentException" g'))) 1 6 (gFree B) := by
  refine g_metH RL (cc := cL_wheelFor) (maxL := 4) (ret := (some .int)) (hh := [(0, 9, 12, 13)]) (by decide) rfl rfl (Nat.le_of_ble_eq_true rfl) ?_
  intro p e s m args below meth c C hr hlk htab X N9 G ls hl
  have hl : lv_has ls 4 [(0, .ref (ad 0)), (1, .int (iz a0)), (2, .ref (ad 200))] := hl
  refine g_aload_n C dL_wheelFor_0 rfl hl 2 rfl ?_
  refine g_iconst (a := 0) C dL_wheelFor_1 rfl ?_
  refine g_aload_n C dL_wheelFor_2 rfl hl 0 rfl ?_
  refine g_iload_n C dL_wheelFor_3 rfl hl 1 rfl ?_
  refine g_cxi C G (g_runVX (As := [.int (iz a0)]) (rest := [.int (iz 0), .ref (ad 200)]) (pos := 0) C G X M (cwV 1 C.1.2.2.2.2 gL_wheelFor_X7_wheelFor rfl rfl rfl (by decide +kernel) ⟨Nat.le_of_ble_eq_true rfl, Nat.le_of_ble_eq_true rfl⟩) (by omega) h0 (T := TX7) (N := 8) rfl rfl hl rfl (Nat.le_of_ble_eq_true rfl) dL_wheelFor_4 ⟨Nat.le_of_ble_eq_true rfl, Nat.le_of_ble_eq_true rfl⟩) (fun E ce q9 gx H locs hpx G hce hcv hcl => ?_) (fun r gm H locs hpo G => ?_)
  · have hE := hx E gx hpx
    subst hE
    refine vx_catch C.1.2.2.2.1 [] ⟨0, 9, 12, 13⟩ [] (htab.trans rfl) (fun z hz => nomatch hz) (by decide) (by decide) (C.1.2.2.2.2 _ (by decide +kernel : Cond.classLink RL 13 "java/lang/IllegalArgumentException" ∈ wsL_wheelFor)) (va_Nw.use rfl (X.1.1 "java/lang/IllegalArgumentException" (by decide))) hce hcv hcl ?_
    refine lv_astore_n (lv' := [(3, .ref q9), (0, .ref (ad 0)), (1, .int (iz a0)), (2, .ref (ad 200))]) C.1.1 C.1.2.1 dL_wheelFor_12 rfl hl (by decide) rfl (fun ls hl => ?_)
    refine g_iconst (a := 1) C dL_wheelFor_13 rfl ?_
    refine g_iret C G hr hlk (Nat.le_of_ble_eq_true rfl) (Nat.le_of_ble_eq_true rfl) dL_wheelFor_14 ?_
    exact Or.inr (⟨rfl, hpx⟩)
  · have hom : gm 200 = aJ κ 1 o9 := (hfr _ _ hpo).trans ho
    rw [iz_rI r]
    refine g_i2l C (rI_in r) dL_wheelFor_7 ?_
    refine g_lastore C G (pos := 200) (by omega) hom (by decide) (by decide) (by decide) dL_wheelFor_8 (fun H locs G => ?_)
    refine g_goto (tgt := 15) C dL_wheelFor_9 (by decide) ?_
    refine g_iconst (a := 0) C dL_wheelFor_15 rfl ?_
    refine g_iret C G hr hlk (Nat.le_of_ble_eq_true rfl) (Nat.le_of_ble_eq_true rfl) dL_wheelFor_16 ?_
    exact Or.inl ⟨rfl, r, gm, hpo, rfl⟩
set_option maxHeartbeats 4000000 in
set_option maxRecDepth 100000 in
theorem w_L_runScript (l : Launch) (κ : gKap) (B n : Nat) (ad : Nat → Nat) (g : Nat → va_E) (a0 : Int) (a1 : Int) {post : Int → (Nat → va_E) → Prop} {px : String → (Nat → va_E) → Prop} {o9 : Int → Int64} {fs0 : List Value} (M : vx_Met l yX7_runScript wsX7_runScript ({ frames := 6, cells := 3, slots := 15, locals := 148 }) (gPreX κ B n ad g [.ref (ad 0), .int (iz a0), .long (jz a1)]) (gQi κ B n ad post) (gXX κ B n ad px) 3 15 (gFree B)) (hn : 201 ≤ n) (h0 : g 0 = .inr (7, fs0)) (ho : g 200 = aJ κ 1 o9) (hfr : ∀ z g', post z g' → g' 200 = g 200) (hx : ∀ E g9, px E g9 → E = "java/lang/IllegalArgumentException") : Met l yL_runScript wsL_runScript ({ frames := 7, cells := 3, slots := 15, locals := 174 }) (gPreY κ B n ad g [.ref (ad 0), .int (iz a0), .long (jz a1), .ref (ad 200)]) (gQi κ B n ad (fun z g' => (z = 0 ∧ ∃ r gm, post r gm ∧ g' = va_up gm 200 (aJ κ 1 (vuJ o9 0 (jz (rI r))))) ∨ (z = 1 ∧ px "java/lang/IllegalArgumentException" g'))) 3 15 (gFree B) := by
  refine g_metH RL (cc := cL_runScript) (maxL := 6) (ret := (some .int)) (hh := [(0, 11, 14, 13)]) (by decide) rfl rfl (Nat.le_of_ble_eq_true rfl) ?_
  intro p e s m args below meth c C hr hlk htab X N9 G ls hl
  have hl : lv_has ls 6 [(0, .ref (ad 0)), (1, .int (iz a0)), (2, .long (jz a1)), (4, .ref (ad 200))] := hl
  refine g_aload C dL_runScript_0 hl 3 rfl ?_
  refine g_iconst (a := 0) C dL_runScript_2 rfl ?_
  refine g_aload_n C dL_runScript_3 rfl hl 0 rfl ?_
  refine g_iload_n C dL_runScript_4 rfl hl 1 rfl ?_
  refine g_lload_n C dL_runScript_5 rfl hl 2 rfl ?_
  refine g_cxi C G (g_runVX (As := [.int (iz a0), .long (jz a1)]) (rest := [.int (iz 0), .ref (ad 200)]) (pos := 0) C G X M (cwV 2 C.1.2.2.2.2 gL_runScript_X7_runScript rfl rfl rfl (by decide +kernel) ⟨Nat.le_of_ble_eq_true rfl, Nat.le_of_ble_eq_true rfl⟩) (by omega) h0 (T := TX7) (N := 8) rfl rfl hl rfl (Nat.le_of_ble_eq_true rfl) dL_runScript_6 ⟨Nat.le_of_ble_eq_true rfl, Nat.le_of_ble_eq_true rfl⟩) (fun E ce q9 gx H locs hpx G hce hcv hcl => ?_) (fun r gm H locs hpo G => ?_)
  · have hE := hx E gx hpx
    subst hE
    refine vx_catch C.1.2.2.2.1 [] ⟨0, 11, 14, 13⟩ [] (htab.trans rfl) (fun z hz => nomatch hz) (by decide) (by decide) (C.1.2.2.2.2 _ (by decide +kernel : Cond.classLink RL 13 "java/lang/IllegalArgumentException" ∈ wsL_runScript)) (va_Nw.use rfl (X.1.1 "java/lang/IllegalArgumentException" (by decide))) hce hcv hcl ?_
    refine lv_astore (lv' := [(5, .ref q9), (0, .ref (ad 0)), (1, .int (iz a0)), (2, .long (jz a1)), (4, .ref (ad 200))]) C.1.1 C.1.2.1 dL_runScript_14 hl (by decide) rfl (fun ls hl => ?_)
    refine g_iconst (a := 1) C dL_runScript_16 rfl ?_
    refine g_iret C G hr hlk (Nat.le_of_ble_eq_true rfl) (Nat.le_of_ble_eq_true rfl) dL_runScript_17 ?_
    exact Or.inr (⟨rfl, hpx⟩)
  · have hom : gm 200 = aJ κ 1 o9 := (hfr _ _ hpo).trans ho
    rw [iz_rI r]
    refine g_i2l C (rI_in r) dL_runScript_9 ?_
    refine g_lastore C G (pos := 200) (by omega) hom (by decide) (by decide) (by decide) dL_runScript_10 (fun H locs G => ?_)
    refine g_goto (tgt := 18) C dL_runScript_11 (by decide) ?_
    refine g_iconst (a := 0) C dL_runScript_18 rfl ?_
    refine g_iret C G hr hlk (Nat.le_of_ble_eq_true rfl) (Nat.le_of_ble_eq_true rfl) dL_runScript_19 ?_
    exact Or.inl ⟨rfl, r, gm, hpo, rfl⟩
set_option maxHeartbeats 4000000 in
set_option maxRecDepth 100000 in
theorem w_L_simulate (l : Launch) (κ : gKap) (B n : Nat) (ad : Nat → Nat) (g : Nat → va_E) (a0 : Int) (a1 : Int) {post : Int → (Nat → va_E) → Prop} {px : String → (Nat → va_E) → Prop} {o9 : Int → Int64} {fs0 : List Value} (M : vx_Met l yX7_simulate wsX7_simulate ({ frames := 6, cells := 1, slots := 6, locals := 82 }) (gPreX κ B n ad g [.ref (ad 0), .long (jz a0), .int (iz a1)]) (gQi κ B n ad post) (gXX κ B n ad px) 1 6 (gFree B)) (hn : 201 ≤ n) (h0 : g 0 = .inr (7, fs0)) (ho : g 200 = aJ κ 1 o9) (hfr : ∀ z g', post z g' → g' 200 = g 200) (hx : ∀ E g9, px E g9 → E = "java/lang/IllegalArgumentException") : Met l yL_simulate wsL_simulate ({ frames := 7, cells := 1, slots := 6, locals := 113 }) (gPreY κ B n ad g [.ref (ad 0), .long (jz a0), .int (iz a1), .ref (ad 200)]) (gQi κ B n ad (fun z g' => (z = 0 ∧ ∃ r gm, post r gm ∧ g' = va_up gm 200 (aJ κ 1 (vuJ o9 0 (jz (rI r))))) ∨ (z = 1 ∧ px "java/lang/IllegalArgumentException" g'))) 1 6 (gFree B) := by
  refine g_metH RL (cc := cL_simulate) (maxL := 6) (ret := (some .int)) (hh := [(0, 11, 14, 13)]) (by decide) rfl rfl (Nat.le_of_ble_eq_true rfl) ?_
  intro p e s m args below meth c C hr hlk htab X N9 G ls hl
  have hl : lv_has ls 6 [(0, .ref (ad 0)), (1, .long (jz a0)), (3, .int (iz a1)), (4, .ref (ad 200))] := hl
  refine g_aload C dL_simulate_0 hl 3 rfl ?_
  refine g_iconst (a := 0) C dL_simulate_2 rfl ?_
  refine g_aload_n C dL_simulate_3 rfl hl 0 rfl ?_
  refine g_lload_n C dL_simulate_4 rfl hl 1 rfl ?_
  refine g_iload_n C dL_simulate_5 rfl hl 2 rfl ?_
  refine g_cxi C G (g_runVX (As := [.long (jz a0), .int (iz a1)]) (rest := [.int (iz 0), .ref (ad 200)]) (pos := 0) C G X M (cwV 2 C.1.2.2.2.2 gL_simulate_X7_simulate rfl rfl rfl (by decide +kernel) ⟨Nat.le_of_ble_eq_true rfl, Nat.le_of_ble_eq_true rfl⟩) (by omega) h0 (T := TX7) (N := 8) rfl rfl hl rfl (Nat.le_of_ble_eq_true rfl) dL_simulate_6 ⟨Nat.le_of_ble_eq_true rfl, Nat.le_of_ble_eq_true rfl⟩) (fun E ce q9 gx H locs hpx G hce hcv hcl => ?_) (fun r gm H locs hpo G => ?_)
  · have hE := hx E gx hpx
    subst hE
    refine vx_catch C.1.2.2.2.1 [] ⟨0, 11, 14, 13⟩ [] (htab.trans rfl) (fun z hz => nomatch hz) (by decide) (by decide) (C.1.2.2.2.2 _ (by decide +kernel : Cond.classLink RL 13 "java/lang/IllegalArgumentException" ∈ wsL_simulate)) (va_Nw.use rfl (X.1.1 "java/lang/IllegalArgumentException" (by decide))) hce hcv hcl ?_
    refine lv_astore (lv' := [(5, .ref q9), (0, .ref (ad 0)), (1, .long (jz a0)), (3, .int (iz a1)), (4, .ref (ad 200))]) C.1.1 C.1.2.1 dL_simulate_14 hl (by decide) rfl (fun ls hl => ?_)
    refine g_iconst (a := 1) C dL_simulate_16 rfl ?_
    refine g_iret C G hr hlk (Nat.le_of_ble_eq_true rfl) (Nat.le_of_ble_eq_true rfl) dL_simulate_17 ?_
    exact Or.inr (⟨rfl, hpx⟩)
  · have hom : gm 200 = aJ κ 1 o9 := (hfr _ _ hpo).trans ho
    rw [iz_rI r]
    refine g_i2l C (rI_in r) dL_simulate_9 ?_
    refine g_lastore C G (pos := 200) (by omega) hom (by decide) (by decide) (by decide) dL_simulate_10 (fun H locs G => ?_)
    refine g_goto (tgt := 18) C dL_simulate_11 (by decide) ?_
    refine g_iconst (a := 0) C dL_simulate_18 rfl ?_
    refine g_iret C G hr hlk (Nat.le_of_ble_eq_true rfl) (Nat.le_of_ble_eq_true rfl) dL_simulate_19 ?_
    exact Or.inl ⟨rfl, r, gm, hpo, rfl⟩
set_option maxHeartbeats 4000000 in
set_option maxRecDepth 100000 in
theorem w_L_save (l : Launch) (κ : gKap) (B n : Nat) (ad : Nat → Nat) (g : Nat → va_E) (a0 : Int) {post : Int → (Nat → va_E) → Prop} {px : String → (Nat → va_E) → Prop} {o9 : Int → Int64} {fs0 : List Value} (M : vx_Met l yX7_save wsX7_save ({ frames := 6, cells := 1, slots := 6, locals := 82 }) (gPreX κ B n ad g [.ref (ad 0), .int (iz a0)]) (gQi κ B n ad post) (gXX κ B n ad px) 1 6 (gFree B)) (hn : 201 ≤ n) (h0 : g 0 = .inr (7, fs0)) (ho : g 200 = aJ κ 1 o9) (hfr : ∀ z g', post z g' → g' 200 = g 200) (hx : ∀ E g9, px E g9 → E = "java/lang/IndexOutOfBoundsException") : Met l yL_save wsL_save ({ frames := 7, cells := 1, slots := 6, locals := 104 }) (gPreY κ B n ad g [.ref (ad 0), .int (iz a0), .ref (ad 200)]) (gQi κ B n ad (fun z g' => (z = 0 ∧ ∃ r gm, post r gm ∧ g' = va_up gm 200 (aJ κ 1 (vuJ o9 0 (jz (rI r))))) ∨ (z = 1 ∧ px "java/lang/IndexOutOfBoundsException" g'))) 1 6 (gFree B) := by
  refine g_metH RL (cc := cL_save) (maxL := 4) (ret := (some .int)) (hh := [(0, 9, 12, 28)]) (by decide) rfl rfl (Nat.le_of_ble_eq_true rfl) ?_
  intro p e s m args below meth c C hr hlk htab X N9 G ls hl
  have hl : lv_has ls 4 [(0, .ref (ad 0)), (1, .int (iz a0)), (2, .ref (ad 200))] := hl
  refine g_aload_n C dL_save_0 rfl hl 2 rfl ?_
  refine g_iconst (a := 0) C dL_save_1 rfl ?_
  refine g_aload_n C dL_save_2 rfl hl 0 rfl ?_
  refine g_iload_n C dL_save_3 rfl hl 1 rfl ?_
  refine g_cxi C G (g_runVX (As := [.int (iz a0)]) (rest := [.int (iz 0), .ref (ad 200)]) (pos := 0) C G X M (cwV 1 C.1.2.2.2.2 gL_save_X7_save rfl rfl rfl (by decide +kernel) ⟨Nat.le_of_ble_eq_true rfl, Nat.le_of_ble_eq_true rfl⟩) (by omega) h0 (T := TX7) (N := 8) rfl rfl hl rfl (Nat.le_of_ble_eq_true rfl) dL_save_4 ⟨Nat.le_of_ble_eq_true rfl, Nat.le_of_ble_eq_true rfl⟩) (fun E ce q9 gx H locs hpx G hce hcv hcl => ?_) (fun r gm H locs hpo G => ?_)
  · have hE := hx E gx hpx
    subst hE
    refine vx_catch C.1.2.2.2.1 [] ⟨0, 9, 12, 28⟩ [] (htab.trans rfl) (fun z hz => nomatch hz) (by decide) (by decide) (C.1.2.2.2.2 _ (by decide +kernel : Cond.classLink RL 28 "java/lang/IndexOutOfBoundsException" ∈ wsL_save)) (va_Nw.use rfl (X.1.1 "java/lang/IndexOutOfBoundsException" (by decide))) hce hcv hcl ?_
    refine lv_astore_n (lv' := [(3, .ref q9), (0, .ref (ad 0)), (1, .int (iz a0)), (2, .ref (ad 200))]) C.1.1 C.1.2.1 dL_save_12 rfl hl (by decide) rfl (fun ls hl => ?_)
    refine g_iconst (a := 1) C dL_save_13 rfl ?_
    refine g_iret C G hr hlk (Nat.le_of_ble_eq_true rfl) (Nat.le_of_ble_eq_true rfl) dL_save_14 ?_
    exact Or.inr (⟨rfl, hpx⟩)
  · have hom : gm 200 = aJ κ 1 o9 := (hfr _ _ hpo).trans ho
    rw [iz_rI r]
    refine g_i2l C (rI_in r) dL_save_7 ?_
    refine g_lastore C G (pos := 200) (by omega) hom (by decide) (by decide) (by decide) dL_save_8 (fun H locs G => ?_)
    refine g_goto (tgt := 15) C dL_save_9 (by decide) ?_
    refine g_iconst (a := 0) C dL_save_15 rfl ?_
    refine g_iret C G hr hlk (Nat.le_of_ble_eq_true rfl) (Nat.le_of_ble_eq_true rfl) dL_save_16 ?_
    exact Or.inl ⟨rfl, r, gm, hpo, rfl⟩
set_option maxHeartbeats 4000000 in
set_option maxRecDepth 100000 in
theorem w_L_restore (l : Launch) (κ : gKap) (B n : Nat) (ad : Nat → Nat) (g : Nat → va_E) (a0 : Int) {post : Int → (Nat → va_E) → Prop} {px : String → (Nat → va_E) → Prop} {o9 : Int → Int64} {fs0 : List Value} (M : vx_Met l yX7_restore wsX7_restore ({ frames := 6, cells := 1, slots := 6, locals := 82 }) (gPreX κ B n ad g [.ref (ad 0), .int (iz a0)]) (gQi κ B n ad post) (gXX κ B n ad px) 1 6 (gFree B)) (hn : 201 ≤ n) (h0 : g 0 = .inr (7, fs0)) (ho : g 200 = aJ κ 1 o9) (hfr : ∀ z g', post z g' → g' 200 = g 200) (hx : ∀ E g9, px E g9 → E = "java/lang/IndexOutOfBoundsException" ∨ E = "java/lang/IllegalStateException") : Met l yL_restore wsL_restore ({ frames := 7, cells := 1, slots := 6, locals := 104 }) (gPreY κ B n ad g [.ref (ad 0), .int (iz a0), .ref (ad 200)]) (gQi κ B n ad (fun z g' => (z = 0 ∧ ∃ r gm, post r gm ∧ g' = va_up gm 200 (aJ κ 1 (vuJ o9 0 (jz (rI r))))) ∨ (z = 1 ∧ px "java/lang/IndexOutOfBoundsException" g') ∨ (z = 2 ∧ px "java/lang/IllegalStateException" g'))) 1 6 (gFree B) := by
  refine g_metH RL (cc := cL_restore) (maxL := 4) (ret := (some .int)) (hh := [(0, 9, 12, 28), (0, 9, 15, 15)]) (by decide) rfl rfl (Nat.le_of_ble_eq_true rfl) ?_
  intro p e s m args below meth c C hr hlk htab X N9 G ls hl
  have hl : lv_has ls 4 [(0, .ref (ad 0)), (1, .int (iz a0)), (2, .ref (ad 200))] := hl
  refine g_aload_n C dL_restore_0 rfl hl 2 rfl ?_
  refine g_iconst (a := 0) C dL_restore_1 rfl ?_
  refine g_aload_n C dL_restore_2 rfl hl 0 rfl ?_
  refine g_iload_n C dL_restore_3 rfl hl 1 rfl ?_
  refine g_cxi C G (g_runVX (As := [.int (iz a0)]) (rest := [.int (iz 0), .ref (ad 200)]) (pos := 0) C G X M (cwV 1 C.1.2.2.2.2 gL_restore_X7_restore rfl rfl rfl (by decide +kernel) ⟨Nat.le_of_ble_eq_true rfl, Nat.le_of_ble_eq_true rfl⟩) (by omega) h0 (T := TX7) (N := 8) rfl rfl hl rfl (Nat.le_of_ble_eq_true rfl) dL_restore_4 ⟨Nat.le_of_ble_eq_true rfl, Nat.le_of_ble_eq_true rfl⟩) (fun E ce q9 gx H locs hpx G hce hcv hcl => ?_) (fun r gm H locs hpo G => ?_)
  · have hE := hx E gx hpx
    rcases hE with hE | hE
    · subst hE
      refine vx_catch C.1.2.2.2.1 [] ⟨0, 9, 12, 28⟩ [⟨0, 9, 15, 15⟩] (htab.trans rfl) (fun z hz => nomatch hz) (by decide) (by decide) (C.1.2.2.2.2 _ (by decide +kernel : Cond.classLink RL 28 "java/lang/IndexOutOfBoundsException" ∈ wsL_restore)) (va_Nw.use rfl (X.1.1 "java/lang/IndexOutOfBoundsException" (by decide))) hce hcv hcl ?_
      refine lv_astore_n (lv' := [(3, .ref q9), (0, .ref (ad 0)), (1, .int (iz a0)), (2, .ref (ad 200))]) C.1.1 C.1.2.1 dL_restore_12 rfl hl (by decide) rfl (fun ls hl => ?_)
      refine g_iconst (a := 1) C dL_restore_13 rfl ?_
      refine g_iret C G hr hlk (Nat.le_of_ble_eq_true rfl) (Nat.le_of_ble_eq_true rfl) dL_restore_14 ?_
      exact Or.inr (Or.inl ⟨rfl, hpx⟩)
    · subst hE
      refine vx_catch C.1.2.2.2.1 [⟨0, 9, 12, 28⟩] ⟨0, 9, 15, 15⟩ [] (htab.trans rfl) (fun z hz => by rw [List.mem_singleton] at hz; subst hz; exact Or.inr ⟨by decide, "java/lang/IndexOutOfBoundsException", C.1.2.2.2.2 _ (by decide +kernel : Cond.classLink RL 28 "java/lang/IndexOutOfBoundsException" ∈ wsL_restore), N9 _ (by decide) _ (by decide) (by decide)⟩) (by decide) (by decide) (C.1.2.2.2.2 _ (by decide +kernel : Cond.classLink RL 15 "java/lang/IllegalStateException" ∈ wsL_restore)) (va_Nw.use rfl (X.1.1 "java/lang/IllegalStateException" (by decide))) hce hcv hcl ?_
      refine lv_astore_n (lv' := [(3, .ref q9), (0, .ref (ad 0)), (1, .int (iz a0)), (2, .ref (ad 200))]) C.1.1 C.1.2.1 dL_restore_15 rfl hl (by decide) rfl (fun ls hl => ?_)
      refine g_iconst (a := 2) C dL_restore_16 rfl ?_
      refine g_iret C G hr hlk (Nat.le_of_ble_eq_true rfl) (Nat.le_of_ble_eq_true rfl) dL_restore_17 ?_
      exact Or.inr (Or.inr ⟨rfl, hpx⟩)
  · have hom : gm 200 = aJ κ 1 o9 := (hfr _ _ hpo).trans ho
    rw [iz_rI r]
    refine g_i2l C (rI_in r) dL_restore_7 ?_
    refine g_lastore C G (pos := 200) (by omega) hom (by decide) (by decide) (by decide) dL_restore_8 (fun H locs G => ?_)
    refine g_goto (tgt := 18) C dL_restore_9 (by decide) ?_
    refine g_iconst (a := 0) C dL_restore_18 rfl ?_
    refine g_iret C G hr hlk (Nat.le_of_ble_eq_true rfl) (Nat.le_of_ble_eq_true rfl) dL_restore_19 ?_
    exact Or.inl ⟨rfl, r, gm, hpo, rfl⟩
