/-! CONTRACTS: entry, returns, calls -/
section GM
variable {p : Program} {l : Launch} {e : Env} {R : Room} {s : State} {m : MethodId} {args : Array Value} {below : List Frame} {meth : Method} {c : Code} {H : Heap} {locs : List Loc} {cells slots : Nat} {Q : State → Prop}
variable {cc : ByteArray} {nL pc : Nat} {ls : Array Slot} {rest : List Value} {Ts : List Cond} {own : String} {κ : gKap} {B n : Nat} {ad : Nat → Nat} {g : Nat → va_E}
theorem g_met {y : MethodName} (own : String) {ws ws' : List Cond} {rm : Room} {As : List Value} {Qc : Array Value → State → Outcome → State → Prop} {mc ms maxL : Nat} {ret : Option FieldType}
    (hy : plainName y.cls = true) (hw : ws = Cond.code y cc maxL ret :: ws') (ho : y.cls = own) (hsl : (lg_sl As).length ≤ maxL)
    (body : ∀ (p : Program) (e : Env) (s : State) (m : MethodId) (args : Array Value) (below : List Frame) (meth : Method) (c : Code), gC p c cc maxL s m args ws own κ B n ad → meth.sig.returnType = ret → meth.locks = false → meth.name = y.name → gG κ B n ad s g s.heap [] → ∀ ls : Array Slot, lv_has ls maxL (lv_args 0 As) → W p l e rm s m args below meth c s.heap [] 0 0 (MQ below Qc args s mc ms (gFree B)) (F0 m 0 ls [])) :
    Met l y ws rm (gPre κ B n ad g As) Qc mc ms (gFree B) := by
  subst ho
  refine Met.ofW (cc := cc) (maxL := maxL) (ret := ret) hy hw ?_
  intro p e s m args below meth c s₁ Bd hml hv
  obtain ⟨rfl, hB, hP, hK, hD⟩ := hv
  have hts := atoms_spec (ws := ws) Bd.pre
  have hown : s.vm.findClass y.cls = some m.cls := findClass_of_methodNamed Bd.named
  have hl := lv_entry As (n := maxL) hsl
  rw [lg_entry_eq]
  exact body p e s m _ below meth c ⟨⟨Bd.exec, Bd.bytes, hml, hown, hts⟩, hK, hD, hB⟩ Bd.returns Bd.notSynchronized (name_of_methodNamed Bd.named Bd.method).1 ⟨hP, va_S.rf⟩ _ hl
theorem g_iret (C : gC p c cc nL s m args Ts own κ B n ad) (G : gG κ B n ad s g H locs) (hr : meth.sig.returnType = some .int) (hlk : meth.locks = false) {z : Int} {post : Int → (Nat → va_E) → Prop} {mc ms : Nat} (hc : cells ≤ mc) (hs : slots ≤ ms) (d : decode cc pc = .ok (.ireturn, 1)) (hq : post z g) : W p l e R s m args below meth c H locs cells slots (MQ below (gQi κ B n ad post) args s mc ms (gFree B)) (F0 m pc ls [.int (iz z)]) :=
  W.widen hc hs (W.iret C.1.1 C.1.2.1 hr (fun t ht _ => ⟨⟨iz z, g, rfl, ⟨z, rfl, hq⟩, by subst ht; exact G.1⟩, G.2.F ht⟩) G.2.2.2 d hlk)
theorem g_zret (C : gC p c cc nL s m args Ts own κ B n ad) (G : gG κ B n ad s g H locs) (hr : meth.sig.returnType = some .boolean) (hlk : meth.locks = false) {z : Int} {post : Int → (Nat → va_E) → Prop} {mc ms : Nat} (hz : z = 0 ∨ z = 1) (hc : cells ≤ mc) (hs : slots ≤ ms) (d : decode cc pc = .ok (.ireturn, 1)) (hq : post z g) : W p l e R s m args below meth c H locs cells slots (MQ below (gQi κ B n ad post) args s mc ms (gFree B)) (F0 m pc ls [.int (iz z)]) :=
  W.widen hc hs (W.zret C.1.1 C.1.2.1 hr (by rcases hz with rfl | rfl <;> rfl) (fun t ht _ => ⟨⟨iz z, g, rfl, ⟨z, rfl, hq⟩, by subst ht; exact G.1⟩, G.2.F ht⟩) G.2.2.2 d hlk)
theorem g_lret (C : gC p c cc nL s m args Ts own κ B n ad) (G : gG κ B n ad s g H locs) (hr : meth.sig.returnType = some .long) (hlk : meth.locks = false) {z : Int} {post : Int → (Nat → va_E) → Prop} {mc ms : Nat} (hc : cells ≤ mc) (hs : slots ≤ ms) (d : decode cc pc = .ok (.lreturn, 1)) (hq : post z g) : W p l e R s m args below meth c H locs cells slots (MQ below (gQl κ B n ad post) args s mc ms (gFree B)) (F0 m pc ls [.long (jz z)]) :=
  W.widen hc hs (W.lret C.1.1 C.1.2.1 hr (fun t ht _ => ⟨⟨jz z, g, rfl, ⟨z, rfl, hq⟩, by subst ht; exact G.1⟩, G.2.F ht⟩) G.2.2.2 d hlk)
theorem g_vret (C : gC p c cc nL s m args Ts own κ B n ad) (G : gG κ B n ad s g H locs) (hr : meth.sig.returnType = none) (hlk : meth.locks = false) {post : (Nat → va_E) → Prop} {mc ms : Nat} (hc : cells ≤ mc) (hs : slots ≤ ms) (d : decode cc pc = .ok (.return_, 1)) (hq : post g) : W p l e R s m args below meth c H locs cells slots (MQ below (gQv κ B n ad post) args s mc ms (gFree B)) (F0 m pc ls []) :=
  W.widen hc hs (W.vret C.1.1 C.1.2.1 hr (fun t ht _ => ⟨⟨g, rfl, hq, by subst ht; exact G.1⟩, G.2.F ht⟩) G.2.2.2 d hlk)
theorem g_aret (C : gC p c cc nL s m args Ts own κ B n ad) (G : gG κ B n ad s g H locs) {cn : String} (hr : meth.sig.returnType = some (.object cn)) (hlk : meth.locks = false) {q : Nat} {post : Option Nat → (Nat → va_E) → Prop} {mc ms : Nat} (hc : cells ≤ mc) (hs : slots ≤ ms) (d : decode cc pc = .ok (.areturn, 1)) (hq : post (some q) g) : W p l e R s m args below meth c H locs cells slots (MQ below (gQo κ B n ad post) args s mc ms (gFree B)) (F0 m pc ls [.ref (ad q)]) :=
  W.widen hc hs (W.aret C.1.1 C.1.2.1 hr (Or.inl ⟨_, rfl⟩) (Or.inr ⟨_, rfl⟩) (fun t ht _ => ⟨⟨some (ad q), g, rfl, ⟨some q, rfl, hq⟩, by subst ht; exact G.1⟩, G.2.F ht⟩) G.2.2.2 d hlk)
theorem g_aretN (C : gC p c cc nL s m args Ts own κ B n ad) (G : gG κ B n ad s g H locs) {cn : String} (hr : meth.sig.returnType = some (.object cn)) (hlk : meth.locks = false) {post : Option Nat → (Nat → va_E) → Prop} {mc ms : Nat} (hc : cells ≤ mc) (hs : slots ≤ ms) (d : decode cc pc = .ok (.areturn, 1)) (hq : post none g) : W p l e R s m args below meth c H locs cells slots (MQ below (gQo κ B n ad post) args s mc ms (gFree B)) (F0 m pc ls [.null]) :=
  W.widen hc hs (W.aret C.1.1 C.1.2.1 hr (Or.inl ⟨_, rfl⟩) (Or.inl rfl) (fun t ht _ => ⟨⟨none, g, rfl, ⟨none, rfl, hq⟩, by subst ht; exact G.1⟩, G.2.F ht⟩) G.2.2.2 d hlk)
theorem g_runV (C : gC p c cc nL s m args Ts own κ B n ad) (G : gG κ B n ad s g H locs) {y : MethodName} {bytes : ByteArray} {maxL mc ms k index : Nat} {ret : Option FieldType} {ws : List Cond} {rm : Room} {Qc : Array Value → State → Outcome → State → Prop} {As st0 : List Value} {lv : List (Nat × Value)} {pos ci N : Nat} {fs : List Value} {Cn : String} {T : u_T} (M : Met l y ws rm (gPre κ B n ad g (.ref (ad pos) :: As)) Qc mc ms (gFree B)) (cw : CallW R s args own Cn index y bytes maxL ret ws rm mc ms k) (hp : pos < n) (he : g pos = .inr (ci, fs)) (hci : vwCl[ci]? = some (Cn, T, N)) (hn : As.length = k) (hl : lv_has ls nL lv) (hst : st0 = As.reverse ++ .ref (ad pos) :: rest) (hW : (rest.map fun v => v.category).sum ≤ 8) (d : decode cc pc = .ok (.invokevirtual index, 3)) (hf : cells + mc ≤ R.cells ∧ slots + ms ≤ R.slots) :
    va_Run p l e R s m args below meth c H locs cells slots mc ms (F0 m pc ls st0) rest (Qc (Value.ref (ad pos) :: As : List Value).toArray) (gFree B) :=
  va_runV C.1 M cw ⟨gPre.blind, va_recv C.2.1.1 G.1 hci (q0 := pos) (by rw [gW_at hp, he]), fun U hU hW => ⟨rfl, by rw [hU]; exact Nat.le_trans C.2.2.2 G.2.1, by rw [hU]; exact G.1, C.2.1.warm hW, C.2.2.1⟩⟩ rfl hn hl.1 hst (lv_room hW) d hf
theorem g_runS (C : gC p c cc nL s m args Ts own κ B n ad) (G : gG κ B n ad s g H locs) {y : MethodName} {bytes : ByteArray} {maxL mc ms k index : Nat} {ret : Option FieldType} {ws : List Cond} {rm : Room} {Qc : Array Value → State → Outcome → State → Prop} {As st0 : List Value} {lv : List (Nat × Value)} (M : Met l y ws rm (gPre κ B n ad g As) Qc mc ms (gFree B)) (cw : CallB R s args own index y bytes maxL ret ws rm mc ms k ∧ (Cond.static y).before args s = true) (hn : As.length = k) (hl : lv_has ls nL lv) (hst : st0 = As.reverse ++ rest) (hW : (rest.map fun v => v.category).sum ≤ 8) (d : decode cc pc = .ok (.invokestatic index, 3)) (hf : cells + mc ≤ R.cells ∧ slots + ms ≤ R.slots) :
    va_Run p l e R s m args below meth c H locs cells slots mc ms (F0 m pc ls st0) rest (Qc (As : List Value).toArray) (gFree B) :=
  va_runS C.1 M cw ⟨gPre.blind, fun U hU hW => ⟨rfl, by rw [hU]; exact Nat.le_trans C.2.2.2 G.2.1, by rw [hU]; exact G.1, C.2.1.warm hW, C.2.2.1⟩⟩ rfl hn hl.1 hst (lv_room hW) d hf
theorem g_runN (C : gC p c cc nL s m args Ts own κ B n ad) (G : gG κ B n ad s g H locs) {y : MethodName} {bytes : ByteArray} {maxL mc ms k index : Nat} {ret : Option FieldType} {ws : List Cond} {rm : Room} {Qc : Array Value → State → Outcome → State → Prop} {As st0 : List Value} {lv : List (Nat × Value)} (M : Met l y ws rm (gPre κ B n ad g As) Qc mc ms (gFree B)) (cw : va_CN R s args own index y RX7 bytes maxL ret ws rm mc ms k ∧ (Cond.static y).before args s = true ∧ True) (hn : As.length = k) (hl : lv_has ls nL lv) (hst : st0 = As.reverse ++ rest) (hW : (rest.map fun v => v.category).sum ≤ 8) (d : decode cc pc = .ok (.invokestatic index, 3)) (hf : cells + mc ≤ R.cells ∧ slots + ms ≤ R.slots) :
    va_Run p l e R s m args below meth c H locs cells slots mc ms (F0 m pc ls st0) rest (Qc (As : List Value).toArray) (gFree B) :=
  va_runSN C.1 M cw ⟨gPre.blind, fun U hU hW => ⟨rfl, by rw [hU]; exact Nat.le_trans C.2.2.2 G.2.1, by rw [hU]; exact G.1, C.2.1.warm hW, C.2.2.1⟩⟩ rfl hn hl.1 hst (lv_room hW) d hf
theorem g_runI (C : gC p c cc nL s m args Ts own κ B n ad) (G : gG κ B n ad s g H locs) {y : MethodName} {bytes : ByteArray} {maxL mc ms k index : Nat} {ws : List Cond} {rm : Room} {Qc : Array Value → State → Outcome → State → Prop} {As st0 : List Value} {lv : List (Nat × Value)} {pos : Nat} (M : Met l y ws rm (gPre κ B n ad g (.ref (ad pos) :: As)) Qc mc ms (gFree B)) (cw : CallB R s args own index y bytes maxL none ws rm mc ms k ∧ y.name = "<init>" ∧ (Cond.instanceMethod y).before args s = true) (hn : As.length = k) (hl : lv_has ls nL lv) (hst : st0 = As.reverse ++ .ref (ad pos) :: rest) (hW : (rest.map fun v => v.category).sum ≤ 8) (d : decode cc pc = .ok (.invokespecial index, 3)) (hf : cells + mc ≤ R.cells ∧ slots + ms ≤ R.slots) :
    va_Run p l e R s m args below meth c H locs cells slots mc ms (F0 m pc ls st0) rest (Qc (Value.ref (ad pos) :: As : List Value).toArray) (gFree B) :=
  va_runI C.1 M cw ⟨gPre.blind, fun U hU hW => ⟨rfl, by rw [hU]; exact Nat.le_trans C.2.2.2 G.2.1, by rw [hU]; exact G.1, C.2.1.warm hW, C.2.2.1⟩⟩ rfl hn hl.1 hst (lv_room hW) d hf
theorem g_ci (C : gC p c cc nL s m args Ts own κ B n ad) (G : gG κ B n ad s g H locs) {st0 : List Value} {a : Array Value} {mc ms : Nat} {post : Int → (Nat → va_E) → Prop} (hr : va_Run p l e R s m args below meth c H locs cells slots mc ms (F0 m pc ls st0) rest (gQi κ B n ad post a) (gFree B)) (kk : ∀ (z : Int) (g : Nat → va_E) (H : Heap) (locs : List Loc), post z g → gG κ B n ad s g H locs → W p l e R s m args below meth c H locs (cells + mc) (slots + ms) Q (F0 m (pc + 3) ls (.int (iz z) :: rest))) : W p l e R s m args below meth c H locs cells slots Q (F0 m pc ls st0) := by
  refine va_calli hr G.2 (fun q _ h => h) (fun q h => h) (fun r u t H1 locs1 ht hvm hw hB hz1 hk1 hS => ?_)
  obtain ⟨z, rfl, hp⟩ := hw
  subst ht
  exact kk z u t.heap locs1 hp ⟨hB, hS⟩
theorem g_cl (C : gC p c cc nL s m args Ts own κ B n ad) (G : gG κ B n ad s g H locs) {st0 : List Value} {a : Array Value} {mc ms : Nat} {post : Int → (Nat → va_E) → Prop} (hr : va_Run p l e R s m args below meth c H locs cells slots mc ms (F0 m pc ls st0) rest (gQl κ B n ad post a) (gFree B)) (kk : ∀ (z : Int) (g : Nat → va_E) (H : Heap) (locs : List Loc), post z g → gG κ B n ad s g H locs → W p l e R s m args below meth c H locs (cells + mc) (slots + ms) Q (F0 m (pc + 3) ls (.long (jz z) :: rest))) : W p l e R s m args below meth c H locs cells slots Q (F0 m pc ls st0) := by
  refine va_calll hr G.2 (fun q _ h => h) (fun q h => h) (fun r u t H1 locs1 ht hvm hw hB hz1 hk1 hS => ?_)
  obtain ⟨z, rfl, hp⟩ := hw
  subst ht
  exact kk z u t.heap locs1 hp ⟨hB, hS⟩
theorem g_cv (C : gC p c cc nL s m args Ts own κ B n ad) (G : gG κ B n ad s g H locs) {st0 : List Value} {a : Array Value} {mc ms : Nat} {post : (Nat → va_E) → Prop} (hr : va_Run p l e R s m args below meth c H locs cells slots mc ms (F0 m pc ls st0) rest (gQv κ B n ad post a) (gFree B)) (kk : ∀ (g : Nat → va_E) (H : Heap) (locs : List Loc), post g → gG κ B n ad s g H locs → W p l e R s m args below meth c H locs (cells + mc) (slots + ms) Q (F0 m (pc + 3) ls rest)) : W p l e R s m args below meth c H locs cells slots Q (F0 m pc ls st0) := by
  refine va_callv hr G.2 (fun q _ h => h) (fun q h => h) (fun u t H1 locs1 ht hvm hw hB hz1 hk1 hS => ?_)
  subst ht
  exact kk u t.heap locs1 hw ⟨hB, hS⟩
theorem g_co (C : gC p c cc nL s m args Ts own κ B n ad) (G : gG κ B n ad s g H locs) {st0 : List Value} {a : Array Value} {mc ms : Nat} {post : Option Nat → (Nat → va_E) → Prop} (hr : va_Run p l e R s m args below meth c H locs cells slots mc ms (F0 m pc ls st0) rest (gQo κ B n ad post a) (gFree B)) (k1 : ∀ (q : Nat) (g : Nat → va_E) (H : Heap) (locs : List Loc), post (some q) g → gG κ B n ad s g H locs → W p l e R s m args below meth c H locs (cells + mc) (slots + ms) Q (F0 m (pc + 3) ls (.ref (ad q) :: rest))) (k2 : ∀ (g : Nat → va_E) (H : Heap) (locs : List Loc), post none g → gG κ B n ad s g H locs → W p l e R s m args below meth c H locs (cells + mc) (slots + ms) Q (F0 m (pc + 3) ls (.null :: rest))) : W p l e R s m args below meth c H locs cells slots Q (F0 m pc ls st0) := by
  refine va_callq hr G.2 (fun q _ h => h) (fun q h => h) (fun r u t H1 locs1 ht hvm hw hB hz1 hk1 hS => ?_)
  obtain ⟨o, rfl, hp⟩ := hw
  subst ht
  cases o with
  | none => exact k2 u t.heap locs1 hp ⟨hB, hS⟩
  | some q => exact k1 q u t.heap locs1 hp ⟨hB, hS⟩
theorem g_mabs (C : gC p c cc nL s m args Ts own κ B n ad) {lv : List (Nat × Value)} (hl : lv_has ls nL lv) {index : Nat} (w1 : Cond.methodLink own index Lib.Math.abs.name ∈ Ts) (w2 : Cond.static Lib.Math.abs.name ∈ Ts) (w3 : Cond.initialized "java/lang/Math" ∈ Ts) (w4 : Cond.code Lib.Math.abs.name Lib.Math.abs.code 1 (some .int) ∈ Ts) (hfr : 1 ≤ R.frames) (hlo : (rest.map fun v => v.category).sum + 13 ≤ R.locals) (hc : cells ≤ R.cells) (hs : slots ≤ R.slots) {a : Int} (ha : inI a) (d : decode cc pc = .ok (.invokestatic index, 3)) (kk : ∀ z : Int, ((0 ≤ a ∧ z = a) ∨ (a < 0 ∧ z = -a)) → W p l e R s m args below meth c H locs cells slots Q (F0 m (pc + 3) ls (.int (iz z) :: rest))) : W p l e R s m args below meth c H locs cells slots Q (F0 m pc ls (.int (iz a) :: rest)) := by
  obtain ⟨⟨hx, hb, hml, hown, hts⟩, -⟩ := C
  refine va_mabs hx hb (hml.trans hl.1.symm) hown (hts _ w1) (hts _ w2) (hts _ w3) (hts _ w4) hfr hlo hc hs d ?_
  have h9 : (0 : Int32) ≤ iz a ↔ 0 ≤ a := iz_le (a := 0) ⟨by omega, by omega⟩ ha
  by_cases h : 0 ≤ a
  · rw [if_pos (h9.mpr h)]
    exact kk a (Or.inl ⟨h, rfl⟩)
  · rw [if_neg (fun q => h (h9.mp q)), show (0 : Int32) - iz a = iz (-a) from by rw [show (0 : Int32) = iz 0 from rfl, show iz 0 - iz a = iz (0 - a) from (Int32.ofInt_sub 0 a).symm]; congr 1; omega]
    exact kk (-a) (Or.inr ⟨by omega, rfl⟩)
theorem g_mmax (C : gC p c cc nL s m args Ts own κ B n ad) {lv : List (Nat × Value)} (hl : lv_has ls nL lv) {index : Nat} (w1 : Cond.methodLink own index Lib.Math.max.name ∈ Ts) (w2 : Cond.static Lib.Math.max.name ∈ Ts) (w3 : Cond.initialized "java/lang/Math" ∈ Ts) (w4 : Cond.code Lib.Math.max.name Lib.Math.max.code 2 (some .int) ∈ Ts) (hfr : 1 ≤ R.frames) (hlo : (rest.map fun v => v.category).sum + 13 ≤ R.locals) (hc : cells ≤ R.cells) (hs : slots ≤ R.slots) {a b : Int} (ha : inI a) (hb2 : inI b) (d : decode cc pc = .ok (.invokestatic index, 3)) (kk : ∀ z : Int, z = max a b → W p l e R s m args below meth c H locs cells slots Q (F0 m (pc + 3) ls (.int (iz z) :: rest))) : W p l e R s m args below meth c H locs cells slots Q (F0 m pc ls (.int (iz b) :: .int (iz a) :: rest)) := by
  obtain ⟨⟨hx, hb, hml, hown, hts⟩, -⟩ := C
  refine va_mmax hx hb (hml.trans hl.1.symm) hown (hts _ w1) (hts _ w2) (hts _ w3) (hts _ w4) hfr hlo hc hs d ?_
  have h9 : iz a < iz b ↔ a < b := iz_lt ha hb2
  have h8 : iz b < iz a ↔ b < a := iz_lt hb2 ha
  by_cases h : a < b
  · rw [if_pos (h9.mpr h)]
    exact kk b (by omega)
  · rw [if_neg (fun q => h (h9.mp q))]
    exact kk a (by omega)
theorem g_mmin (C : gC p c cc nL s m args Ts own κ B n ad) {lv : List (Nat × Value)} (hl : lv_has ls nL lv) {index : Nat} (w1 : Cond.methodLink own index Lib.Math.min.name ∈ Ts) (w2 : Cond.static Lib.Math.min.name ∈ Ts) (w3 : Cond.initialized "java/lang/Math" ∈ Ts) (w4 : Cond.code Lib.Math.min.name Lib.Math.min.code 2 (some .int) ∈ Ts) (hfr : 1 ≤ R.frames) (hlo : (rest.map fun v => v.category).sum + 13 ≤ R.locals) (hc : cells ≤ R.cells) (hs : slots ≤ R.slots) {a b : Int} (ha : inI a) (hb2 : inI b) (d : decode cc pc = .ok (.invokestatic index, 3)) (kk : ∀ z : Int, z = min a b → W p l e R s m args below meth c H locs cells slots Q (F0 m (pc + 3) ls (.int (iz z) :: rest))) : W p l e R s m args below meth c H locs cells slots Q (F0 m pc ls (.int (iz b) :: .int (iz a) :: rest)) := by
  obtain ⟨⟨hx, hb, hml, hown, hts⟩, -⟩ := C
  refine va_mmin hx hb (hml.trans hl.1.symm) hown (hts _ w1) (hts _ w2) (hts _ w3) (hts _ w4) hfr hlo hc hs d ?_
  have h9 : iz a < iz b ↔ a < b := iz_lt ha hb2
  have h8 : iz b < iz a ↔ b < a := iz_lt hb2 ha
  by_cases h : b < a
  · rw [if_pos (h8.mpr h)]
    exact kk b (by omega)
  · rw [if_neg (fun q => h (h8.mp q))]
    exact kk a (by omega)
theorem g_cwN {y : MethodName} {bytes : ByteArray} {maxL mc ms index : Nat} {ret : Option FieldType} {ws ws' : List Cond} {rm : Room} (k : Nat) (C : gC p c cc nL s m args Ts own κ B n ad) (hG : GoodIn Ts ws) (hw : ws = Cond.code y bytes maxL ret :: ws') (hrc : rm.cells = mc) (hrs : rm.slots = ms) (hN : (own, index, y) ∈ gNs) (hi : Cond.initialized y.cls ∈ Ts) (hst : Cond.static y ∈ Ts)
    (hd : y.cls ≠ "java/lang/invoke/MethodHandle" ∧ y.cls ≠ "java/lang/invoke/VarHandle" ∧ (parseMethodDescriptor y.desc).map (fun d => d.parameters.length) = some k) (hR : rm.frames + 1 ≤ R.frames ∧ 8 + (maxL + 11) + rm.locals ≤ R.locals) :
    va_CN R s args own index y RX7 bytes maxL ret ws rm mc ms k ∧ (Cond.static y).before args s = true ∧ True :=
  ⟨va_cnB k C.1.2.2.2.2 hG hw hrc hrs (C.2.1.2 (own, index, y) hN) (C.1.2.2.2.2 _ hi) hd hR, C.1.2.2.2.2 _ hst, trivial⟩
end GM
