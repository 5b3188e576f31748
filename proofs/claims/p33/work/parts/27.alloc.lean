/-! ALLOCATION: rows by which the ghost heap grows -/
def gAO (U : State) : Prop := va_AO RX3 U ∧ va_AO RX4 U
theorem gAO.warm {s U : State} (hW : s.WarmedH U.vm) (h : gAO s) : gAO U := ⟨h.1.moved hW.alike, h.2.moved hW.alike⟩
theorem gAO.calling {U : State} {g : JFrame} {mk : MethodId} {a : Array Value} (h : gAO U) : gAO (U.calling g mk a) := ⟨va_AO.moved (u := U) (U := U.calling g mk a) (Vm.Alike.refl U.vm) h.1, va_AO.moved (u := U) (U := U.calling g mk a) (Vm.Alike.refl U.vm) h.2⟩
def gPreA (κ : gKap) (B n : Nat) (ad : Nat → Nat) (g : Nat → va_E) (As : List Value) : Array Value → State → Prop := va_Pc As (fun U => gS κ B n ad g U ∧ gAO U)
theorem gPreA.blind {κ : gKap} {B n : Nat} {ad : Nat → Nat} {g : Nat → va_E} {As : List Value} : FrameBlind (gPreA κ B n ad g As) := fun _ U _ _ h => ⟨h.1, ⟨h.2.1.1, h.2.1.2.1, gK.same (s := U) rfl h.2.1.2.2.1, h.2.1.2.2.2⟩, h.2.2.calling⟩
/-- a method that makes cells: n positions before, n' behind -/
def gQg (κ : gKap) (B n n' : Nat) (ad : Nat → Nat) (post : (Nat → Nat) → (Nat → va_E) → Prop) : Array Value → State → Outcome → State → Prop := va_Qv (S := (Nat → Nat) × (Nat → va_E)) (fun x => (∀ k, k < n → x.1 k = ad k) ∧ gD B n' x.1 ∧ post x.1 x.2) (fun x t => gP κ n' x.1 x.2 t.heap) (gFree B)
theorem arrV_congr {cI : ClassId} {N : Nat} {f f' : Nat → Value} (h : ∀ j, j < N → f j = f' j) : arrV cI N f = arrV cI N f' := by
  unfold arrV
  congr 1
  apply Array.ext
  · simp
  · intro i h1 h2
    simp only [Array.getElem_ofFn]
    exact h i (by simpa using h1)
section GA
variable {p : Program} {l : Launch} {e : Env} {R : Room} {s : State} {m : MethodId} {args : Array Value} {below : List Frame} {meth : Method} {c : Code} {H : Heap} {locs : List Loc} {cells slots : Nat} {Q : State → Prop}
variable {cc : ByteArray} {nL pc : Nat} {ls : Array Slot} {rest : List Value} {Ts : List Cond} {own : String} {κ : gKap} {B n : Nat} {ad : Nat → Nat} {g : Nat → va_E}
theorem g_metA {y : MethodName} (own : String) {ws ws' : List Cond} {rm : Room} {As : List Value} {Qc : Array Value → State → Outcome → State → Prop} {mc ms maxL : Nat} {ret : Option FieldType}
    (hy : plainName y.cls = true) (hw : ws = Cond.code y cc maxL ret :: ws') (ho : y.cls = own) (hsl : (lg_sl As).length ≤ maxL)
    (body : ∀ (p : Program) (e : Env) (s : State) (m : MethodId) (args : Array Value) (below : List Frame) (meth : Method) (c : Code), gC p c cc maxL s m args ws own κ B n ad → meth.sig.returnType = ret → meth.locks = false → meth.name = y.name → gAO s → gG κ B n ad s g s.heap [] → ∀ ls : Array Slot, lv_has ls maxL (lv_args 0 As) → W p l e rm s m args below meth c s.heap [] 0 0 (MQ below Qc args s mc ms (gFree B)) (F0 m 0 ls [])) :
    Met l y ws rm (gPreA κ B n ad g As) Qc mc ms (gFree B) := by
  subst ho
  refine Met.ofW (cc := cc) (maxL := maxL) (ret := ret) hy hw ?_
  intro p e s m args below meth c s₁ Bd hml hv
  obtain ⟨rfl, ⟨hB, hP, hK, hD⟩, hA⟩ := hv
  have hts := atoms_spec (ws := ws) Bd.pre
  have hown : s.vm.findClass y.cls = some m.cls := findClass_of_methodNamed Bd.named
  have hl := lv_entry As (n := maxL) hsl
  rw [lg_entry_eq]
  exact body p e s m _ below meth c ⟨⟨Bd.exec, Bd.bytes, hml, hown, hts⟩, hK, hD, hB⟩ Bd.returns Bd.notSynchronized (name_of_methodNamed Bd.named Bd.method).1 hA ⟨hP, va_S.rf⟩ _ hl
theorem g_vretG {n' : Nat} {a9 : Nat → Nat} (C : gC p c cc nL s m args Ts own κ B n' a9) (G : gG κ B n' a9 s g H locs) (hr : meth.sig.returnType = none) (hlk : meth.locks = false) {post : (Nat → Nat) → (Nat → va_E) → Prop} {mc ms : Nat} (hc : cells ≤ mc) (hs : slots ≤ ms) (d : decode cc pc = .ok (.return_, 1)) (hE : ∀ k, k < n → a9 k = ad k) (hq : post a9 g) : W p l e R s m args below meth c H locs cells slots (MQ below (gQg κ B n n' ad post) args s mc ms (gFree B)) (F0 m pc ls []) :=
  W.widen hc hs (W.vret C.1.1 C.1.2.1 hr (fun t ht _ => ⟨⟨(a9, g), rfl, ⟨hE, C.2.2.1, hq⟩, by subst ht; exact G.1⟩, G.2.F ht⟩) G.2.2.2 d hlk)
theorem g_runIA (C : gC p c cc nL s m args Ts own κ B n ad) (G : gG κ B n ad s g H locs) (hAO : gAO s) {y : MethodName} {bytes : ByteArray} {maxL mc ms k index : Nat} {ws : List Cond} {rm : Room} {Qc : Array Value → State → Outcome → State → Prop} {As st0 : List Value} {lv : List (Nat × Value)} {pos : Nat} (M : Met l y ws rm (gPreA κ B n ad g (.ref (ad pos) :: As)) Qc mc ms (gFree B)) (cw : CallB R s args own index y bytes maxL none ws rm mc ms k ∧ y.name = "<init>" ∧ (Cond.instanceMethod y).before args s = true) (hn : As.length = k) (hl : lv_has ls nL lv) (hst : st0 = As.reverse ++ .ref (ad pos) :: rest) (hW : (rest.map fun v => v.category).sum ≤ 8) (d : decode cc pc = .ok (.invokespecial index, 3)) (hf : cells + mc ≤ R.cells ∧ slots + ms ≤ R.slots) :
    va_Run p l e R s m args below meth c H locs cells slots mc ms (F0 m pc ls st0) rest (Qc (Value.ref (ad pos) :: As : List Value).toArray) (gFree B) :=
  va_runI C.1 M cw ⟨gPreA.blind, fun U hU hW => ⟨rfl, ⟨by rw [hU]; exact Nat.le_trans C.2.2.2 G.2.1, by rw [hU]; exact G.1, C.2.1.warm hW, C.2.2.1⟩, hAO.warm hW⟩⟩ rfl hn hl.1 hst (lv_room hW) d hf
theorem g_cvG {n' : Nat} (C : gC p c cc nL s m args Ts own κ B n ad) (G : gG κ B n ad s g H locs) {st0 : List Value} {a : Array Value} {mc ms : Nat} {post : (Nat → Nat) → (Nat → va_E) → Prop} (hr : va_Run p l e R s m args below meth c H locs cells slots mc ms (F0 m pc ls st0) rest (gQg κ B n n' ad post a) (gFree B)) (kk : ∀ (a9 : Nat → Nat) (g : Nat → va_E) (H : Heap) (locs : List Loc), (∀ k, k < n → a9 k = ad k) → post a9 g → gC p c cc nL s m args Ts own κ B n' a9 → gG κ B n' a9 s g H locs → W p l e R s m args below meth c H locs (cells + mc) (slots + ms) Q (F0 m (pc + 3) ls rest)) : W p l e R s m args below meth c H locs cells slots Q (F0 m pc ls st0) := by
  refine va_callv hr G.2 (fun q _ h => h) (fun q h => h) (fun u t H1 locs1 ht hvm hw hB hz1 hk1 hS => ?_)
  subst ht
  exact kk u.1 u.2 t.heap locs1 hw.1 hw.2.2 ⟨C.1, C.2.1, hw.2.1, C.2.2.2⟩ ⟨hB, hS⟩
theorem gD.free {C : gC p c cc nL s m args Ts own κ B n ad} : ∀ q, s.heap.size ≤ q → gFree B q := fun _ h => Nat.le_trans C.2.2.2 h
theorem g_new (C : gC p c cc nL s m args Ts own κ B n ad) (G : gG κ B n ad s g H locs) {Cn : String} {T : u_T} {N ci index : Nat} {fs : List Value} {ty : Nat → FieldType} (hc : vwCl[ci]? = some (Cn, T, N)) (hin : ∀ w ∈ u_ws Cn T N, w ∈ Ts) (hty : ∀ k, k < N → parseFieldDescriptor (T k).2.2.1 = some (ty k)) (hcl : Cond.classLink own index Cn ∈ Ts) (hinst : Cond.instantiable Cn N ∈ Ts) (hini : Cond.initialized Cn ∈ Ts) (hfs : ∀ j, j < N → defaultValue (ty j) = vp_V fs j) (hcells : cells + 1 ≤ R.cells) (hslots : slots + N ≤ R.slots) (d : decode cc pc = .ok (.new index, 3))
    (kk : ∀ (a9 : Nat → Nat) (H1 : Heap), (∀ k, k < n → a9 k = ad k) → gC p c cc nL s m args Ts own κ B (n + 1) a9 → gG κ B (n + 1) a9 s (va_up g n (.inr (ci, fs))) H1 locs → W p l e R s m args below meth c H1 locs (cells + 1) (slots + N) Q (F0 m (pc + 3) ls (.ref (a9 n) :: rest))) : W p l e R s m args below meth c H locs cells slots Q (F0 m pc ls rest) := by
  obtain ⟨hx, hb, hml, hown, hts⟩ := C.1
  refine va_new hx hb hts hin ty hty hown (hts _ hcl) (hts _ hinst) (hts _ hini) C.2.1.1 G.1 (C.2.2.1.to g) G.2 (fun _ h => Nat.le_trans C.2.2.2 h) hc hfs hcells hslots d (fun q H1 hP hD hS => ?_)
  rw [gW_push] at hP hD
  have h1 := kk (va_up ad n q) H1 (fun k hk => gu_ne (by omega)) ⟨⟨hx, hb, hml, hown, hts⟩, C.2.1, gD.of hD, C.2.2.2⟩ ⟨hP, hS⟩
  rw [gu_self] at h1
  exact h1
theorem g_newI (C : gC p c cc nL s m args Ts own κ B n ad) (G : gG κ B n ad s g H locs) {z : Int} (N : Nat) (hz : z = (N : Int)) (hm : N ≤ 100000) (harr : Cond.arrayClass .int ∈ Ts) (hcells : cells + 1 ≤ R.cells) (hslots : slots + N ≤ R.slots) (d : decode cc pc = .ok (.newarray .int, 2))
    (kk : ∀ (a9 : Nat → Nat) (H1 : Heap), (∀ k, k < n → a9 k = ad k) → gC p c cc nL s m args Ts own κ B (n + 1) a9 → gG κ B (n + 1) a9 s (va_up g n (aI κ N (fun _ => 0))) H1 locs → W p l e R s m args below meth c H1 locs (cells + 1) (slots + N) Q (F0 m (pc + 2) ls (.ref (a9 n) :: rest))) : W p l e R s m args below meth c H locs cells slots Q (F0 m pc ls (.int (iz z) :: rest)) := by
  subst hz
  obtain ⟨hx, hb, hml, hown, hts⟩ := C.1
  refine va_newa (atype := .int) hx hb (hts _ harr) rfl C.2.1.1 G.1 (C.2.2.1.to g) G.2 (fun _ h => Nat.le_trans C.2.2.2 h) (N' := N) (a0 := (N, .inl (fun _ => iz 0))) (fun cA => rfl) (fun q => by rw [← iz_0, iz_lt ⟨by omega, by omega⟩ ⟨by omega, by omega⟩] at q; omega) (by rw [iz_clamp (by omega) (by omega)]; rfl) (Nat.le_trans (Nat.mul_le_mul_right _ hm) (by decide)) hcells hslots d (fun q cA H1 hK hP hD hS => ?_)
  have e1 := va_nm_int (hK.2 6 _ rfl).2
  have e2 := va_nm_int (hK.2 0 _ rfl).2
  have e3 : cA = κ.2 0 := Option.some.inj (e1.symm.trans e2)
  subst e3
  rw [gW_push] at hP hD
  have h1 := kk (va_up ad n q) H1 (fun k hk => gu_ne (by omega)) ⟨⟨hx, hb, hml, hown, hts⟩, C.2.1, gD.of hD, C.2.2.2⟩ ⟨hP, hS⟩
  rw [gu_self] at h1
  exact h1
theorem g_newC (C : gC p c cc nL s m args Ts own κ B n ad) (G : gG κ B n ad s g H locs) {z : Int} (N : Nat) (hz : z = (N : Int)) (hm : N ≤ 100000) (harr : Cond.arrayClass .char ∈ Ts) (hcells : cells + 1 ≤ R.cells) (hslots : slots + N ≤ R.slots) (d : decode cc pc = .ok (.newarray .char, 2))
    (kk : ∀ (a9 : Nat → Nat) (H1 : Heap), (∀ k, k < n → a9 k = ad k) → gC p c cc nL s m args Ts own κ B (n + 1) a9 → gG κ B (n + 1) a9 s (va_up g n (aCh κ N (fun _ => 0))) H1 locs → W p l e R s m args below meth c H1 locs (cells + 1) (slots + N) Q (F0 m (pc + 2) ls (.ref (a9 n) :: rest))) : W p l e R s m args below meth c H locs cells slots Q (F0 m pc ls (.int (iz z) :: rest)) := by
  subst hz
  obtain ⟨hx, hb, hml, hown, hts⟩ := C.1
  refine va_newa (atype := .char) hx hb (hts _ harr) rfl C.2.1.1 G.1 (C.2.2.1.to g) G.2 (fun _ h => Nat.le_trans C.2.2.2 h) (N' := N) (a0 := (N, .inl (fun _ => iz 0))) (fun cA => rfl) (fun q => by rw [← iz_0, iz_lt ⟨by omega, by omega⟩ ⟨by omega, by omega⟩] at q; omega) (by rw [iz_clamp (by omega) (by omega)]; rfl) (Nat.le_trans (Nat.mul_le_mul_right _ hm) (by decide)) hcells hslots d (fun q cA H1 hK hP hD hS => ?_)
  have e1 := va_nm_char (hK.2 6 _ rfl).2
  have e2 := va_nm_char (hK.2 2 _ rfl).2
  have e3 : cA = κ.2 2 := Option.some.inj (e1.symm.trans e2)
  subst e3
  rw [gW_push] at hP hD
  have h1 := kk (va_up ad n q) H1 (fun k hk => gu_ne (by omega)) ⟨⟨hx, hb, hml, hown, hts⟩, C.2.1, gD.of hD, C.2.2.2⟩ ⟨hP, hS⟩
  rw [gu_self] at h1
  exact h1
theorem g_newZ (C : gC p c cc nL s m args Ts own κ B n ad) (G : gG κ B n ad s g H locs) {z : Int} (N : Nat) (hz : z = (N : Int)) (hm : N ≤ 100000) (harr : Cond.arrayClass .boolean ∈ Ts) (hcells : cells + 1 ≤ R.cells) (hslots : slots + N ≤ R.slots) (d : decode cc pc = .ok (.newarray .boolean, 2))
    (kk : ∀ (a9 : Nat → Nat) (H1 : Heap), (∀ k, k < n → a9 k = ad k) → gC p c cc nL s m args Ts own κ B (n + 1) a9 → gG κ B (n + 1) a9 s (va_up g n (aZ κ N (fun _ => 0))) H1 locs → W p l e R s m args below meth c H1 locs (cells + 1) (slots + N) Q (F0 m (pc + 2) ls (.ref (a9 n) :: rest))) : W p l e R s m args below meth c H locs cells slots Q (F0 m pc ls (.int (iz z) :: rest)) := by
  subst hz
  obtain ⟨hx, hb, hml, hown, hts⟩ := C.1
  refine va_newa (atype := .boolean) hx hb (hts _ harr) rfl C.2.1.1 G.1 (C.2.2.1.to g) G.2 (fun _ h => Nat.le_trans C.2.2.2 h) (N' := N) (a0 := (N, .inl (fun _ => iz 0))) (fun cA => rfl) (fun q => by rw [← iz_0, iz_lt ⟨by omega, by omega⟩ ⟨by omega, by omega⟩] at q; omega) (by rw [iz_clamp (by omega) (by omega)]; rfl) (Nat.le_trans (Nat.mul_le_mul_right _ hm) (by decide)) hcells hslots d (fun q cA H1 hK hP hD hS => ?_)
  have e1 := va_nm_boolean (hK.2 6 _ rfl).2
  have e2 := va_nm_boolean (hK.2 3 _ rfl).2
  have e3 : cA = κ.2 3 := Option.some.inj (e1.symm.trans e2)
  subst e3
  rw [gW_push] at hP hD
  have h1 := kk (va_up ad n q) H1 (fun k hk => gu_ne (by omega)) ⟨⟨hx, hb, hml, hown, hts⟩, C.2.1, gD.of hD, C.2.2.2⟩ ⟨hP, hS⟩
  rw [gu_self] at h1
  exact h1
theorem g_newJ (C : gC p c cc nL s m args Ts own κ B n ad) (G : gG κ B n ad s g H locs) {z : Int} (N : Nat) (hz : z = (N : Int)) (hm : N ≤ 60000) (harr : Cond.arrayClass .long ∈ Ts) (hcells : cells + 1 ≤ R.cells) (hslots : slots + N ≤ R.slots) (d : decode cc pc = .ok (.newarray .long, 2))
    (kk : ∀ (a9 : Nat → Nat) (H1 : Heap), (∀ k, k < n → a9 k = ad k) → gC p c cc nL s m args Ts own κ B (n + 1) a9 → gG κ B (n + 1) a9 s (va_up g n (aW κ N (fun _ => 0))) H1 locs → W p l e R s m args below meth c H1 locs (cells + 1) (slots + N) Q (F0 m (pc + 2) ls (.ref (a9 n) :: rest))) : W p l e R s m args below meth c H locs cells slots Q (F0 m pc ls (.int (iz z) :: rest)) := by
  subst hz
  obtain ⟨hx, hb, hml, hown, hts⟩ := C.1
  refine va_newa (atype := .long) hx hb (hts _ harr) rfl C.2.1.1 G.1 (C.2.2.1.to g) G.2 (fun _ h => Nat.le_trans C.2.2.2 h) (N' := N) (a0 := (N, .inr (.inl (fun _ => lN 0)))) (fun cA => rfl) (fun q => by rw [← iz_0, iz_lt ⟨by omega, by omega⟩ ⟨by omega, by omega⟩] at q; omega) (by rw [iz_clamp (by omega) (by omega)]; rfl) (Nat.le_trans (Nat.mul_le_mul_right _ hm) (by decide)) hcells hslots d (fun q cA H1 hK hP hD hS => ?_)
  have e1 := va_nm_long (hK.2 6 _ rfl).2
  have e2 := va_nm_long (hK.2 1 _ rfl).2
  have e3 : cA = κ.2 1 := Option.some.inj (e1.symm.trans e2)
  subst e3
  rw [gW_push] at hP hD
  have h1 := kk (va_up ad n q) H1 (fun k hk => gu_ne (by omega)) ⟨⟨hx, hb, hml, hown, hts⟩, C.2.1, gD.of hD, C.2.2.2⟩ ⟨hP, hS⟩
  rw [gu_self] at h1
  exact h1
theorem g_anewL (C : gC p c cc nL s m args Ts own κ B n ad) (G : gG κ B n ad s g H locs) (hAO : gAO s) {z : Int} {index : Nat} (N : Nat) (hz : z = (N : Int)) (hm : N ≤ 100000) (hcl : Cond.classLink own index RX3 ∈ Ts) (hcells : cells + 1 ≤ R.cells) (hslots : slots + N ≤ R.slots) (d : decode cc pc = .ok (.anewarray index, 3))
    (kk : ∀ (a9 : Nat → Nat) (H1 : Heap), (∀ k, k < n → a9 k = ad k) → gC p c cc nL s m args Ts own κ B (n + 1) a9 → gG κ B (n + 1) a9 s (va_up g n (aL κ N (fun _ => none))) H1 locs → W p l e R s m args below meth c H1 locs (cells + 1) (slots + N) Q (F0 m (pc + 3) ls (.ref (a9 n) :: rest))) : W p l e R s m args below meth c H locs cells slots Q (F0 m pc ls (.int (iz z) :: rest)) := by
  subst hz
  obtain ⟨hx, hb, hml, hown, hts⟩ := C.1
  refine va_newq hx hb hown (hts _ hcl) hAO.1 C.2.1.1 G.1 (C.2.2.1.to g) G.2 (fun _ h => Nat.le_trans C.2.2.2 h) (N' := N) (fun q => by rw [← iz_0, iz_lt ⟨by omega, by omega⟩ ⟨by omega, by omega⟩] at q; omega) (by rw [iz_clamp (by omega) (by omega)]; rfl) (by omega) hcells hslots d (fun q cA H1 hK hP hD hS => ?_)
  have e1 := va_nmO (hK.2 6 _ rfl).2 rfl
  have e2 := va_nmO (hK.2 4 _ rfl).2 rfl
  have e3 : cA = κ.2 4 := Option.some.inj (e1.symm.trans e2)
  subst e3
  rw [gW_push] at hP hD
  have h1 := kk (va_up ad n q) H1 (fun k hk => gu_ne (by omega)) ⟨⟨hx, hb, hml, hown, hts⟩, C.2.1, gD.of hD, C.2.2.2⟩ ⟨hP, hS⟩
  rw [gu_self] at h1
  exact h1
theorem g_anewPl (C : gC p c cc nL s m args Ts own κ B n ad) (G : gG κ B n ad s g H locs) (hAO : gAO s) {z : Int} {index : Nat} (N : Nat) (hz : z = (N : Int)) (hm : N ≤ 100000) (hcl : Cond.classLink own index RX4 ∈ Ts) (hcells : cells + 1 ≤ R.cells) (hslots : slots + N ≤ R.slots) (d : decode cc pc = .ok (.anewarray index, 3))
    (kk : ∀ (a9 : Nat → Nat) (H1 : Heap), (∀ k, k < n → a9 k = ad k) → gC p c cc nL s m args Ts own κ B (n + 1) a9 → gG κ B (n + 1) a9 s (va_up g n (aPl κ N (fun _ => none))) H1 locs → W p l e R s m args below meth c H1 locs (cells + 1) (slots + N) Q (F0 m (pc + 3) ls (.ref (a9 n) :: rest))) : W p l e R s m args below meth c H locs cells slots Q (F0 m pc ls (.int (iz z) :: rest)) := by
  subst hz
  obtain ⟨hx, hb, hml, hown, hts⟩ := C.1
  refine va_newq hx hb hown (hts _ hcl) hAO.2 C.2.1.1 G.1 (C.2.2.1.to g) G.2 (fun _ h => Nat.le_trans C.2.2.2 h) (N' := N) (fun q => by rw [← iz_0, iz_lt ⟨by omega, by omega⟩ ⟨by omega, by omega⟩] at q; omega) (by rw [iz_clamp (by omega) (by omega)]; rfl) (by omega) hcells hslots d (fun q cA H1 hK hP hD hS => ?_)
  have e1 := va_nmO (hK.2 6 _ rfl).2 rfl
  have e2 := va_nmO (hK.2 5 _ rfl).2 rfl
  have e3 : cA = κ.2 5 := Option.some.inj (e1.symm.trans e2)
  subst e3
  rw [gW_push] at hP hD
  have h1 := kk (va_up ad n q) H1 (fun k hk => gu_ne (by omega)) ⟨⟨hx, hb, hml, hown, hts⟩, C.2.1, gD.of hD, C.2.2.2⟩ ⟨hP, hS⟩
  rw [gu_self] at h1
  exact h1
theorem g_aastL (C : gC p c cc nL s m args Ts own κ B n ad) (G : gG κ B n ad s g H locs) {pos q len : Nat} {z : Int} {f : Nat → Option Nat} {fs : List Value} (hp : pos < n) (he : g pos = aL κ len f) (hq : q < n) (hqe : g q = .inr (3, fs)) (hz0 : 0 ≤ z) (hz1 : z < (len : Int)) (hz2 : z ≤ 2147483647) (d : decode cc pc = .ok (.aastore, 1))
    (kk : ∀ (H : Heap) (locs : List Loc), gG κ B n ad s (va_up g pos (aL κ len (va_up f z.toNat (some (ad q))))) H locs → W p l e R s m args below meth c H locs cells slots Q (F0 m (pc + 1) ls rest)) : W p l e R s m args below meth c H locs cells slots Q (F0 m pc ls (.ref (ad q) :: .int (iz z) :: .ref (ad pos) :: rest)) := by
  obtain ⟨hx, hb, hml, hown, hts⟩ := C.1
  refine va_astq hx hb C.2.1.1 G.1 (C.2.2.1.to g) G.2 pos 4 q 3 (by rw [gW_at hp, he]) rfl (by rw [gW_at hq, hqe]) rfl (iz_in hz0 hz1 hz2) d (fun H1 locs1 hP hD hS => kk H1 locs1 ?_)
  rw [iz_clamp hz0 hz2, gW_set] at hP
  exact ⟨hP, hS⟩
theorem g_aastPl (C : gC p c cc nL s m args Ts own κ B n ad) (G : gG κ B n ad s g H locs) {pos q len : Nat} {z : Int} {f : Nat → Option Nat} {fs : List Value} (hp : pos < n) (he : g pos = aPl κ len f) (hq : q < n) (hqe : g q = .inr (4, fs)) (hz0 : 0 ≤ z) (hz1 : z < (len : Int)) (hz2 : z ≤ 2147483647) (d : decode cc pc = .ok (.aastore, 1))
    (kk : ∀ (H : Heap) (locs : List Loc), gG κ B n ad s (va_up g pos (aPl κ len (va_up f z.toNat (some (ad q))))) H locs → W p l e R s m args below meth c H locs cells slots Q (F0 m (pc + 1) ls rest)) : W p l e R s m args below meth c H locs cells slots Q (F0 m pc ls (.ref (ad q) :: .int (iz z) :: .ref (ad pos) :: rest)) := by
  obtain ⟨hx, hb, hml, hown, hts⟩ := C.1
  refine va_astq hx hb C.2.1.1 G.1 (C.2.2.1.to g) G.2 pos 5 q 4 (by rw [gW_at hp, he]) rfl (by rw [gW_at hq, hqe]) rfl (iz_in hz0 hz1 hz2) d (fun H1 locs1 hP hD hS => kk H1 locs1 ?_)
  rw [iz_clamp hz0 hz2, gW_set] at hP
  exact ⟨hP, hS⟩
/-- the same row of references, told otherwise -/
theorem gG.extL (G : gG κ B n ad s g H locs) {pos len : Nat} {f f' : Nat → Option Nat} (he : g pos = aL κ len f) (h : ∀ j, j < len → f j = f' j) : gG κ B n ad s (va_up g pos (aL κ len f')) H locs := by
  refine ⟨fun k q hq => ?_, G.2⟩
  obtain ⟨hk, rfl⟩ := gW_of hq
  by_cases hp : k = pos
  · subst hp
    have h1 := G.1 k _ (gW_at hk)
    rw [he] at h1
    rw [gu_self]
    show H[ad k]? = some (arrV (κ.2 4) len (fun j => va_rf (f' j)))
    rw [show arrV (κ.2 4) len (fun j => va_rf (f' j)) = arrV (κ.2 4) len (fun j => va_rf (f j)) from arrV_congr (fun j hj => by rw [h j hj])]
    exact h1
  · rw [gu_ne hp]
    exact G.1 k _ (gW_at hk)
theorem gG.extPl (G : gG κ B n ad s g H locs) {pos len : Nat} {f f' : Nat → Option Nat} (he : g pos = aPl κ len f) (h : ∀ j, j < len → f j = f' j) : gG κ B n ad s (va_up g pos (aPl κ len f')) H locs := by
  refine ⟨fun k q hq => ?_, G.2⟩
  obtain ⟨hk, rfl⟩ := gW_of hq
  by_cases hp : k = pos
  · subst hp
    have h1 := G.1 k _ (gW_at hk)
    rw [he] at h1
    rw [gu_self]
    show H[ad k]? = some (arrV (κ.2 5) len (fun j => va_rf (f' j)))
    rw [show arrV (κ.2 5) len (fun j => va_rf (f' j)) = arrV (κ.2 5) len (fun j => va_rf (f j)) from arrV_congr (fun j hj => by rw [h j hj])]
    exact h1
  · rw [gu_ne hp]
    exact G.1 k _ (gW_at hk)
/-- fewer positions, other names for the same addresses -/
theorem gP.cut {n' : Nat} {a9 : Nat → Nat} (h : gP κ n' a9 g H) (hn : n ≤ n') (hE : ∀ k, k < n → a9 k = ad k) : gP κ n ad g H := by
  intro k q hq
  obtain ⟨hk, rfl⟩ := gW_of hq
  have h1 := h k _ (gW_at (by omega : k < n'))
  rw [hE k hk] at h1
  exact h1
end GA
theorem isPl.grow {κ : gKap} {ad a9 : Nat → Nat} {g g' : Nat → va_E} {po : Nat} {nl : Int} {v : Int → Int} (h : isPl κ ad g po nl v) (hE : ∀ k, k < po + 10 → a9 k = ad k) (hq : ∀ q, po ≤ q → q < po + 10 → g' q = g q) : isPl κ a9 g' po nl v := by
  obtain ⟨h1, h2, h3, h4, h5⟩ := h.far hq
  refine ⟨by rw [h1]; unfold oP; rw [hE _ (by omega), hE _ (by omega), hE _ (by omega)], ?_, h3, h4, h5⟩
  rw [h2]
  have e1 : (fun j => if j < 6 then some (ad (po + 2 + j)) else none) = fun j => if j < 6 then some (a9 (po + 2 + j)) else none := by
    funext j
    by_cases hj : j < 6
    · rw [if_pos hj, if_pos hj, hE _ (by omega)]
    · rw [if_neg hj, if_neg hj]
  rw [e1]
