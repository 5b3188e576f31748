/-! EXCEPTIONS: what a throwing method stands on, its contract, its throws -/
def gXs : List String := ["java/lang/IllegalArgumentException", "java/lang/IllegalStateException", "java/lang/IndexOutOfBoundsException"]
def gStr : List (Nat × String) := [(110, "what is not 0 to 6"), (118, "no such layer"), (151, "what is not 0 to 9"), (153, "t is negative"), (170, "angle or radius is out of range"), (176, "radius is not 0 to 300"), (188, "place is negative"), (193, "no such sighting"), (205, "what is not 0 to 2"), (221, "teeth is not 12 to 96"), (239, "an argument is out of range"), (245, "there are 6 layers"), (255, "what or v is out of range"), (270, "no state is remembered"), (275, "l and m are the same"), (293, "n is not 1 to 3"), (299, "script is negative or too long"), (314, "m is not 1 to 200"), (339, "no such save slot"), (341, "nothing is saved in this slot")]
def gNm : List String := ["java/lang/RuntimeException", "java/lang/Exception"]
def gDs : List Cond := [.declares (Bundle.initS "java/lang/RuntimeException"), .declares (Bundle.initS "java/lang/Exception"), .declares (Bundle.initS Bundle.tN)]
def gX (B : Nat) (U : State) : Prop := ((∀ X ∈ gXs, va_Nw (.castable X X) U) ∧ ∀ w ∈ gDs, va_Nw w U) ∧ (∀ q ∈ gStr, ∃ sa, vk_R RX7 q.1 q.2 sa U) ∧ vx_Zq Bundle.tN "UNASSIGNED_STACK" Bundle.steD (gFree B) U U.heap ∧ vx_Zq Bundle.tN "SUPPRESSED_SENTINEL" Bundle.listD (gFree B) U U.heap
theorem gX.warm {B : Nat} {s U : State} (hW : s.WarmedH U.vm) (hk : ∀ a : Nat, a < s.heap.size → ¬ gFree B a → U.heap[a]? = s.heap[a]?) (h : gX B s) : gX B U :=
  ⟨⟨fun X hX => va_Nw.warmC hW (h.1.1 X hX), List.forall_mem_cons.mpr ⟨va_Nw.warmD hW (h.1.2 _ (List.mem_of_getElem? (i := 0) rfl)), List.forall_mem_cons.mpr ⟨va_Nw.warmD hW (h.1.2 _ (List.mem_of_getElem? (i := 1) rfl)), List.forall_mem_cons.mpr ⟨va_Nw.warmD hW (h.1.2 _ (List.mem_of_getElem? (i := 2) rfl)), fun _ z => nomatch z⟩⟩⟩⟩, fun q hq => (h.2.1 q hq).imp fun _ z => vk_R.warm hW z, (vx_Zq.moved hW.alike h.2.2.1).kept hk, (vx_Zq.moved hW.alike h.2.2.2).kept hk⟩
theorem gX.calling {B : Nat} {U : State} {g : JFrame} {mk : MethodId} {a : Array Value} (h : gX B U) : gX B (U.calling g mk a) :=
  ⟨⟨fun X hX => va_Nw.same rfl rfl (h.1.1 X hX), List.forall_mem_cons.mpr ⟨va_Nw.same rfl rfl (h.1.2 _ (List.mem_of_getElem? (i := 0) rfl)), List.forall_mem_cons.mpr ⟨va_Nw.same rfl rfl (h.1.2 _ (List.mem_of_getElem? (i := 1) rfl)), List.forall_mem_cons.mpr ⟨va_Nw.same rfl rfl (h.1.2 _ (List.mem_of_getElem? (i := 2) rfl)), fun _ z => nomatch z⟩⟩⟩⟩, fun q hq => (h.2.1 q hq).imp fun _ z => vk_R.same rfl z, vx_Zq.moved (u := U) (U := U.calling g mk a) (Vm.Alike.refl U.vm) h.2.2.1, vx_Zq.moved (u := U) (U := U.calling g mk a) (Vm.Alike.refl U.vm) h.2.2.2⟩
def gPreX (κ : gKap) (B n : Nat) (ad : Nat → Nat) (g : Nat → va_E) (As : List Value) : Array Value → State → Prop := va_Pc As (fun U => gS κ B n ad g U ∧ gX B U)
theorem gPreX.blind {κ : gKap} {B n : Nat} {ad : Nat → Nat} {g : Nat → va_E} {As : List Value} : FrameBlind (gPreX κ B n ad g As) := fun _ U _ _ h => ⟨h.1, ⟨h.2.1.1, h.2.1.2.1, gK.same (s := U) rfl h.2.1.2.2.1, h.2.1.2.2.2⟩, h.2.2.calling⟩
def gXX (κ : gKap) (B n : Nat) (ad : Nat → Nat) (px : String → (Nat → va_E) → Prop) : String → State → State → Prop := vx_X (S := Nat → va_E) (fun _ => True) (fun E g t => px E g ∧ gP κ n ad g t.heap) (gFree B)
theorem at_iae : (vx_atS RX7 49 "java/lang/IllegalArgumentException" gNm).filter (fun w => !goodWord w) = gDs ++ [.castable "java/lang/IllegalArgumentException" "java/lang/IllegalArgumentException"] := by decide +kernel
theorem at_ise : (vx_atS RX7 60 "java/lang/IllegalStateException" gNm).filter (fun w => !goodWord w) = gDs ++ [.castable "java/lang/IllegalStateException" "java/lang/IllegalStateException"] := by decide +kernel
theorem at_ioe : (vx_atS RX7 120 "java/lang/IndexOutOfBoundsException" gNm).filter (fun w => !goodWord w) = gDs ++ [.castable "java/lang/IndexOutOfBoundsException" "java/lang/IndexOutOfBoundsException"] := by decide +kernel
theorem gDs_all {B : Nat} {s : State} {args : Array Value} {L : List Cond} (X : gX B s) (h : ∀ w ∈ L, w.before args s = true) : ∀ w ∈ gDs ++ L, w.before args s = true :=
  vx_c (va_Nw.use rfl (X.1.2 _ (List.mem_of_getElem? (i := 0) rfl))) (vx_c (va_Nw.use rfl (X.1.2 _ (List.mem_of_getElem? (i := 1) rfl))) (vx_c (va_Nw.use rfl (X.1.2 _ (List.mem_of_getElem? (i := 2) rfl))) h))
section GX
variable {p : Program} {l : Launch} {e : Env} {R : Room} {s : State} {m : MethodId} {args : Array Value} {below : List Frame} {meth : Method} {c : Code} {H : Heap} {locs : List Loc} {cells slots : Nat} {Q : State → Prop}
variable {cc : ByteArray} {nL pc : Nat} {ls : Array Slot} {rest : List Value} {Ts : List Cond} {own : String} {κ : gKap} {B n : Nat} {ad : Nat → Nat} {g : Nat → va_E}
theorem g_metX {y : MethodName} (own : String) {ws ws' : List Cond} {rm : Room} {As : List Value} {Qc : Array Value → State → Outcome → State → Prop} {XC : String → State → State → Prop} {mc ms maxL : Nat} {ret : Option FieldType}
    (hy : plainName y.cls = true) (hw : ws = Cond.code y cc maxL ret :: ws') (ho : y.cls = own) (hsl : (lg_sl As).length ≤ maxL)
    (body : ∀ (p : Program) (e : Env) (s : State) (m : MethodId) (args : Array Value) (below : List Frame) (meth : Method) (c : Code), gC p c cc maxL s m args ws own κ B n ad → meth.sig.returnType = ret → meth.locks = false → (∀ x ∈ c.exceptionTable.toList, False) → gX B s → gG κ B n ad s g s.heap [] → ∀ ls : Array Slot, lv_has ls maxL (lv_args 0 As) → W p l e rm s m args below meth c s.heap [] 0 0 (vx_MQ below Qc XC args s mc ms (gFree B)) (F0 m 0 ls [])) :
    vx_Met l y ws rm (gPreX κ B n ad g As) Qc XC mc ms (gFree B) := by
  subst ho
  refine vx_ofW (cc := cc) (maxL := maxL) (ret := ret) hy hw ?_
  intro p e s m args below meth c s₁ Bd hml hnt hv
  obtain ⟨rfl, ⟨hB, hP, hK, hD⟩, hX⟩ := hv
  have hts := atoms_spec (ws := ws) Bd.pre
  have hown : s.vm.findClass y.cls = some m.cls := findClass_of_methodNamed Bd.named
  have hl := lv_entry As (n := maxL) hsl
  rw [lg_entry_eq]
  exact body p e s m _ below meth c ⟨⟨Bd.exec, Bd.bytes, hml, hown, hts⟩, hK, hD, hB⟩ Bd.returns Bd.notSynchronized hnt hX ⟨hP, va_S.rf⟩ _ hl
/-- 'throw new X("text")' -/
theorem g_throw (C : gC p c cc nL s m args Ts RX7 κ B n ad) (G : gG κ B n ad s g H locs) (X : gX B s) (hlf : l.stackTraces = false) (hlk : meth.locks = false) (hnt : ∀ x ∈ c.exceptionTable.toList, False) {lv : List (Nat × Value)} (hl : lv_has ls nL lv) {cls text : String} {ik is ic mc ms : Nat} {Qc : Array Value → State → Outcome → State → Prop} {px : String → (Nat → va_E) → Prop}
    (hcls : Bundle.fit cls = true) (hk : Cond.classLink RX7 ik cls ∈ Ts) (hini : Cond.initialized cls ∈ Ts) (hstr : (is, text) ∈ gStr) (hat : ∀ w ∈ (vx_atS RX7 ic cls gNm).filter goodWord, w ∈ Ts) (hcl : cls ∈ gXs) (hng : (vx_atS RX7 ic cls gNm).filter (fun w => !goodWord w) = gDs ++ [.castable cls cls])
    (hgood : (Cond.classLink RX7 ik cls :: Cond.initialized cls :: vx_atS RX7 ic cls gNm).all vx_ot = true)
    (d0 : decode cc pc = .ok (.new ik, 3)) (d3 : decode cc (pc + 3) = .ok (.dup, 1)) (d4 : decode cc (pc + 4) = .ok (.ldc is, 2)) (d6 : decode cc (pc + 6) = .ok (.invokespecial ic, 3)) (d9 : decode cc (pc + 9) = .ok (.athrow, 1))
    (hRframes : 5 < R.frames) (hRlocals : (rest.map fun v => v.category).sum + 82 ≤ R.locals) (hRcells : cells + 1 ≤ R.cells) (hRslots : slots + 6 ≤ R.slots) (hc : cells + 1 ≤ mc) (hs : slots + 6 ≤ ms) (hx : px cls g) :
    W p l e R s m args below meth c H locs cells slots (vx_MQ below Qc (gXX κ B n ad px) args s mc ms (gFree B)) (F0 m pc ls rest) := by
  obtain ⟨sa, hsa⟩ := X.2.1 _ hstr
  refine vx_throwS (names := gNm) C.1.1 C.1.2.1 hlf C.1.2.2.2.1 hcls (by decide +kernel) (C.1.2.2.2.2 _ hk) (C.1.2.2.2.2 _ hini) hsa (vx_hat (B := gDs ++ [.castable cls cls]) (fun w hw => C.1.2.2.2.2 _ (hat w hw)) (fun w hw => by rw [hng] at hw; exact hw) (gDs_all X (vx_c (va_Nw.use rfl (X.1.1 cls hcl)) vx_n))) (fun w hw => List.all_eq_true.mp hgood w hw) X.2.2.1 X.2.2.2 G.2 (hl.1.trans C.1.2.2.1.symm) d0 d3 d4 d6 d9 (fun x hx => absurd (hnt x hx) id) hRframes hRlocals hRcells hRslots hlk (fun t hv hz hk9 => ?_) G.2.2.2 hc hs
  refine ⟨g, trivial, ⟨hx, G.1.kept fun k q hq => hk9 _ ?_⟩, ?_⟩
  · exact (G.1 k q hq).lt
  · exact ⟨Nat.le_trans G.2.1 hz, fun q h1 h2 => (hk9 q (Nat.lt_of_lt_of_le h1 G.2.1)).trans (G.2.2.1 q h1 h2)⟩
theorem g_throwW (C : gC p c cc nL s m args Ts RX7 κ B n ad) (G : gG κ B n ad s g H locs) (X : gX B s) (hlf : l.stackTraces = false) (hlk : meth.locks = false) (hnt : ∀ x ∈ c.exceptionTable.toList, False) {lv : List (Nat × Value)} (hl : lv_has ls nL lv) {cls text : String} {ik is ic mc ms : Nat} {Qc : Array Value → State → Outcome → State → Prop} {px : String → (Nat → va_E) → Prop}
    (hcls : Bundle.fit cls = true) (hk : Cond.classLink RX7 ik cls ∈ Ts) (hini : Cond.initialized cls ∈ Ts) (hstr : (is, text) ∈ gStr) (hat : ∀ w ∈ (vx_atS RX7 ic cls gNm).filter goodWord, w ∈ Ts) (hcl : cls ∈ gXs) (hng : (vx_atS RX7 ic cls gNm).filter (fun w => !goodWord w) = gDs ++ [.castable cls cls])
    (hgood : (Cond.classLink RX7 ik cls :: Cond.initialized cls :: vx_atS RX7 ic cls gNm).all vx_ot = true)
    (d0 : decode cc pc = .ok (.new ik, 3)) (d3 : decode cc (pc + 3) = .ok (.dup, 1)) (d4 : decode cc (pc + 4) = .ok (.ldc_w is, 3)) (d6 : decode cc (pc + 7) = .ok (.invokespecial ic, 3)) (d9 : decode cc (pc + 10) = .ok (.athrow, 1))
    (hRframes : 5 < R.frames) (hRlocals : (rest.map fun v => v.category).sum + 82 ≤ R.locals) (hRcells : cells + 1 ≤ R.cells) (hRslots : slots + 6 ≤ R.slots) (hc : cells + 1 ≤ mc) (hs : slots + 6 ≤ ms) (hx : px cls g) :
    W p l e R s m args below meth c H locs cells slots (vx_MQ below Qc (gXX κ B n ad px) args s mc ms (gFree B)) (F0 m pc ls rest) := by
  obtain ⟨sa, hsa⟩ := X.2.1 _ hstr
  refine vx_throwSW (names := gNm) C.1.1 C.1.2.1 hlf C.1.2.2.2.1 hcls (by decide +kernel) (C.1.2.2.2.2 _ hk) (C.1.2.2.2.2 _ hini) hsa (vx_hat (B := gDs ++ [.castable cls cls]) (fun w hw => C.1.2.2.2.2 _ (hat w hw)) (fun w hw => by rw [hng] at hw; exact hw) (gDs_all X (vx_c (va_Nw.use rfl (X.1.1 cls hcl)) vx_n))) (fun w hw => List.all_eq_true.mp hgood w hw) X.2.2.1 X.2.2.2 G.2 (hl.1.trans C.1.2.2.1.symm) d0 d3 d4 d6 d9 (fun x hx => absurd (hnt x hx) id) hRframes hRlocals hRcells hRslots hlk (fun t hv hz hk9 => ?_) G.2.2.2 hc hs
  refine ⟨g, trivial, ⟨hx, G.1.kept fun k q hq => hk9 _ ?_⟩, ?_⟩
  · exact (G.1 k q hq).lt
  · exact ⟨Nat.le_trans G.2.1 hz, fun q h1 h2 => (hk9 q (Nat.lt_of_lt_of_le h1 G.2.1)).trans (G.2.2.1 q h1 h2)⟩
end GX
