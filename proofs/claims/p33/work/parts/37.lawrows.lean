/-! THE LAW'S METHODS: rows, the small ones -/
theorem iz_32 (x : Int) : iz x = iz ((x % 4294967296).toNat : Int) := by
  have h0 : 0 ≤ x % 4294967296 := Int.emod_nonneg _ (by decide)
  rw [Int.toNat_of_nonneg h0]
  apply Int32.toBitVec_inj.mp
  show BitVec.ofInt 32 x = BitVec.ofInt 32 (x % 4294967296)
  apply BitVec.eq_of_toInt_eq
  simp only [BitVec.toInt_ofInt]
  show Int.bmod x 4294967296 = Int.bmod (x % 4294967296) 4294967296
  unfold Int.bmod
  rw [show x % 4294967296 % ((4294967296 : Nat) : Int) = x % ((4294967296 : Nat) : Int) from by omega]
theorem iz_mask (v : Int) : iz v &&& iz 2147483647 = iz (v % 2147483648) := by
  rw [iz_32 v, show iz 2147483647 = iz ((2147483647 : Nat) : Int) from rfl, iz_and, show (2147483647 : Nat) = 2 ^ 31 - 1 from rfl, Nat.and_two_pow_sub_one_eq_mod]
  congr 1
  omega
def lowF (v n : Int) : Int := (v % 2147483648) % n
theorem lowF_rg {v n : Int} (h : 1 ≤ n) : 0 ≤ lowF v n ∧ lowF v n < n := ⟨Int.emod_nonneg _ (by omega), Int.emod_lt_of_pos _ (by omega)⟩
def shF (a k : Int) : Int := (iz a >>> (iz k &&& 31)).toInt
theorem shF_in (a k : Int) : inI (shF a k) := inI_of _
def rI (r : Int) : Int := (iz r).toInt
theorem iz_rI (r : Int) : iz r = iz (rI r) := iz_of (iz r)
theorem rI_in (r : Int) : inI (rI r) := inI_of (iz r)
section GP9
variable {p : Program} {l : Launch} {e : Env} {R : Room} {s : State} {m : MethodId} {args : Array Value} {below : List Frame} {meth : Method} {c : Code} {H : Heap} {locs : List Loc} {cells slots : Nat} {Q : State → Prop}
variable {cc : ByteArray} {nL pc : Nat} {ls : Array Slot} {rest : List Value} {Ts : List Cond} {own : String} {κ : gKap} {B n : Nat} {ad : Nat → Nat} {g : Nat → va_E}
theorem g_mask (C : gC p c cc nL s m args Ts own κ B n ad) {v : Int} (d : decode cc pc = .ok (.iand, 1)) (kk : W p l e R s m args below meth c H locs cells slots Q (F0 m (pc + 1) ls (.int (iz (v % 2147483648)) :: rest))) : W p l e R s m args below meth c H locs cells slots Q (F0 m pc ls (.int (iz 2147483647) :: .int (iz v) :: rest)) := by
  refine lv_iand C.1.1 C.1.2.1 d ?_
  rw [iz_mask]
  exact kk
theorem g_ishr (C : gC p c cc nL s m args Ts own κ B n ad) {a k : Int} (d : decode cc pc = .ok (.ishr, 1)) (kk : W p l e R s m args below meth c H locs cells slots Q (F0 m (pc + 1) ls (.int (iz (shF a k)) :: rest))) : W p l e R s m args below meth c H locs cells slots Q (F0 m pc ls (.int (iz k) :: .int (iz a) :: rest)) := by
  refine lv_ishr C.1.1 C.1.2.1 d ?_
  rw [iz_of (iz a >>> (iz k &&& 31))]
  exact kk
theorem g_metP {y : MethodName} (own : String) {ws ws' : List Cond} {rm : Room} {As : List Value} {Qc : Array Value → State → Outcome → State → Prop} {mc ms maxL : Nat} {ret : Option FieldType}
    (hy : plainName y.cls = true) (hw : ws = Cond.code y cc maxL ret :: ws') (ho : y.cls = own) (hsl : (lg_sl As).length ≤ maxL)
    (body : ∀ (p : Program) (e : Env) (s : State) (m : MethodId) (args : Array Value) (below : List Frame) (meth : Method) (c : Code), gC p c cc maxL s m args ws own κ B n ad → meth.sig.returnType = ret → meth.locks = false → gX B s → gG κ B n ad s g s.heap [] → ∀ ls : Array Slot, lv_has ls maxL (lv_args 0 As) → W p l e rm s m args below meth c s.heap [] 0 0 (MQ below Qc args s mc ms (gFree B)) (F0 m 0 ls [])) :
    Met l y ws rm (gPreX κ B n ad g As) Qc mc ms (gFree B) := by
  subst ho
  refine Met.ofW (cc := cc) (maxL := maxL) (ret := ret) hy hw ?_
  intro p e s m args below meth c s₁ Bd hml hv
  obtain ⟨rfl, ⟨hB, hP, hK, hD⟩, hX⟩ := hv
  have hts := atoms_spec (ws := ws) Bd.pre
  have hown : s.vm.findClass y.cls = some m.cls := findClass_of_methodNamed Bd.named
  have hl := lv_entry As (n := maxL) hsl
  rw [lg_entry_eq]
  exact body p e s m _ below meth c ⟨⟨Bd.exec, Bd.bytes, hml, hown, hts⟩, hK, hD, hB⟩ Bd.returns Bd.notSynchronized hX ⟨hP, va_S.rf⟩ _ hl
theorem g_runVP (C : gC p c cc nL s m args Ts own κ B n ad) (G : gG κ B n ad s g H locs) (X : gX B s) {y : MethodName} {bytes : ByteArray} {maxL mc ms k index : Nat} {ret : Option FieldType} {ws : List Cond} {rm : Room} {Qc : Array Value → State → Outcome → State → Prop} {As st0 : List Value} {lv : List (Nat × Value)} {pos ci N : Nat} {fs : List Value} {Cn : String} {T : u_T} (M : Met l y ws rm (gPreX κ B n ad g (.ref (ad pos) :: As)) Qc mc ms (gFree B)) (cw : CallW R s args own Cn index y bytes maxL ret ws rm mc ms k) (hp : pos < n) (he : g pos = .inr (ci, fs)) (hci : vwCl[ci]? = some (Cn, T, N)) (hn : As.length = k) (hl : lv_has ls nL lv) (hst : st0 = As.reverse ++ .ref (ad pos) :: rest) (hW : (rest.map fun v => v.category).sum ≤ 8) (d : decode cc pc = .ok (.invokevirtual index, 3)) (hf : cells + mc ≤ R.cells ∧ slots + ms ≤ R.slots) :
    va_Run p l e R s m args below meth c H locs cells slots mc ms (F0 m pc ls st0) rest (Qc (Value.ref (ad pos) :: As : List Value).toArray) (gFree B) :=
  va_runV C.1 M cw ⟨gPreX.blind, va_recv C.2.1.1 G.1 hci (q0 := pos) (by rw [gW_at hp, he]), fun U hU hW => ⟨rfl, ⟨by rw [hU]; exact Nat.le_trans C.2.2.2 G.2.1, by rw [hU]; exact G.1, C.2.1.warm hW, C.2.2.1⟩, X.warm hW (fun a ha hna => by rw [hU]; exact G.2.2.1 a ha hna)⟩⟩ rfl hn hl.1 hst (lv_room hW) d hf
theorem g_runSP (C : gC p c cc nL s m args Ts own κ B n ad) (G : gG κ B n ad s g H locs) (X : gX B s) {y : MethodName} {bytes : ByteArray} {maxL mc ms k index : Nat} {ret : Option FieldType} {ws : List Cond} {rm : Room} {Qc : Array Value → State → Outcome → State → Prop} {As st0 : List Value} {lv : List (Nat × Value)} (M : Met l y ws rm (gPreX κ B n ad g As) Qc mc ms (gFree B)) (cw : CallB R s args own index y bytes maxL ret ws rm mc ms k ∧ (Cond.static y).before args s = true) (hn : As.length = k) (hl : lv_has ls nL lv) (hst : st0 = As.reverse ++ rest) (hW : (rest.map fun v => v.category).sum ≤ 8) (d : decode cc pc = .ok (.invokestatic index, 3)) (hf : cells + mc ≤ R.cells ∧ slots + ms ≤ R.slots) :
    va_Run p l e R s m args below meth c H locs cells slots mc ms (F0 m pc ls st0) rest (Qc (As : List Value).toArray) (gFree B) :=
  va_runS C.1 M cw ⟨gPreX.blind, fun U hU hW => ⟨rfl, ⟨by rw [hU]; exact Nat.le_trans C.2.2.2 G.2.1, by rw [hU]; exact G.1, C.2.1.warm hW, C.2.2.1⟩, X.warm hW (fun a ha hna => by rw [hU]; exact G.2.2.1 a ha hna)⟩⟩ rfl hn hl.1 hst (lv_room hW) d hf
theorem g_runVX (C : gC p c cc nL s m args Ts own κ B n ad) (G : gG κ B n ad s g H locs) (X : gX B s) {y : MethodName} {bytes : ByteArray} {maxL mc ms k index : Nat} {ret : Option FieldType} {ws : List Cond} {rm : Room} {Qc : Array Value → State → Outcome → State → Prop} {XC : String → State → State → Prop} {As st0 : List Value} {lv : List (Nat × Value)} {pos ci N : Nat} {fs : List Value} {Cn : String} {T : u_T} (M : vx_Met l y ws rm (gPreX κ B n ad g (.ref (ad pos) :: As)) Qc XC mc ms (gFree B)) (cw : CallW R s args own Cn index y bytes maxL ret ws rm mc ms k) (hp : pos < n) (he : g pos = .inr (ci, fs)) (hci : vwCl[ci]? = some (Cn, T, N)) (hn : As.length = k) (hl : lv_has ls nL lv) (hst : st0 = As.reverse ++ .ref (ad pos) :: rest) (hW : (rest.map fun v => v.category).sum ≤ 8) (d : decode cc pc = .ok (.invokevirtual index, 3)) (hf : cells + mc ≤ R.cells ∧ slots + ms ≤ R.slots) :
    vx_Run p l e R s m args below meth c H locs cells slots mc ms (F0 m pc ls st0) rest (Qc (Value.ref (ad pos) :: As : List Value).toArray) XC (gFree B) :=
  vx_runV C.1 M cw ⟨gPreX.blind, va_recv C.2.1.1 G.1 hci (q0 := pos) (by rw [gW_at hp, he]), fun U hU hW => ⟨rfl, ⟨by rw [hU]; exact Nat.le_trans C.2.2.2 G.2.1, by rw [hU]; exact G.1, C.2.1.warm hW, C.2.2.1⟩, X.warm hW (fun a ha hna => by rw [hU]; exact G.2.2.1 a ha hna)⟩⟩ rfl hn hl.1 hst (lv_room hW) d hf
theorem g_cxi (C : gC p c cc nL s m args Ts own κ B n ad) (G : gG κ B n ad s g H locs) {st0 : List Value} {a : Array Value} {mc ms : Nat} {post : Int → (Nat → va_E) → Prop} {px : String → (Nat → va_E) → Prop} (hr : vx_Run p l e R s m args below meth c H locs cells slots mc ms (F0 m pc ls st0) rest (gQi κ B n ad post a) (gXX κ B n ad px) (gFree B))
    (kx : ∀ (E : String) (ce : Cell) (q9 : Addr) (g : Nat → va_E) (H : Heap) (locs : List Loc), px E g → gG κ B n ad s g H locs → H[q9]? = some ce → ce.vm = .none → s.vm.findClass E = some ce.cls → vx_W p l e R s m args below meth c H locs (cells + mc) (slots + ms) Q (F0 m pc ls rest) q9)
    (kk : ∀ (z : Int) (g : Nat → va_E) (H : Heap) (locs : List Loc), post z g → gG κ B n ad s g H locs → W p l e R s m args below meth c H locs (cells + mc) (slots + ms) Q (F0 m (pc + 3) ls (.int (iz z) :: rest))) : W p l e R s m args below meth c H locs cells slots Q (F0 m pc ls st0) := by
  refine vx_calli hr G.2 (fun q _ h => h) (fun q h => h) (fun q _ h => h) (fun E ce q9 u t H1 locs1 ht hvm _ hB hz1 hk1 hS hce hcv hcl => ?_) (fun r u t H1 locs1 ht hvm hw hB hz1 hk1 hS => ?_)
  · subst ht
    exact kx E ce q9 u t.heap locs1 hB.1 ⟨hB.2, hS⟩ hce hcv hcl
  · obtain ⟨z, rfl, hp⟩ := hw
    subst ht
    exact kk z u t.heap locs1 hp ⟨hB, hS⟩
end GP9
theorem Met_ofWH {l : Launch} {y : MethodName} {ws ws' : List Cond} {rm : Room} {Pc : Array Value → State → Prop} {Qc : Array Value → State → Outcome → State → Prop} {mc ms : Nat} {free : Addr → Prop} {cc : ByteArray} {maxL : Nat} {ret : Option FieldType} {hh : List (Nat × Nat × Nat × Nat)}
    (hy : plainName y.cls = true) (hw : ws = Cond.codeWith y cc maxL ret hh :: ws')
    (body : ∀ p e s m args below meth c s₁, BodyLoose p l y (headSpec ws rm) cc maxL ret e s m args below meth c s₁ → c.maxLocals = maxL → Pc args s →
      W p l e (headSpec ws rm).room s m args below meth c s.heap [] 0 0 (MQ below Qc args s mc ms free) (entryFrame m args maxL)) : Met l y ws rm Pc Qc mc ms free := by
  refine MetFree.of_bodyS (code := cc) (maxLocals := maxL) (ret := ret) hy ?_ ?_
  · intro args s m h hn
    obtain ⟨m9, meth, c, hn9, h1, h2, h3, h4, -, h5, h6, -⟩ := Cond.codeWith_spec (atoms_spec (ws := ws) h _ (by rw [hw]; exact List.mem_cons_self))
    cases hn.symm.trans hn9
    exact ⟨meth, c, h1, h2, h3, h4, h5, h6⟩
  · intro p e s m args below meth c s₁ B hml hP _
    have hh0 : s₁.heap = s.heap := by rw [B.state]; rfl
    obtain ⟨t, a1, o, b1, b2, b3⟩ := body p e s m args below meth c s₁ B hml hP s₁ hh0 (Stand.of_body B)
    exact ⟨t, o, a1, b1, b2, ⟨b3.1, b3.2⟩⟩
set_option maxHeartbeats 4000000 in
set_option maxRecDepth 100000 in
theorem c_L_low (l : Launch) (κ : gKap) (B n : Nat) (ad : Nat → Nat) (g : Nat → va_E) (v k : Int) (hv : inI v) (hk : 1 ≤ k ∧ k ≤ 2147483647) : Met l yL_low wsL_low ({ frames := 0, cells := 0, slots := 0, locals := 0 }) (gPre κ B n ad g [.int (iz v), .int (iz k)]) (gQi κ B n ad (fun z g' => g' = g ∧ (z = lowF v k))) 0 0 (gFree B) := by
  refine g_met RL (cc := cL_low) (maxL := 2) (ret := (some .int)) (by decide) rfl rfl (Nat.le_of_ble_eq_true rfl) ?_
  intro p e s m args below meth c C hr hlk hnm G ls hl
  have hl : lv_has ls 2 [(0, .int (iz v)), (1, .int (iz k))] := hl
  have h0 : 0 ≤ v % 2147483648 := Int.emod_nonneg _ (by decide)
  have h1 : v % 2147483648 < 2147483648 := Int.emod_lt_of_pos _ (by decide)
  refine g_iload_n C dL_low_0 rfl hl 0 rfl ?_
  refine g_ldc (a := 2147483647) C (by decide +kernel) dL_low_1 ?_
  refine g_mask C dL_low_3 ?_
  refine g_iload_n C dL_low_4 rfl hl 1 rfl ?_
  refine g_irem C (by omega) (by omega) (by omega) dL_low_5 ?_
  refine g_iret C G hr hlk (Nat.le_of_ble_eq_true rfl) (Nat.le_of_ble_eq_true rfl) dL_low_6 ?_
  exact ⟨rfl, tmod_pos h0⟩
/-- a number of the script -/
def sxF (xs : Nat → Int32) (z : Int) : Int := (xs z.toNat).toInt
def ceF (L : Nat) (xs : Nat → Int32) (k : Int) : Int := if k < L then sxF xs k else rI (747796405 * (k + 1))
theorem ceF_in (L : Nat) (xs : Nat → Int32) (k : Int) : inI (ceF L xs k) := by
  unfold ceF
  split
  · exact inI_of _
  · exact rI_in _
def gPreS (κ : gKap) (B b L : Nat) (xs : Nat → Int32) (ad : Nat → Nat) (g : Nat → va_E) (As : List Value) : Array Value → State → Prop := va_Pc As (fun U => gS κ B 0 ad g U ∧ va_X b L xs U U.heap ∧ b < B)
theorem gPreS.blind {κ : gKap} {B b L : Nat} {xs : Nat → Int32} {ad : Nat → Nat} {g : Nat → va_E} {As : List Value} : FrameBlind (gPreS κ B b L xs ad g As) := fun _ U g9 mk h => ⟨h.1, ⟨h.2.1.1, h.2.1.2.1, gK.same (s := U) rfl h.2.1.2.2.1, h.2.1.2.2.2⟩, va_X.moved (u := U) (U := U.calling g9 mk _) (Vm.Alike.refl U.vm) h.2.2.1, h.2.2.2⟩
section GS9
variable {l : Launch} {κ : gKap} {B b L : Nat} {xs : Nat → Int32} {ad : Nat → Nat} {g : Nat → va_E} {cc : ByteArray}
theorem g_metS {y : MethodName} (own : String) {ws ws' : List Cond} {rm : Room} {As : List Value} {Qc : Array Value → State → Outcome → State → Prop} {mc ms maxL : Nat} {ret : Option FieldType}
    (hy : plainName y.cls = true) (hw : ws = Cond.code y cc maxL ret :: ws') (ho : y.cls = own) (hsl : (lg_sl As).length ≤ maxL)
    (body : ∀ (p : Program) (e : Env) (s : State) (m : MethodId) (args : Array Value) (below : List Frame) (meth : Method) (c : Code), gC p c cc maxL s m args ws own κ B 0 ad → meth.sig.returnType = ret → meth.locks = false → va_X b L xs s s.heap → b < B → gG κ B 0 ad s g s.heap [] → ∀ ls : Array Slot, lv_has ls maxL (lv_args 0 As) → W p l e rm s m args below meth c s.heap [] 0 0 (MQ below Qc args s mc ms (gFree B)) (F0 m 0 ls [])) :
    Met l y ws rm (gPreS κ B b L xs ad g As) Qc mc ms (gFree B) := by
  subst ho
  refine Met.ofW (cc := cc) (maxL := maxL) (ret := ret) hy hw ?_
  intro p e s m args below meth c s₁ Bd hml hv
  obtain ⟨rfl, ⟨hB, hP, hK, hD⟩, hX, hb⟩ := hv
  have hts := atoms_spec (ws := ws) Bd.pre
  have hown : s.vm.findClass y.cls = some m.cls := findClass_of_methodNamed Bd.named
  have hl := lv_entry As (n := maxL) hsl
  rw [lg_entry_eq]
  exact body p e s m _ below meth c ⟨⟨Bd.exec, Bd.bytes, hml, hown, hts⟩, hK, hD, hB⟩ Bd.returns Bd.notSynchronized hX hb ⟨hP, va_S.rf⟩ _ hl
end GS9
set_option maxHeartbeats 4000000 in
set_option maxRecDepth 100000 in
theorem c_L_cell (l : Launch) (κ : gKap) (B b L : Nat) (xs : Nat → Int32) (ad : Nat → Nat) (g : Nat → va_E) (k : Int) (hk : 0 ≤ k ∧ k ≤ 100) (hL : L ≤ 260) : Met l yL_cell wsL_cell ({ frames := 0, cells := 0, slots := 0, locals := 0 }) (gPreS κ B b L xs ad g [.ref b, .int (iz k)]) (gQi κ B 0 ad (fun z g' => z = ceF L xs k)) 0 0 (gFree B) := by
  refine g_metS RL (cc := cL_cell) (maxL := 2) (ret := (some .int)) (by decide) rfl rfl (Nat.le_of_ble_eq_true rfl) ?_
  intro p e s m args below meth c C hr hlk hXs hbB G ls hl
  have hl : lv_has ls 2 [(0, .ref b), (1, .int (iz k))] := hl
  have hbl : b < s.heap.size := Nat.lt_of_lt_of_le hbB C.2.2.2
  refine g_iload_n C dL_cell_0 rfl hl 1 rfl ?_
  refine lv_aload_n C.1.1 C.1.2.1 dL_cell_1 rfl (lv_at hl 0 rfl) ?_
  refine va_slen C.1.1 C.1.2.1 hXs hbl (A := gFree B) (fun q => by have q2 : B ≤ b := q; omega) G.2 dL_cell_2 ?_
  rw [show Int32.ofNat L = iz (L : Int) from Int32.ofInt_eq_ofNat.symm]
  refine g_icmp_ge (tgt := 12) C (by omega) (by omega) dL_cell_3 (by decide) (fun hx => ?_) (fun hx => ?_)
  · refine g_ldc (a := 747796405) C (by decide +kernel) dL_cell_12 ?_
    refine g_iload_n C dL_cell_14 rfl hl 1 rfl ?_
    refine g_iconst (a := 1) C dL_cell_15 rfl ?_
    refine g_iadd C dL_cell_16 ?_
    refine g_imul C dL_cell_17 ?_
    rw [iz_rI (747796405 * (k + 1))]
    refine g_iret C G hr hlk (Nat.le_of_ble_eq_true rfl) (Nat.le_of_ble_eq_true rfl) dL_cell_18 ?_
    show rI (747796405 * (k + 1)) = ceF L xs k
    unfold ceF
    rw [if_neg (by omega)]
  · refine lv_aload_n C.1.1 C.1.2.1 dL_cell_6 rfl (lv_at hl 0 rfl) ?_
    refine g_iload_n C dL_cell_7 rfl hl 1 rfl ?_
    refine va_sld C.1.1 C.1.2.1 hXs hbl (A := gFree B) (fun q => by have q2 : B ≤ b := q; omega) G.2 (iz_in (by omega) (by omega) (by omega)) dL_cell_8 ?_
    rw [iz_clamp (by omega) (by omega), iz_of (xs k.toNat)]
    refine g_goto (tgt := 18) C dL_cell_9 (by decide) ?_
    refine g_iret C G hr hlk (Nat.le_of_ble_eq_true rfl) (Nat.le_of_ble_eq_true rfl) dL_cell_18 ?_
    show (xs k.toNat).toInt = ceF L xs k
    unfold ceF
    rw [if_pos (by omega)]
    rfl
section GH9
variable {l : Launch} {κ : gKap} {B n : Nat} {ad : Nat → Nat} {g : Nat → va_E} {cc : ByteArray}
theorem g_metHX {y : MethodName} (own : String) {ws ws' : List Cond} {rm : Room} {As : List Value} {Qc : Array Value → State → Outcome → State → Prop} {mc ms maxL : Nat} {ret : Option FieldType} {hh : List (Nat × Nat × Nat × Nat)}
    (hy : plainName y.cls = true) (hw : ws = Cond.codeWith y cc maxL ret hh :: ws') (ho : y.cls = own) (hsl : (lg_sl As).length ≤ maxL)
    (body : ∀ (p : Program) (e : Env) (s : State) (m : MethodId) (args : Array Value) (below : List Frame) (meth : Method) (c : Code), gC p c cc maxL s m args ws own κ B n ad → meth.sig.returnType = ret → meth.locks = false → c.exceptionTable.toList = tableOf hh → gX B s → gG κ B n ad s g s.heap [] → ∀ ls : Array Slot, lv_has ls maxL (lv_args 0 As) → W p l e rm s m args below meth c s.heap [] 0 0 (MQ below Qc args s mc ms (gFree B)) (F0 m 0 ls [])) :
    Met l y ws rm (gPreX κ B n ad g As) Qc mc ms (gFree B) := by
  subst ho
  refine Met_ofWH (cc := cc) (maxL := maxL) (ret := ret) (hh := hh) hy hw ?_
  intro p e s m args below meth c s₁ Bd hml hv
  obtain ⟨rfl, ⟨hB, hP, hK, hD⟩, hX⟩ := hv
  have hts := atoms_spec (ws := ws) Bd.pre
  have hown : s.vm.findClass y.cls = some m.cls := findClass_of_methodNamed Bd.named
  have hl := lv_entry As (n := maxL) hsl
  have htab := vx_table (x := y) Bd (hts _ (by rw [hw]; exact List.mem_cons_self))
  rw [lg_entry_eq]
  exact body p e s m _ below meth c ⟨⟨Bd.exec, Bd.bytes, hml, hown, hts⟩, hK, hD, hB⟩ Bd.returns Bd.notSynchronized htab hX ⟨hP, va_S.rf⟩ _ hl
end GH9
set_option maxHeartbeats 4000000 in
set_option maxRecDepth 100000 in
theorem c_L_restored (l : Launch) (hlf : l.stackTraces = false) (κ : gKap) (B n : Nat) (ad : Nat → Nat) (g : Nat → va_E) (HP : gHP) (nl : Int) (f F9 : Int → Int) (M9 : Int → Int × (Int → Int)) (sl : Int) (hnn : 192 ≤ n) (h : XI κ ad g HP nl f F9 M9) (hsl : 0 ≤ sl ∧ sl < 2) : Met l yL_restored wsL_restored ({ frames := 7, cells := 1, slots := 6, locals := 104 }) (gPreX κ B n ad g [.ref (ad 0), .int (iz sl)]) (gQi κ B n ad (fun z g' => ((F9 sl = 1 ∧ z = (M9 sl).1 ∧ XI κ ad g' HP0 (M9 sl).1 (M9 sl).2 F9 M9) ∨ (F9 sl = 0 ∧ z = -1000 ∧ XI κ ad g' HP0 nl f F9 M9)) ∧ frX n g g')) 1 6 (gFree B) := by
  have h9 := h
  obtain ⟨tl, ns, old, cnt, m0, m1, v, vs, w0, w1, P9, ⟨hX, hpl, hps, hhi, hF, hp0, hp1, hbn⟩, ⟨hok, s9, hiv, hivs, hol, hct, hinP, hi0, hi1, hF01, hs0, hs1⟩, hH⟩ := h
  have hov : okPl nl v := hok.sim s9.symm
  have M := c_X7_restore l hlf κ B n ad g tl nl v old cnt P9 F9 m0 w0 m1 w1 sl hnn hX hpl hov hiv hhi hol hct hinP hF hp0 hi0 hp1 hi1 (by omega) hF01 (fun q => by obtain ⟨a, b, d⟩ := hs0 q; exact (a ▸ d : okPl m0 (M9 0).2).sim b.symm) (fun q => by obtain ⟨a, b, d⟩ := hs1 q; exact (a ▸ d : okPl m1 (M9 1).2).sim b.symm)
  refine g_metHX RL (cc := cL_restored) (maxL := 3) (ret := (some .int)) (hh := [(0, 5, 6, 15)]) (by decide) rfl rfl (Nat.le_of_ble_eq_true rfl) ?_
  intro p e s m args below meth c C hr hlk htab X G ls hl
  have hl : lv_has ls 3 [(0, .ref (ad 0)), (1, .int (iz sl))] := hl
  refine g_aload_n C dL_restored_0 rfl hl 0 rfl ?_
  refine g_iload_n C dL_restored_1 rfl hl 1 rfl ?_
  refine g_cxi C G (g_runVX (As := [.int (iz sl)]) (rest := []) (pos := 0) C G X M (cwV 1 C.1.2.2.2.2 gL_restored_X7_restore rfl rfl rfl (by decide +kernel) ⟨Nat.le_of_ble_eq_true rfl, Nat.le_of_ble_eq_true rfl⟩) (by omega) hX.1 (T := TX7) (N := 8) rfl rfl hl rfl (Nat.le_of_ble_eq_true rfl) dL_restored_2 ⟨Nat.le_of_ble_eq_true rfl, Nat.le_of_ble_eq_true rfl⟩) (fun E ce q9 gx H locs hpx G hce hcv hcl => ?_) (fun r gm H locs hpo G => ?_)
  · rcases hpx with ⟨hE, hn, hg⟩ | ⟨hE, hn, hg⟩
    · exact absurd hsl hn
    · subst hE
      replace hg := hg.symm
      subst hg
      refine vx_catch C.1.2.2.2.1 [] ⟨0, 5, 6, 15⟩ [] (htab.trans rfl) (fun z hz => nomatch hz) (by decide) (by decide) (C.1.2.2.2.2 _ (by decide +kernel : Cond.classLink RL 15 "java/lang/IllegalStateException" ∈ wsL_restored)) (va_Nw.use rfl (X.1.1 "java/lang/IllegalStateException" (by decide))) hce hcv hcl ?_
      refine lv_astore_n (lv' := [(2, .ref q9), (0, .ref (ad 0)), (1, .int (iz sl))]) C.1.1 C.1.2.1 dL_restored_6 rfl hl (by decide) rfl (fun ls hl => ?_)
      refine g_sipush (a := (-1000)) C dL_restored_7 (by decide) ?_
      refine g_iret C G hr hlk (Nat.le_of_ble_eq_true rfl) (Nat.le_of_ble_eq_true rfl) dL_restored_10 ?_
      exact ⟨Or.inr ⟨hn.2, rfl, h9.any⟩, frX.rf⟩
  · obtain ⟨-, hf1, mm, ww, U9, hm, hz, r1, r2, r3, r4, hq⟩ := hpo
    refine g_iret C G hr hlk (Nat.le_of_ble_eq_true rfl) (Nat.le_of_ble_eq_true rfl) dL_restored_5 ?_
    refine ⟨Or.inl ⟨hf1, ?_, ?_⟩, fun k k0 _ => hq k (by omega) (by omega)⟩
    · rcases hm with ⟨rfl, rfl, rfl⟩ | ⟨rfl, rfl, rfl⟩
      · exact hz.trans (hs0 hf1).1
      · exact hz.trans (hs1 hf1).1
    · have key : mm = (M9 sl).1 ∧ sim mm U9 (M9 sl).2 ∧ okPl mm (M9 sl).2 := by
        rcases hm with ⟨rfl, rfl, rfl⟩ | ⟨rfl, rfl, rfl⟩
        · obtain ⟨a, b, d⟩ := hs0 hf1
          exact ⟨a, r2.tr b, d⟩
        · obtain ⟨a, b, d⟩ := hs1 hf1
          exact ⟨a, r2.tr b, d⟩
      obtain ⟨k1, k2, k3⟩ := key
      subst k1
      exact ⟨tl, ns, 0, 0, m0, m1, U9, vs, w0, w1, P9, ⟨hX.far (hq _ (by omega) (by omega)) (hq _ (by omega) (by omega)), r1, hps.far (fun q _ _ => hq q (by omega) (by omega)), r4, (hq _ (by omega) (by omega)).trans hF, hp0.far (fun q _ _ => hq q (by omega) (by omega)), hp1.far (fun q _ _ => hq q (by omega) (by omega)), hbn.far (fun q _ _ => hq q (by omega) (by omega))⟩, ⟨k3, k2, r3, hivs, by omega, by omega, hinP, hi0, hi1, hF01, hs0, hs1⟩, trivial⟩
