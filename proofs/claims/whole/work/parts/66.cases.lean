/-! THE LAW: its rows and its cases -/
def sxF (xs : Nat → Int32) (z : Int) : Int := (xs z.toNat).toInt
theorem sxF_in (xs : Nat → Int32) (z : Int) : inI (sxF xs z) := inI_of _
def lgC (a b : Int) : Int := (jz a <<< ((iz 32).toInt64 &&& 63) ||| (jz b &&& jz 4294967295) : Int64).toInt
theorem lgC_in (a b : Int) : inJ (lgC a b) := inJ_of _
def rJ (r : Int) : Int := (jz r).toInt
theorem jz_rJ (r : Int) : jz r = jz (rJ r) := jz_of (jz r)
theorem rJ_in (r : Int) : inJ (rJ r) := inJ_of (jz r)
theorem iz_and31 {a : Int} : iz a &&& iz 31 = iz (a % 32) := by
  apply Int32.toBitVec_inj.mp
  show BitVec.ofInt 32 a &&& 31#32 = BitVec.ofInt 32 (a % 32)
  apply BitVec.eq_of_toNat_eq
  rw [BitVec.toNat_and, BitVec.toNat_ofInt, BitVec.toNat_ofInt]
  show (a % ((2 ^ 32 : Nat) : Int)).toNat &&& (2 ^ 5 - 1) = (a % 32 % ((2 ^ 32 : Nat) : Int)).toNat
  rw [Nat.and_two_pow_sub_one_eq_mod]
  omega
section GLAW
variable {p : Program} {l : Launch} {e : Env} {R : Room} {s : State} {m : MethodId} {args : Array Value} {below : List Frame} {meth : Method} {c : Code} {H : Heap} {locs : List Loc} {cells slots : Nat} {Q : State → Prop}
variable {cc : ByteArray} {nL pc : Nat} {ls : Array Slot} {rest : List Value} {Ts : List Cond} {own : String} {κ : gKap} {B n : Nat} {ad : Nat → Nat} {g : Nat → va_E} {b L : Nat} {xs : Nat → Int32}
theorem g_sld (C : gC p c cc nL s m args Ts own κ B n ad) (G : gG κ B n ad s g H locs) (hXs : va_X b L xs s s.heap) (hbl : b < s.heap.size) (hB : B = s.heap.size) {z : Int} (h0 : 0 ≤ z) (h1 : z < (L : Int)) (hL : L ≤ 2560) (d : decode cc pc = .ok (.iaload, 1)) (kk : W p l e R s m args below meth c H locs cells slots Q (F0 m (pc + 1) ls (.int (iz (sxF xs z)) :: rest))) : W p l e R s m args below meth c H locs cells slots Q (F0 m pc ls (.int (iz z) :: .ref b :: rest)) := by
  refine va_sld C.1.1 C.1.2.1 hXs hbl (A := gFree B) (fun q => by have q2 : B ≤ b := q; omega) G.2 (iz_in h0 h1 (by omega)) d ?_
  rw [iz_clamp h0 (by omega), iz_of (xs z.toNat)]
  exact kk
theorem g_slen (C : gC p c cc nL s m args Ts own κ B n ad) (G : gG κ B n ad s g H locs) (hXs : va_X b L xs s s.heap) (hbl : b < s.heap.size) (hB : B = s.heap.size) (d : decode cc pc = .ok (.arraylength, 1)) (kk : W p l e R s m args below meth c H locs cells slots Q (F0 m (pc + 1) ls (.int (iz (L : Int)) :: rest))) : W p l e R s m args below meth c H locs cells slots Q (F0 m pc ls (.ref b :: rest)) := by
  refine va_slen C.1.1 C.1.2.1 hXs hbl (A := gFree B) (fun q => by have q2 : B ≤ b := q; omega) G.2 d ?_
  rw [show Int32.ofNat L = iz (L : Int) from Int32.ofInt_eq_ofNat.symm]
  exact kk
theorem g_runSY (C : gC p c cc nL s m args Ts own κ B n ad) (G : gG κ B n ad s g H locs) (X : gX B s) (N9 : gNc s) {y : MethodName} {bytes : ByteArray} {maxL mc ms k index : Nat} {ret : Option FieldType} {hh : List (Nat × Nat × Nat × Nat)} {ws : List Cond} {rm : Room} {Qc : Array Value → State → Outcome → State → Prop} {As st0 : List Value} {lv : List (Nat × Value)} (M : Met l y ws rm (gPreY κ B n ad g As) Qc mc ms (gFree B)) (cw : vx_CSW R s args own index y bytes maxL ret hh ws rm mc ms k) (hn : As.length = k) (hl : lv_has ls nL lv) (hst : st0 = As.reverse ++ rest) (hW : (rest.map fun v => v.category).sum ≤ 8) (d : decode cc pc = .ok (.invokestatic index, 3)) (hf : cells + mc ≤ R.cells ∧ slots + ms ≤ R.slots) :
    va_Run p l e R s m args below meth c H locs cells slots mc ms (F0 m pc ls st0) rest (Qc (As : List Value).toArray) (gFree B) :=
  vx_runSW C.1 M cw ⟨gPreY.blind, fun U hU hW => ⟨rfl, ⟨by rw [hU]; exact Nat.le_trans C.2.2.2 G.2.1, by rw [hU]; exact G.1, C.2.1.warm hW, C.2.2.1⟩, X.warm hW (fun a ha hna => by rw [hU]; exact G.2.2.1 a ha hna), N9.moved hW.alike⟩⟩ rfl hn hl.1 hst (lv_room hW) d hf
end GLAW
section LAWC
variable {p : Program} {l : Launch} {e : Env} {s : State} {m : MethodId} {args : Array Value} {below : List Frame} {meth : Method} {c : Code} {H : Heap} {locs : List Loc} {Q : State → Prop} {ls : Array Slot} {κ : gKap} {B : Nat} {ad : Nat → Nat} {g : Nat → va_E} {b L : Nat} {xs : Nat → Int32} {th : Int}
set_option maxHeartbeats 4000000 in
set_option maxRecDepth 100000 in
theorem lc_append (hlf : l.stackTraces = false) (C : gC p c cL_law 7 s m args wsL_law RL κ B 201 ad) (X : gX B s) (N9 : gNc s) (hXs : va_X b L xs s s.heap) (hbl : b < s.heap.size) (hB : B = s.heap.size) (hL : L ≤ 2560) {j : Nat} (hj : 5 * j + 5 ≤ L) (h : LI κ ad g th (1000 * (j : Int))) {o9 : Int → Int64} (ho : g 200 = aJ κ 1 o9) (G : gG κ B 201 ad s g H locs) (hl : lv_has ls 7 [(4, .int (iz (5 * (j : Int)))), (0, .ref b), (1, .ref (ad 0)), (2, .ref (ad 192)), (3, .ref (ad 200))]) (kk : ∀ (g : Nat → va_E) (th : Int) (H : Heap) (locs : List Loc) (ls : Array Slot), LI κ ad g th (1000 * (j : Int) + 1000) → (∃ o9 : Int → Int64, g 200 = aJ κ 1 o9) → gG κ B 201 ad s g H locs → lv_has ls 7 [(4, .int (iz (5 * (j : Int)))), (0, .ref b), (1, .ref (ad 0)), (2, .ref (ad 192)), (3, .ref (ad 200))] → W p l e room_1 s m args below meth c H locs (210 + 3 * j + 3) (33000 + 15 * j + 15) Q (F0 m 1950 ls [])) : W p l e room_1 s m args below meth c H locs (210 + 3 * j) (33000 + 15 * j) Q (F0 m 172 ls []) := by
  refine g_aload_n C dL_law_172 rfl hl 2 rfl ?_
  refine g_aload_n C dL_law_173 rfl hl 1 rfl ?_
  refine g_iload C dL_law_174 hl 0 rfl ?_
  refine g_iconst (a := 1) C dL_law_176 rfl ?_
  refine g_iadd C dL_law_177 ?_
  refine g_sld C G hXs hbl hB (by omega) (by omega) hL dL_law_178 ?_
  refine g_aload_n C dL_law_179 rfl hl 4 rfl ?_
  obtain ⟨CL, M1, hk1⟩ := op_append l hlf κ B ad g th (1000 * (j : Int)) (sxF xs ((5 * (j : Int)) + 1)) (sxF_in _ _) (by omega) h ho
  refine g_ci C G (g_runSY (As := [.ref (ad 0), .int (iz (sxF xs ((5 * (j : Int)) + 1))), .ref (ad 200)]) (rest := []) C G X N9 M1 (vx_cwSW (hh := [(0, 9, 12, 13), (0, 9, 15, 15)]) 3 C.1.2.2.2.2 gL_law_L_append rfl rfl rfl (by decide +kernel) ⟨Nat.le_of_ble_eq_true rfl, Nat.le_of_ble_eq_true rfl⟩) rfl hl rfl (Nat.le_of_ble_eq_true rfl) dL_law_180 ⟨by show _ ≤ 601024; omega, by show _ ≤ 7293034; omega⟩) (fun z g1 H locs hz G => ?_)
  obtain ⟨⟨fs1, hm1⟩, MP, M2, hk2⟩ := hk1 z g1 hz
  refine lv_istore (lv' := [(5, .int (iz z)), (4, .int (iz (5 * (j : Int)))), (0, .ref b), (1, .ref (ad 0)), (2, .ref (ad 192)), (3, .ref (ad 200))]) C.1.1 C.1.2.1 dL_law_183 hl (by decide) rfl (fun ls hl => ?_)
  refine g_aload_n C dL_law_185 rfl hl 4 rfl ?_
  refine g_aload_n C dL_law_186 rfl hl 2 rfl ?_
  refine g_iload C dL_law_187 hl 1 rfl ?_
  refine g_iconst (a := 1) C dL_law_189 rfl ?_
  refine g_iadd C dL_law_190 ?_
  refine g_sld C G hXs hbl hB (by omega) (by omega) hL dL_law_191 ?_
  refine g_ci C G (g_runV (As := [.int (iz (sxF xs ((5 * (j : Int)) + 1)))]) (rest := []) (pos := 192) C G M2 (cwV 1 C.1.2.2.2.2 gL_law_X8_append rfl rfl rfl (by decide +kernel) ⟨Nat.le_of_ble_eq_true rfl, Nat.le_of_ble_eq_true rfl⟩) (by omega) hm1 (T := TX8) (N := 17) rfl rfl hl rfl (Nat.le_of_ble_eq_true rfl) dL_law_192 ⟨by show _ ≤ 601024; omega, by show _ ≤ 7293034; omega⟩) (fun zm g2 H locs hz2 G => ?_)
  obtain ⟨hLI, hzr, o8, ho8, hv8⟩ := hk2 zm g2 hz2
  obtain ⟨fs2, hm2, M3⟩ := hLI.thr l B
  refine lv_istore (lv' := [(6, .int (iz zm)), (5, .int (iz z)), (4, .int (iz (5 * (j : Int)))), (0, .ref b), (1, .ref (ad 0)), (2, .ref (ad 192)), (3, .ref (ad 200))]) C.1.1 C.1.2.1 dL_law_195 hl (by decide) rfl (fun ls hl => ?_)
  refine g_aload_n C dL_law_197 rfl hl 5 rfl ?_
  refine g_ci C G (g_runV (As := []) (rest := []) (pos := 192) C G M3 (cwV 0 C.1.2.2.2.2 gL_law_X8_thrown rfl rfl rfl (by decide +kernel) ⟨Nat.le_of_ble_eq_true rfl, Nat.le_of_ble_eq_true rfl⟩) (by omega) hm2 (T := TX8) (N := 17) rfl rfl hl rfl (Nat.le_of_ble_eq_true rfl) dL_law_198 ⟨by show _ ≤ 601024; omega, by show _ ≤ 7293034; omega⟩) (fun zt g3 H locs hz3 G => ?_)
  obtain ⟨hg3, hzt⟩ := hz3
  rw [hg3] at G
  rw [hzt]
  refine g_iload C dL_law_201 hl 1 rfl ?_
  refine g_icmp_eq (tgt := 208) C (by omega) (by omega) dL_law_203 (by decide) (fun _ => ?_) (fun q => absurd rfl q)
  refine g_iload C dL_law_208 hl 1 rfl ?_
  refine g_if_ne (tgt := 225) C (by omega) dL_law_210 (by decide) (fun hz0 => ?_) (fun hz0 => ?_)
  · refine g_goto (tgt := 1950) C dL_law_225 (by decide) ?_
    refine W.widen (k := 210 + 3 * j + 3) (n := 33000 + 15 * j + 15) (by omega) (by omega) ?_
    exact kk g2 z H locs ls hLI ⟨o8, ho8⟩ G (lv_sub hl [2, 3, 4, 5, 6] rfl)
  · refine g_aload_n C dL_law_213 rfl hl 6 rfl ?_
    refine g_iconst (a := 0) C dL_law_214 rfl ?_
    refine g_laload C G (pos := 200) (by omega) ho8 (by decide) (by decide) (by decide) dL_law_215 ?_
    rw [hv8 (by omega)]
    refine g_iload C dL_law_216 hl 0 rfl ?_
    rw [iz_rI zm]
    refine g_i2l C (rI_in zm) dL_law_218 ?_
    have hri := rI_in zm
    refine g_lcmp C (by omega) (by omega) dL_law_219 (fun zc hc => ?_)
    refine g_if_eq (tgt := 225) C (by omega) dL_law_220 (by decide) (fun _ => ?_) (fun q => absurd q (by omega))
    refine g_goto (tgt := 1950) C dL_law_225 (by decide) ?_
    refine W.widen (k := 210 + 3 * j + 3) (n := 33000 + 15 * j + 15) (by omega) (by omega) ?_
    exact kk g2 z H locs ls hLI ⟨o8, ho8⟩ G (lv_sub hl [2, 3, 4, 5, 6] rfl)
set_option maxHeartbeats 4000000 in
set_option maxRecDepth 100000 in
theorem lc_clearText (hlf : l.stackTraces = false) (C : gC p c cL_law 7 s m args wsL_law RL κ B 201 ad) (X : gX B s) (N9 : gNc s) (hXs : va_X b L xs s s.heap) (hbl : b < s.heap.size) (hB : B = s.heap.size) (hL : L ≤ 2560) {j : Nat} (hj : 5 * j + 5 ≤ L) (h : LI κ ad g th (1000 * (j : Int))) {o9 : Int → Int64} (ho : g 200 = aJ κ 1 o9) (G : gG κ B 201 ad s g H locs) (hl : lv_has ls 7 [(4, .int (iz (5 * (j : Int)))), (0, .ref b), (1, .ref (ad 0)), (2, .ref (ad 192)), (3, .ref (ad 200))]) (kk : ∀ (g : Nat → va_E) (th : Int) (H : Heap) (locs : List Loc) (ls : Array Slot), LI κ ad g th (1000 * (j : Int) + 1000) → (∃ o9 : Int → Int64, g 200 = aJ κ 1 o9) → gG κ B 201 ad s g H locs → lv_has ls 7 [(4, .int (iz (5 * (j : Int)))), (0, .ref b), (1, .ref (ad 0)), (2, .ref (ad 192)), (3, .ref (ad 200))] → W p l e room_1 s m args below meth c H locs (210 + 3 * j + 3) (33000 + 15 * j + 15) Q (F0 m 1950 ls [])) : W p l e room_1 s m args below meth c H locs (210 + 3 * j) (33000 + 15 * j) Q (F0 m 228 ls []) := by
  obtain ⟨CL, M1, hk1⟩ := od_clearText l κ B ad g th (1000 * (j : Int)) (by omega) h ho
  obtain ⟨fs0, hx0⟩ := h.x0
  refine g_aload_n C dL_law_228 rfl hl 2 rfl ?_
  refine g_ci C G (g_runV (As := []) (rest := []) (pos := 0) C G M1 (cwV 0 C.1.2.2.2.2 gL_law_X7_clearText rfl rfl rfl (by decide +kernel) ⟨Nat.le_of_ble_eq_true rfl, Nat.le_of_ble_eq_true rfl⟩) (by omega) hx0 (T := TX7) (N := 8) rfl rfl hl rfl (Nat.le_of_ble_eq_true rfl) dL_law_229 ⟨by show _ ≤ 601024; omega, by show _ ≤ 7293034; omega⟩) (fun z g1 H locs hz G => ?_)
  obtain ⟨⟨fs1, hm1⟩, MP, M2, hk2⟩ := hk1 z g1 hz
  refine g_aload_n C dL_law_232 rfl hl 3 rfl ?_
  refine g_ci C G (g_runV (As := []) (rest := [.int (iz z)]) (pos := 192) C G M2 (cwV 0 C.1.2.2.2.2 gL_law_X8_clearText rfl rfl rfl (by decide +kernel) ⟨Nat.le_of_ble_eq_true rfl, Nat.le_of_ble_eq_true rfl⟩) (by omega) hm1 (T := TX8) (N := 17) rfl rfl hl rfl (Nat.le_of_ble_eq_true rfl) dL_law_233 ⟨by show _ ≤ 601024; omega, by show _ ≤ 7293034; omega⟩) (fun zm g2 H locs hz2 G => ?_)
  obtain ⟨hzz, ⟨th9, hLI⟩, o8, ho8⟩ := hk2 zm g2 hz2
  rw [← hzz]
  rw [iz_rI z]
  have hri := rI_in z
  refine g_icmp_eq (tgt := 1950) C (by omega) (by omega) dL_law_236 (by decide) (fun _ => ?_) (fun q => absurd rfl q)
  refine W.widen (k := 210 + 3 * j + 3) (n := 33000 + 15 * j + 15) (by omega) (by omega) ?_
  exact kk g2 th9 H locs ls hLI ⟨o8, ho8⟩ G (lv_sub hl [0, 1, 2, 3, 4] rfl)
set_option maxHeartbeats 4000000 in
set_option maxRecDepth 100000 in
theorem lc_errorPosition (hlf : l.stackTraces = false) (C : gC p c cL_law 7 s m args wsL_law RL κ B 201 ad) (X : gX B s) (N9 : gNc s) (hXs : va_X b L xs s s.heap) (hbl : b < s.heap.size) (hB : B = s.heap.size) (hL : L ≤ 2560) {j : Nat} (hj : 5 * j + 5 ≤ L) (h : LI κ ad g th (1000 * (j : Int))) {o9 : Int → Int64} (ho : g 200 = aJ κ 1 o9) (G : gG κ B 201 ad s g H locs) (hl : lv_has ls 7 [(4, .int (iz (5 * (j : Int)))), (0, .ref b), (1, .ref (ad 0)), (2, .ref (ad 192)), (3, .ref (ad 200))]) (kk : ∀ (g : Nat → va_E) (th : Int) (H : Heap) (locs : List Loc) (ls : Array Slot), LI κ ad g th (1000 * (j : Int) + 1000) → (∃ o9 : Int → Int64, g 200 = aJ κ 1 o9) → gG κ B 201 ad s g H locs → lv_has ls 7 [(4, .int (iz (5 * (j : Int)))), (0, .ref b), (1, .ref (ad 0)), (2, .ref (ad 192)), (3, .ref (ad 200))] → W p l e room_1 s m args below meth c H locs (210 + 3 * j + 3) (33000 + 15 * j + 15) Q (F0 m 1950 ls [])) : W p l e room_1 s m args below meth c H locs (210 + 3 * j) (33000 + 15 * j) Q (F0 m 241 ls []) := by
  obtain ⟨CL, M1, hk1⟩ := od_errorPosition l κ B ad g th (1000 * (j : Int)) (by omega) h ho
  obtain ⟨fs0, hx0⟩ := h.x0
  refine g_aload_n C dL_law_241 rfl hl 2 rfl ?_
  refine g_ci C G (g_runV (As := []) (rest := []) (pos := 0) C G M1 (cwV 0 C.1.2.2.2.2 gL_law_X7_errorPosition rfl rfl rfl (by decide +kernel) ⟨Nat.le_of_ble_eq_true rfl, Nat.le_of_ble_eq_true rfl⟩) (by omega) hx0 (T := TX7) (N := 8) rfl rfl hl rfl (Nat.le_of_ble_eq_true rfl) dL_law_242 ⟨by show _ ≤ 601024; omega, by show _ ≤ 7293034; omega⟩) (fun z g1 H locs hz G => ?_)
  obtain ⟨⟨fs1, hm1⟩, MP, M2, hk2⟩ := hk1 z g1 hz
  refine g_aload_n C dL_law_245 rfl hl 3 rfl ?_
  refine g_ci C G (g_runV (As := []) (rest := [.int (iz z)]) (pos := 192) C G M2 (cwV 0 C.1.2.2.2.2 gL_law_X8_errorPosition rfl rfl rfl (by decide +kernel) ⟨Nat.le_of_ble_eq_true rfl, Nat.le_of_ble_eq_true rfl⟩) (by omega) hm1 (T := TX8) (N := 17) rfl rfl hl rfl (Nat.le_of_ble_eq_true rfl) dL_law_246 ⟨by show _ ≤ 601024; omega, by show _ ≤ 7293034; omega⟩) (fun zm g2 H locs hz2 G => ?_)
  obtain ⟨hzz, ⟨th9, hLI⟩, o8, ho8⟩ := hk2 zm g2 hz2
  rw [← hzz]
  rw [iz_rI z]
  have hri := rI_in z
  refine g_icmp_eq (tgt := 1950) C (by omega) (by omega) dL_law_249 (by decide) (fun _ => ?_) (fun q => absurd rfl q)
  refine W.widen (k := 210 + 3 * j + 3) (n := 33000 + 15 * j + 15) (by omega) (by omega) ?_
  exact kk g2 th9 H locs ls hLI ⟨o8, ho8⟩ G (lv_sub hl [0, 1, 2, 3, 4] rfl)
set_option maxHeartbeats 4000000 in
set_option maxRecDepth 100000 in
theorem lc_load (hlf : l.stackTraces = false) (C : gC p c cL_law 7 s m args wsL_law RL κ B 201 ad) (X : gX B s) (N9 : gNc s) (hXs : va_X b L xs s s.heap) (hbl : b < s.heap.size) (hB : B = s.heap.size) (hL : L ≤ 2560) {j : Nat} (hj : 5 * j + 5 ≤ L) (h : LI κ ad g th (1000 * (j : Int))) {o9 : Int → Int64} (ho : g 200 = aJ κ 1 o9) (G : gG κ B 201 ad s g H locs) (hl : lv_has ls 7 [(4, .int (iz (5 * (j : Int)))), (0, .ref b), (1, .ref (ad 0)), (2, .ref (ad 192)), (3, .ref (ad 200))]) (kk : ∀ (g : Nat → va_E) (th : Int) (H : Heap) (locs : List Loc) (ls : Array Slot), LI κ ad g th (1000 * (j : Int) + 1000) → (∃ o9 : Int → Int64, g 200 = aJ κ 1 o9) → gG κ B 201 ad s g H locs → lv_has ls 7 [(4, .int (iz (5 * (j : Int)))), (0, .ref b), (1, .ref (ad 0)), (2, .ref (ad 192)), (3, .ref (ad 200))] → W p l e room_1 s m args below meth c H locs (210 + 3 * j + 3) (33000 + 15 * j + 15) Q (F0 m 1950 ls [])) : W p l e room_1 s m args below meth c H locs (210 + 3 * j) (33000 + 15 * j) Q (F0 m 254 ls []) := by
  refine g_aload_n C dL_law_254 rfl hl 2 rfl ?_
  refine g_aload_n C dL_law_255 rfl hl 4 rfl ?_
  obtain ⟨CL, M1, hk1⟩ := op_load l hlf κ B ad g th (1000 * (j : Int))   (by omega) h ho
  refine g_ci C G (g_runSY (As := [.ref (ad 0), .ref (ad 200)]) (rest := []) C G X N9 M1 (vx_cwSW (hh := [(0, 8, 11, 15)]) 2 C.1.2.2.2.2 gL_law_L_load rfl rfl rfl (by decide +kernel) ⟨Nat.le_of_ble_eq_true rfl, Nat.le_of_ble_eq_true rfl⟩) rfl hl rfl (Nat.le_of_ble_eq_true rfl) dL_law_256 ⟨by show _ ≤ 601024; omega, by show _ ≤ 7293034; omega⟩) (fun z g1 H locs hz G => ?_)
  obtain ⟨⟨fs1, hm1⟩, MP, M2, hk2⟩ := hk1 z g1 hz
  refine lv_istore (lv' := [(5, .int (iz z)), (4, .int (iz (5 * (j : Int)))), (0, .ref b), (1, .ref (ad 0)), (2, .ref (ad 192)), (3, .ref (ad 200))]) C.1.1 C.1.2.1 dL_law_259 hl (by decide) rfl (fun ls hl => ?_)
  refine g_aload_n C dL_law_261 rfl hl 4 rfl ?_
  refine g_ci C G (g_runV (As := []) (rest := []) (pos := 192) C G M2 (cwV 0 C.1.2.2.2.2 gL_law_X8_load rfl rfl rfl (by decide +kernel) ⟨Nat.le_of_ble_eq_true rfl, Nat.le_of_ble_eq_true rfl⟩) (by omega) hm1 (T := TX8) (N := 17) rfl rfl hl rfl (Nat.le_of_ble_eq_true rfl) dL_law_262 ⟨by show _ ≤ 601024; omega, by show _ ≤ 7293034; omega⟩) (fun zm g2 H locs hz2 G => ?_)
  obtain ⟨hLI, hzr, o8, ho8, hv8⟩ := hk2 zm g2 hz2
  obtain ⟨fs2, hm2, M3⟩ := hLI.thr l B
  refine lv_istore (lv' := [(6, .int (iz zm)), (5, .int (iz z)), (4, .int (iz (5 * (j : Int)))), (0, .ref b), (1, .ref (ad 0)), (2, .ref (ad 192)), (3, .ref (ad 200))]) C.1.1 C.1.2.1 dL_law_265 hl (by decide) rfl (fun ls hl => ?_)
  refine g_aload_n C dL_law_267 rfl hl 5 rfl ?_
  refine g_ci C G (g_runV (As := []) (rest := []) (pos := 192) C G M3 (cwV 0 C.1.2.2.2.2 gL_law_X8_thrown rfl rfl rfl (by decide +kernel) ⟨Nat.le_of_ble_eq_true rfl, Nat.le_of_ble_eq_true rfl⟩) (by omega) hm2 (T := TX8) (N := 17) rfl rfl hl rfl (Nat.le_of_ble_eq_true rfl) dL_law_268 ⟨by show _ ≤ 601024; omega, by show _ ≤ 7293034; omega⟩) (fun zt g3 H locs hz3 G => ?_)
  obtain ⟨hg3, hzt⟩ := hz3
  rw [hg3] at G
  rw [hzt]
  refine g_iload C dL_law_271 hl 1 rfl ?_
  refine g_icmp_eq (tgt := 278) C (by omega) (by omega) dL_law_273 (by decide) (fun _ => ?_) (fun q => absurd rfl q)
  refine g_iload C dL_law_278 hl 1 rfl ?_
  refine g_if_ne (tgt := 295) C (by omega) dL_law_280 (by decide) (fun hz0 => ?_) (fun hz0 => ?_)
  · refine g_goto (tgt := 1950) C dL_law_295 (by decide) ?_
    refine W.widen (k := 210 + 3 * j + 3) (n := 33000 + 15 * j + 15) (by omega) (by omega) ?_
    exact kk g2 z H locs ls hLI ⟨o8, ho8⟩ G (lv_sub hl [2, 3, 4, 5, 6] rfl)
  · refine g_aload_n C dL_law_283 rfl hl 6 rfl ?_
    refine g_iconst (a := 0) C dL_law_284 rfl ?_
    refine g_laload C G (pos := 200) (by omega) ho8 (by decide) (by decide) (by decide) dL_law_285 ?_
    rw [hv8 (by omega)]
    refine g_iload C dL_law_286 hl 0 rfl ?_
    rw [iz_rI zm]
    refine g_i2l C (rI_in zm) dL_law_288 ?_
    have hri := rI_in zm
    refine g_lcmp C (by omega) (by omega) dL_law_289 (fun zc hc => ?_)
    refine g_if_eq (tgt := 295) C (by omega) dL_law_290 (by decide) (fun _ => ?_) (fun q => absurd q (by omega))
    refine g_goto (tgt := 1950) C dL_law_295 (by decide) ?_
    refine W.widen (k := 210 + 3 * j + 3) (n := 33000 + 15 * j + 15) (by omega) (by omega) ?_
    exact kk g2 z H locs ls hLI ⟨o8, ho8⟩ G (lv_sub hl [2, 3, 4, 5, 6] rfl)
set_option maxHeartbeats 4000000 in
set_option maxRecDepth 100000 in
theorem lc_about (hlf : l.stackTraces = false) (C : gC p c cL_law 7 s m args wsL_law RL κ B 201 ad) (X : gX B s) (N9 : gNc s) (hXs : va_X b L xs s s.heap) (hbl : b < s.heap.size) (hB : B = s.heap.size) (hL : L ≤ 2560) {j : Nat} (hj : 5 * j + 5 ≤ L) (h : LI κ ad g th (1000 * (j : Int))) {o9 : Int → Int64} (ho : g 200 = aJ κ 1 o9) (G : gG κ B 201 ad s g H locs) (hl : lv_has ls 7 [(4, .int (iz (5 * (j : Int)))), (0, .ref b), (1, .ref (ad 0)), (2, .ref (ad 192)), (3, .ref (ad 200))]) (kk : ∀ (g : Nat → va_E) (th : Int) (H : Heap) (locs : List Loc) (ls : Array Slot), LI κ ad g th (1000 * (j : Int) + 1000) → (∃ o9 : Int → Int64, g 200 = aJ κ 1 o9) → gG κ B 201 ad s g H locs → lv_has ls 7 [(4, .int (iz (5 * (j : Int)))), (0, .ref b), (1, .ref (ad 0)), (2, .ref (ad 192)), (3, .ref (ad 200))] → W p l e room_1 s m args below meth c H locs (210 + 3 * j + 3) (33000 + 15 * j + 15) Q (F0 m 1950 ls [])) : W p l e room_1 s m args below meth c H locs (210 + 3 * j) (33000 + 15 * j) Q (F0 m 298 ls []) := by
  refine g_aload_n C dL_law_298 rfl hl 2 rfl ?_
  refine g_aload_n C dL_law_299 rfl hl 1 rfl ?_
  refine g_iload C dL_law_300 hl 0 rfl ?_
  refine g_iconst (a := 1) C dL_law_302 rfl ?_
  refine g_iadd C dL_law_303 ?_
  refine g_sld C G hXs hbl hB (by omega) (by omega) hL dL_law_304 ?_
  refine g_aload_n C dL_law_305 rfl hl 4 rfl ?_
  obtain ⟨CL, M1, hk1⟩ := op_about l hlf κ B ad g th (1000 * (j : Int)) (sxF xs ((5 * (j : Int)) + 1)) (sxF_in _ _) (by omega) h ho
  refine g_ci C G (g_runSY (As := [.ref (ad 0), .int (iz (sxF xs ((5 * (j : Int)) + 1))), .ref (ad 200)]) (rest := []) C G X N9 M1 (vx_cwSW (hh := [(0, 9, 12, 13)]) 3 C.1.2.2.2.2 gL_law_L_about rfl rfl rfl (by decide +kernel) ⟨Nat.le_of_ble_eq_true rfl, Nat.le_of_ble_eq_true rfl⟩) rfl hl rfl (Nat.le_of_ble_eq_true rfl) dL_law_306 ⟨by show _ ≤ 601024; omega, by show _ ≤ 7293034; omega⟩) (fun z g1 H locs hz G => ?_)
  obtain ⟨⟨fs1, hm1⟩, MP, M2, hk2⟩ := hk1 z g1 hz
  refine lv_istore (lv' := [(5, .int (iz z)), (4, .int (iz (5 * (j : Int)))), (0, .ref b), (1, .ref (ad 0)), (2, .ref (ad 192)), (3, .ref (ad 200))]) C.1.1 C.1.2.1 dL_law_309 hl (by decide) rfl (fun ls hl => ?_)
  refine g_aload_n C dL_law_311 rfl hl 4 rfl ?_
  refine g_aload_n C dL_law_312 rfl hl 2 rfl ?_
  refine g_iload C dL_law_313 hl 1 rfl ?_
  refine g_iconst (a := 1) C dL_law_315 rfl ?_
  refine g_iadd C dL_law_316 ?_
  refine g_sld C G hXs hbl hB (by omega) (by omega) hL dL_law_317 ?_
  refine g_ci C G (g_runV (As := [.int (iz (sxF xs ((5 * (j : Int)) + 1)))]) (rest := []) (pos := 192) C G M2 (cwV 1 C.1.2.2.2.2 gL_law_X8_about rfl rfl rfl (by decide +kernel) ⟨Nat.le_of_ble_eq_true rfl, Nat.le_of_ble_eq_true rfl⟩) (by omega) hm1 (T := TX8) (N := 17) rfl rfl hl rfl (Nat.le_of_ble_eq_true rfl) dL_law_318 ⟨by show _ ≤ 601024; omega, by show _ ≤ 7293034; omega⟩) (fun zm g2 H locs hz2 G => ?_)
  obtain ⟨hLI, hzr, o8, ho8, hv8⟩ := hk2 zm g2 hz2
  obtain ⟨fs2, hm2, M3⟩ := hLI.thr l B
  refine lv_istore (lv' := [(6, .int (iz zm)), (5, .int (iz z)), (4, .int (iz (5 * (j : Int)))), (0, .ref b), (1, .ref (ad 0)), (2, .ref (ad 192)), (3, .ref (ad 200))]) C.1.1 C.1.2.1 dL_law_321 hl (by decide) rfl (fun ls hl => ?_)
  refine g_aload_n C dL_law_323 rfl hl 5 rfl ?_
  refine g_ci C G (g_runV (As := []) (rest := []) (pos := 192) C G M3 (cwV 0 C.1.2.2.2.2 gL_law_X8_thrown rfl rfl rfl (by decide +kernel) ⟨Nat.le_of_ble_eq_true rfl, Nat.le_of_ble_eq_true rfl⟩) (by omega) hm2 (T := TX8) (N := 17) rfl rfl hl rfl (Nat.le_of_ble_eq_true rfl) dL_law_324 ⟨by show _ ≤ 601024; omega, by show _ ≤ 7293034; omega⟩) (fun zt g3 H locs hz3 G => ?_)
  obtain ⟨hg3, hzt⟩ := hz3
  rw [hg3] at G
  rw [hzt]
  refine g_iload C dL_law_327 hl 1 rfl ?_
  refine g_icmp_eq (tgt := 334) C (by omega) (by omega) dL_law_329 (by decide) (fun _ => ?_) (fun q => absurd rfl q)
  refine g_iload C dL_law_334 hl 1 rfl ?_
  refine g_if_ne (tgt := 351) C (by omega) dL_law_336 (by decide) (fun hz0 => ?_) (fun hz0 => ?_)
  · refine g_goto (tgt := 1950) C dL_law_351 (by decide) ?_
    refine W.widen (k := 210 + 3 * j + 3) (n := 33000 + 15 * j + 15) (by omega) (by omega) ?_
    exact kk g2 z H locs ls hLI ⟨o8, ho8⟩ G (lv_sub hl [2, 3, 4, 5, 6] rfl)
  · refine g_aload_n C dL_law_339 rfl hl 6 rfl ?_
    refine g_iconst (a := 0) C dL_law_340 rfl ?_
    refine g_laload C G (pos := 200) (by omega) ho8 (by decide) (by decide) (by decide) dL_law_341 ?_
    rw [hv8 (by omega)]
    refine g_iload C dL_law_342 hl 0 rfl ?_
    rw [iz_rI zm]
    refine g_i2l C (rI_in zm) dL_law_344 ?_
    have hri := rI_in zm
    refine g_lcmp C (by omega) (by omega) dL_law_345 (fun zc hc => ?_)
    refine g_if_eq (tgt := 351) C (by omega) dL_law_346 (by decide) (fun _ => ?_) (fun q => absurd q (by omega))
    refine g_goto (tgt := 1950) C dL_law_351 (by decide) ?_
    refine W.widen (k := 210 + 3 * j + 3) (n := 33000 + 15 * j + 15) (by omega) (by omega) ?_
    exact kk g2 z H locs ls hLI ⟨o8, ho8⟩ G (lv_sub hl [2, 3, 4, 5, 6] rfl)
set_option maxHeartbeats 4000000 in
set_option maxRecDepth 100000 in
theorem lc_layer (hlf : l.stackTraces = false) (C : gC p c cL_law 7 s m args wsL_law RL κ B 201 ad) (X : gX B s) (N9 : gNc s) (hXs : va_X b L xs s s.heap) (hbl : b < s.heap.size) (hB : B = s.heap.size) (hL : L ≤ 2560) {j : Nat} (hj : 5 * j + 5 ≤ L) (h : LI κ ad g th (1000 * (j : Int))) {o9 : Int → Int64} (ho : g 200 = aJ κ 1 o9) (G : gG κ B 201 ad s g H locs) (hl : lv_has ls 7 [(4, .int (iz (5 * (j : Int)))), (0, .ref b), (1, .ref (ad 0)), (2, .ref (ad 192)), (3, .ref (ad 200))]) (kk : ∀ (g : Nat → va_E) (th : Int) (H : Heap) (locs : List Loc) (ls : Array Slot), LI κ ad g th (1000 * (j : Int) + 1000) → (∃ o9 : Int → Int64, g 200 = aJ κ 1 o9) → gG κ B 201 ad s g H locs → lv_has ls 7 [(4, .int (iz (5 * (j : Int)))), (0, .ref b), (1, .ref (ad 0)), (2, .ref (ad 192)), (3, .ref (ad 200))] → W p l e room_1 s m args below meth c H locs (210 + 3 * j + 3) (33000 + 15 * j + 15) Q (F0 m 1950 ls [])) : W p l e room_1 s m args below meth c H locs (210 + 3 * j) (33000 + 15 * j) Q (F0 m 354 ls []) := by
  refine g_aload_n C dL_law_354 rfl hl 2 rfl ?_
  refine g_aload_n C dL_law_355 rfl hl 1 rfl ?_
  refine g_iload C dL_law_356 hl 0 rfl ?_
  refine g_iconst (a := 1) C dL_law_358 rfl ?_
  refine g_iadd C dL_law_359 ?_
  refine g_sld C G hXs hbl hB (by omega) (by omega) hL dL_law_360 ?_
  refine g_aload_n C dL_law_361 rfl hl 1 rfl ?_
  refine g_iload C dL_law_362 hl 0 rfl ?_
  refine g_iconst (a := 2) C dL_law_364 rfl ?_
  refine g_iadd C dL_law_365 ?_
  refine g_sld C G hXs hbl hB (by omega) (by omega) hL dL_law_366 ?_
  refine g_aload_n C dL_law_367 rfl hl 4 rfl ?_
  obtain ⟨CL, M1, hk1⟩ := op_layer l hlf κ B ad g th (1000 * (j : Int)) (sxF xs ((5 * (j : Int)) + 1)) (sxF xs ((5 * (j : Int)) + 2)) (sxF_in _ _) (sxF_in _ _) (by omega) h ho
  refine g_ci C G (g_runSY (As := [.ref (ad 0), .int (iz (sxF xs ((5 * (j : Int)) + 1))), .int (iz (sxF xs ((5 * (j : Int)) + 2))), .ref (ad 200)]) (rest := []) C G X N9 M1 (vx_cwSW (hh := [(0, 10, 13, 28), (0, 10, 17, 13)]) 4 C.1.2.2.2.2 gL_law_L_layer rfl rfl rfl (by decide +kernel) ⟨Nat.le_of_ble_eq_true rfl, Nat.le_of_ble_eq_true rfl⟩) rfl hl rfl (Nat.le_of_ble_eq_true rfl) dL_law_368 ⟨by show _ ≤ 601024; omega, by show _ ≤ 7293034; omega⟩) (fun z g1 H locs hz G => ?_)
  obtain ⟨⟨fs1, hm1⟩, MP, M2, hk2⟩ := hk1 z g1 hz
  refine lv_istore (lv' := [(5, .int (iz z)), (4, .int (iz (5 * (j : Int)))), (0, .ref b), (1, .ref (ad 0)), (2, .ref (ad 192)), (3, .ref (ad 200))]) C.1.1 C.1.2.1 dL_law_371 hl (by decide) rfl (fun ls hl => ?_)
  refine g_aload_n C dL_law_373 rfl hl 4 rfl ?_
  refine g_aload_n C dL_law_374 rfl hl 2 rfl ?_
  refine g_iload C dL_law_375 hl 1 rfl ?_
  refine g_iconst (a := 1) C dL_law_377 rfl ?_
  refine g_iadd C dL_law_378 ?_
  refine g_sld C G hXs hbl hB (by omega) (by omega) hL dL_law_379 ?_
  refine g_aload_n C dL_law_380 rfl hl 2 rfl ?_
  refine g_iload C dL_law_381 hl 1 rfl ?_
  refine g_iconst (a := 2) C dL_law_383 rfl ?_
  refine g_iadd C dL_law_384 ?_
  refine g_sld C G hXs hbl hB (by omega) (by omega) hL dL_law_385 ?_
  refine g_ci C G (g_runV (As := [.int (iz (sxF xs ((5 * (j : Int)) + 1))), .int (iz (sxF xs ((5 * (j : Int)) + 2)))]) (rest := []) (pos := 192) C G M2 (cwV 2 C.1.2.2.2.2 gL_law_X8_layer rfl rfl rfl (by decide +kernel) ⟨Nat.le_of_ble_eq_true rfl, Nat.le_of_ble_eq_true rfl⟩) (by omega) hm1 (T := TX8) (N := 17) rfl rfl hl rfl (Nat.le_of_ble_eq_true rfl) dL_law_386 ⟨by show _ ≤ 601024; omega, by show _ ≤ 7293034; omega⟩) (fun zm g2 H locs hz2 G => ?_)
  obtain ⟨hLI, hzr, o8, ho8, hv8⟩ := hk2 zm g2 hz2
  obtain ⟨fs2, hm2, M3⟩ := hLI.thr l B
  refine lv_istore (lv' := [(6, .int (iz zm)), (5, .int (iz z)), (4, .int (iz (5 * (j : Int)))), (0, .ref b), (1, .ref (ad 0)), (2, .ref (ad 192)), (3, .ref (ad 200))]) C.1.1 C.1.2.1 dL_law_389 hl (by decide) rfl (fun ls hl => ?_)
  refine g_aload_n C dL_law_391 rfl hl 5 rfl ?_
  refine g_ci C G (g_runV (As := []) (rest := []) (pos := 192) C G M3 (cwV 0 C.1.2.2.2.2 gL_law_X8_thrown rfl rfl rfl (by decide +kernel) ⟨Nat.le_of_ble_eq_true rfl, Nat.le_of_ble_eq_true rfl⟩) (by omega) hm2 (T := TX8) (N := 17) rfl rfl hl rfl (Nat.le_of_ble_eq_true rfl) dL_law_392 ⟨by show _ ≤ 601024; omega, by show _ ≤ 7293034; omega⟩) (fun zt g3 H locs hz3 G => ?_)
  obtain ⟨hg3, hzt⟩ := hz3
  rw [hg3] at G
  rw [hzt]
  refine g_iload C dL_law_395 hl 1 rfl ?_
  refine g_icmp_eq (tgt := 402) C (by omega) (by omega) dL_law_397 (by decide) (fun _ => ?_) (fun q => absurd rfl q)
  refine g_iload C dL_law_402 hl 1 rfl ?_
  refine g_if_ne (tgt := 419) C (by omega) dL_law_404 (by decide) (fun hz0 => ?_) (fun hz0 => ?_)
  · refine g_goto (tgt := 1950) C dL_law_419 (by decide) ?_
    refine W.widen (k := 210 + 3 * j + 3) (n := 33000 + 15 * j + 15) (by omega) (by omega) ?_
    exact kk g2 z H locs ls hLI ⟨o8, ho8⟩ G (lv_sub hl [2, 3, 4, 5, 6] rfl)
  · refine g_aload_n C dL_law_407 rfl hl 6 rfl ?_
    refine g_iconst (a := 0) C dL_law_408 rfl ?_
    refine g_laload C G (pos := 200) (by omega) ho8 (by decide) (by decide) (by decide) dL_law_409 ?_
    rw [hv8 (by omega)]
    refine g_iload C dL_law_410 hl 0 rfl ?_
    rw [iz_rI zm]
    refine g_i2l C (rI_in zm) dL_law_412 ?_
    have hri := rI_in zm
    refine g_lcmp C (by omega) (by omega) dL_law_413 (fun zc hc => ?_)
    refine g_if_eq (tgt := 419) C (by omega) dL_law_414 (by decide) (fun _ => ?_) (fun q => absurd q (by omega))
    refine g_goto (tgt := 1950) C dL_law_419 (by decide) ?_
    refine W.widen (k := 210 + 3 * j + 3) (n := 33000 + 15 * j + 15) (by omega) (by omega) ?_
    exact kk g2 z H locs ls hLI ⟨o8, ho8⟩ G (lv_sub hl [2, 3, 4, 5, 6] rfl)
set_option maxHeartbeats 4000000 in
set_option maxRecDepth 100000 in
theorem lc_pen (hlf : l.stackTraces = false) (C : gC p c cL_law 7 s m args wsL_law RL κ B 201 ad) (X : gX B s) (N9 : gNc s) (hXs : va_X b L xs s s.heap) (hbl : b < s.heap.size) (hB : B = s.heap.size) (hL : L ≤ 2560) {j : Nat} (hj : 5 * j + 5 ≤ L) (h : LI κ ad g th (1000 * (j : Int))) {o9 : Int → Int64} (ho : g 200 = aJ κ 1 o9) (G : gG κ B 201 ad s g H locs) (hl : lv_has ls 7 [(4, .int (iz (5 * (j : Int)))), (0, .ref b), (1, .ref (ad 0)), (2, .ref (ad 192)), (3, .ref (ad 200))]) (kk : ∀ (g : Nat → va_E) (th : Int) (H : Heap) (locs : List Loc) (ls : Array Slot), LI κ ad g th (1000 * (j : Int) + 1000) → (∃ o9 : Int → Int64, g 200 = aJ κ 1 o9) → gG κ B 201 ad s g H locs → lv_has ls 7 [(4, .int (iz (5 * (j : Int)))), (0, .ref b), (1, .ref (ad 0)), (2, .ref (ad 192)), (3, .ref (ad 200))] → W p l e room_1 s m args below meth c H locs (210 + 3 * j + 3) (33000 + 15 * j + 15) Q (F0 m 1950 ls [])) : W p l e room_1 s m args below meth c H locs (210 + 3 * j) (33000 + 15 * j) Q (F0 m 422 ls []) := by
  refine g_aload_n C dL_law_422 rfl hl 2 rfl ?_
  refine g_aload_n C dL_law_423 rfl hl 1 rfl ?_
  refine g_iload C dL_law_424 hl 0 rfl ?_
  refine g_iconst (a := 1) C dL_law_426 rfl ?_
  refine g_iadd C dL_law_427 ?_
  refine g_sld C G hXs hbl hB (by omega) (by omega) hL dL_law_428 ?_
  refine g_aload_n C dL_law_429 rfl hl 1 rfl ?_
  refine g_iload C dL_law_430 hl 0 rfl ?_
  refine g_iconst (a := 2) C dL_law_432 rfl ?_
  refine g_iadd C dL_law_433 ?_
  refine g_sld C G hXs hbl hB (by omega) (by omega) hL dL_law_434 ?_
  refine g_i2l C (sxF_in _ _) dL_law_435 ?_
  refine g_bipush (a := 32) C dL_law_436 (by decide) ?_
  refine lv_lshl C.1.1 C.1.2.1 dL_law_438 rfl ?_
  refine g_aload_n C dL_law_439 rfl hl 1 rfl ?_
  refine g_iload C dL_law_440 hl 0 rfl ?_
  refine g_iconst (a := 3) C dL_law_442 rfl ?_
  refine g_iadd C dL_law_443 ?_
  refine g_sld C G hXs hbl hB (by omega) (by omega) hL dL_law_444 ?_
  refine g_i2l C (sxF_in _ _) dL_law_445 ?_
  refine g_ldc2 (a := 4294967295) C (by decide +kernel) dL_law_446 ?_
  refine lv_land C.1.1 C.1.2.1 dL_law_449 ?_
  refine lv_lor C.1.1 C.1.2.1 dL_law_450 ?_
  rw [show (jz (sxF xs ((5 * (j : Int)) + 2)) <<< ((iz 32).toInt64 &&& 63) ||| (jz (sxF xs ((5 * (j : Int)) + 3)) &&& jz 4294967295) : Int64) = jz (lgC (sxF xs ((5 * (j : Int)) + 2)) (sxF xs ((5 * (j : Int)) + 3))) from jz_of _]
  refine g_aload_n C dL_law_451 rfl hl 4 rfl ?_
  obtain ⟨CL, M1, hk1⟩ := op_pen l hlf κ B ad g th (1000 * (j : Int)) (sxF xs ((5 * (j : Int)) + 1)) (lgC (sxF xs ((5 * (j : Int)) + 2)) (sxF xs ((5 * (j : Int)) + 3))) (sxF_in _ _) (lgC_in _ _) (by omega) h ho
  refine g_ci C G (g_runSY (As := [.ref (ad 0), .int (iz (sxF xs ((5 * (j : Int)) + 1))), .long (jz (lgC (sxF xs ((5 * (j : Int)) + 2)) (sxF xs ((5 * (j : Int)) + 3)))), .ref (ad 200)]) (rest := []) C G X N9 M1 (vx_cwSW (hh := [(0, 11, 14, 28), (0, 11, 18, 13)]) 4 C.1.2.2.2.2 gL_law_L_pen rfl rfl rfl (by decide +kernel) ⟨Nat.le_of_ble_eq_true rfl, Nat.le_of_ble_eq_true rfl⟩) rfl hl rfl (Nat.le_of_ble_eq_true rfl) dL_law_452 ⟨by show _ ≤ 601024; omega, by show _ ≤ 7293034; omega⟩) (fun z g1 H locs hz G => ?_)
  obtain ⟨⟨fs1, hm1⟩, MP, M2, hk2⟩ := hk1 z g1 hz
  refine lv_istore (lv' := [(5, .int (iz z)), (4, .int (iz (5 * (j : Int)))), (0, .ref b), (1, .ref (ad 0)), (2, .ref (ad 192)), (3, .ref (ad 200))]) C.1.1 C.1.2.1 dL_law_455 hl (by decide) rfl (fun ls hl => ?_)
  refine g_aload_n C dL_law_457 rfl hl 4 rfl ?_
  refine g_aload_n C dL_law_458 rfl hl 2 rfl ?_
  refine g_iload C dL_law_459 hl 1 rfl ?_
  refine g_iconst (a := 1) C dL_law_461 rfl ?_
  refine g_iadd C dL_law_462 ?_
  refine g_sld C G hXs hbl hB (by omega) (by omega) hL dL_law_463 ?_
  refine g_aload_n C dL_law_464 rfl hl 2 rfl ?_
  refine g_iload C dL_law_465 hl 1 rfl ?_
  refine g_iconst (a := 2) C dL_law_467 rfl ?_
  refine g_iadd C dL_law_468 ?_
  refine g_sld C G hXs hbl hB (by omega) (by omega) hL dL_law_469 ?_
  refine g_i2l C (sxF_in _ _) dL_law_470 ?_
  refine g_bipush (a := 32) C dL_law_471 (by decide) ?_
  refine lv_lshl C.1.1 C.1.2.1 dL_law_473 rfl ?_
  refine g_aload_n C dL_law_474 rfl hl 2 rfl ?_
  refine g_iload C dL_law_475 hl 1 rfl ?_
  refine g_iconst (a := 3) C dL_law_477 rfl ?_
  refine g_iadd C dL_law_478 ?_
  refine g_sld C G hXs hbl hB (by omega) (by omega) hL dL_law_479 ?_
  refine g_i2l C (sxF_in _ _) dL_law_480 ?_
  refine g_ldc2 (a := 4294967295) C (by decide +kernel) dL_law_481 ?_
  refine lv_land C.1.1 C.1.2.1 dL_law_484 ?_
  refine lv_lor C.1.1 C.1.2.1 dL_law_485 ?_
  rw [show (jz (sxF xs ((5 * (j : Int)) + 2)) <<< ((iz 32).toInt64 &&& 63) ||| (jz (sxF xs ((5 * (j : Int)) + 3)) &&& jz 4294967295) : Int64) = jz (lgC (sxF xs ((5 * (j : Int)) + 2)) (sxF xs ((5 * (j : Int)) + 3))) from jz_of _]
  refine g_ci C G (g_runV (As := [.int (iz (sxF xs ((5 * (j : Int)) + 1))), .long (jz (lgC (sxF xs ((5 * (j : Int)) + 2)) (sxF xs ((5 * (j : Int)) + 3))))]) (rest := []) (pos := 192) C G M2 (cwV 2 C.1.2.2.2.2 gL_law_X8_pen rfl rfl rfl (by decide +kernel) ⟨Nat.le_of_ble_eq_true rfl, Nat.le_of_ble_eq_true rfl⟩) (by omega) hm1 (T := TX8) (N := 17) rfl rfl hl rfl (Nat.le_of_ble_eq_true rfl) dL_law_486 ⟨by show _ ≤ 601024; omega, by show _ ≤ 7293034; omega⟩) (fun zm g2 H locs hz2 G => ?_)
  obtain ⟨hLI, hzr, o8, ho8, hv8⟩ := hk2 zm g2 hz2
  obtain ⟨fs2, hm2, M3⟩ := hLI.thr l B
  refine lv_istore (lv' := [(6, .int (iz zm)), (5, .int (iz z)), (4, .int (iz (5 * (j : Int)))), (0, .ref b), (1, .ref (ad 0)), (2, .ref (ad 192)), (3, .ref (ad 200))]) C.1.1 C.1.2.1 dL_law_489 hl (by decide) rfl (fun ls hl => ?_)
  refine g_aload_n C dL_law_491 rfl hl 5 rfl ?_
  refine g_ci C G (g_runV (As := []) (rest := []) (pos := 192) C G M3 (cwV 0 C.1.2.2.2.2 gL_law_X8_thrown rfl rfl rfl (by decide +kernel) ⟨Nat.le_of_ble_eq_true rfl, Nat.le_of_ble_eq_true rfl⟩) (by omega) hm2 (T := TX8) (N := 17) rfl rfl hl rfl (Nat.le_of_ble_eq_true rfl) dL_law_492 ⟨by show _ ≤ 601024; omega, by show _ ≤ 7293034; omega⟩) (fun zt g3 H locs hz3 G => ?_)
  obtain ⟨hg3, hzt⟩ := hz3
  rw [hg3] at G
  rw [hzt]
  refine g_iload C dL_law_495 hl 1 rfl ?_
  refine g_icmp_eq (tgt := 502) C (by omega) (by omega) dL_law_497 (by decide) (fun _ => ?_) (fun q => absurd rfl q)
  refine g_iload C dL_law_502 hl 1 rfl ?_
  refine g_if_ne (tgt := 519) C (by omega) dL_law_504 (by decide) (fun hz0 => ?_) (fun hz0 => ?_)
  · refine g_goto (tgt := 1950) C dL_law_519 (by decide) ?_
    refine W.widen (k := 210 + 3 * j + 3) (n := 33000 + 15 * j + 15) (by omega) (by omega) ?_
    exact kk g2 z H locs ls hLI ⟨o8, ho8⟩ G (lv_sub hl [2, 3, 4, 5, 6] rfl)
  · refine g_aload_n C dL_law_507 rfl hl 6 rfl ?_
    refine g_iconst (a := 0) C dL_law_508 rfl ?_
    refine g_laload C G (pos := 200) (by omega) ho8 (by decide) (by decide) (by decide) dL_law_509 ?_
    rw [hv8 (by omega)]
    refine g_iload C dL_law_510 hl 0 rfl ?_
    rw [iz_rI zm]
    refine g_i2l C (rI_in zm) dL_law_512 ?_
    have hri := rI_in zm
    refine g_lcmp C (by omega) (by omega) dL_law_513 (fun zc hc => ?_)
    refine g_if_eq (tgt := 519) C (by omega) dL_law_514 (by decide) (fun _ => ?_) (fun q => absurd q (by omega))
    refine g_goto (tgt := 1950) C dL_law_519 (by decide) ?_
    refine W.widen (k := 210 + 3 * j + 3) (n := 33000 + 15 * j + 15) (by omega) (by omega) ?_
    exact kk g2 z H locs ls hLI ⟨o8, ho8⟩ G (lv_sub hl [2, 3, 4, 5, 6] rfl)
set_option maxHeartbeats 4000000 in
set_option maxRecDepth 100000 in
theorem lc_comes (hlf : l.stackTraces = false) (C : gC p c cL_law 7 s m args wsL_law RL κ B 201 ad) (X : gX B s) (N9 : gNc s) (hXs : va_X b L xs s s.heap) (hbl : b < s.heap.size) (hB : B = s.heap.size) (hL : L ≤ 2560) {j : Nat} (hj : 5 * j + 5 ≤ L) (h : LI κ ad g th (1000 * (j : Int))) {o9 : Int → Int64} (ho : g 200 = aJ κ 1 o9) (G : gG κ B 201 ad s g H locs) (hl : lv_has ls 7 [(4, .int (iz (5 * (j : Int)))), (0, .ref b), (1, .ref (ad 0)), (2, .ref (ad 192)), (3, .ref (ad 200))]) (kk : ∀ (g : Nat → va_E) (th : Int) (H : Heap) (locs : List Loc) (ls : Array Slot), LI κ ad g th (1000 * (j : Int) + 1000) → (∃ o9 : Int → Int64, g 200 = aJ κ 1 o9) → gG κ B 201 ad s g H locs → lv_has ls 7 [(4, .int (iz (5 * (j : Int)))), (0, .ref b), (1, .ref (ad 0)), (2, .ref (ad 192)), (3, .ref (ad 200))] → W p l e room_1 s m args below meth c H locs (210 + 3 * j + 3) (33000 + 15 * j + 15) Q (F0 m 1950 ls [])) : W p l e room_1 s m args below meth c H locs (210 + 3 * j) (33000 + 15 * j) Q (F0 m 522 ls []) := by
  refine g_aload_n C dL_law_522 rfl hl 2 rfl ?_
  refine g_aload_n C dL_law_523 rfl hl 1 rfl ?_
  refine g_iload C dL_law_524 hl 0 rfl ?_
  refine g_iconst (a := 1) C dL_law_526 rfl ?_
  refine g_iadd C dL_law_527 ?_
  refine g_sld C G hXs hbl hB (by omega) (by omega) hL dL_law_528 ?_
  refine g_aload_n C dL_law_529 rfl hl 1 rfl ?_
  refine g_iload C dL_law_530 hl 0 rfl ?_
  refine g_iconst (a := 2) C dL_law_532 rfl ?_
  refine g_iadd C dL_law_533 ?_
  refine g_sld C G hXs hbl hB (by omega) (by omega) hL dL_law_534 ?_
  refine g_aload_n C dL_law_535 rfl hl 1 rfl ?_
  refine g_iload C dL_law_536 hl 0 rfl ?_
  refine g_iconst (a := 3) C dL_law_538 rfl ?_
  refine g_iadd C dL_law_539 ?_
  refine g_sld C G hXs hbl hB (by omega) (by omega) hL dL_law_540 ?_
  refine g_aload_n C dL_law_541 rfl hl 4 rfl ?_
  obtain ⟨CL, M1, hk1⟩ := op_comes l hlf κ B ad g th (1000 * (j : Int)) (sxF xs ((5 * (j : Int)) + 1)) (sxF xs ((5 * (j : Int)) + 2)) (sxF xs ((5 * (j : Int)) + 3)) (sxF_in _ _) (sxF_in _ _) (sxF_in _ _) (by omega) h ho
  refine g_ci C G (g_runSY (As := [.ref (ad 0), .int (iz (sxF xs ((5 * (j : Int)) + 1))), .int (iz (sxF xs ((5 * (j : Int)) + 2))), .int (iz (sxF xs ((5 * (j : Int)) + 3))), .ref (ad 200)]) (rest := []) C G X N9 M1 (vx_cwSW (hh := [(0, 12, 15, 28), (0, 12, 19, 13)]) 5 C.1.2.2.2.2 gL_law_L_comes rfl rfl rfl (by decide +kernel) ⟨Nat.le_of_ble_eq_true rfl, Nat.le_of_ble_eq_true rfl⟩) rfl hl rfl (Nat.le_of_ble_eq_true rfl) dL_law_542 ⟨by show _ ≤ 601024; omega, by show _ ≤ 7293034; omega⟩) (fun z g1 H locs hz G => ?_)
  obtain ⟨⟨fs1, hm1⟩, MP, M2, hk2⟩ := hk1 z g1 hz
  refine lv_istore (lv' := [(5, .int (iz z)), (4, .int (iz (5 * (j : Int)))), (0, .ref b), (1, .ref (ad 0)), (2, .ref (ad 192)), (3, .ref (ad 200))]) C.1.1 C.1.2.1 dL_law_545 hl (by decide) rfl (fun ls hl => ?_)
  refine g_aload_n C dL_law_547 rfl hl 4 rfl ?_
  refine g_aload_n C dL_law_548 rfl hl 2 rfl ?_
  refine g_iload C dL_law_549 hl 1 rfl ?_
  refine g_iconst (a := 1) C dL_law_551 rfl ?_
  refine g_iadd C dL_law_552 ?_
  refine g_sld C G hXs hbl hB (by omega) (by omega) hL dL_law_553 ?_
  refine g_aload_n C dL_law_554 rfl hl 2 rfl ?_
  refine g_iload C dL_law_555 hl 1 rfl ?_
  refine g_iconst (a := 2) C dL_law_557 rfl ?_
  refine g_iadd C dL_law_558 ?_
  refine g_sld C G hXs hbl hB (by omega) (by omega) hL dL_law_559 ?_
  refine g_aload_n C dL_law_560 rfl hl 2 rfl ?_
  refine g_iload C dL_law_561 hl 1 rfl ?_
  refine g_iconst (a := 3) C dL_law_563 rfl ?_
  refine g_iadd C dL_law_564 ?_
  refine g_sld C G hXs hbl hB (by omega) (by omega) hL dL_law_565 ?_
  refine g_ci C G (g_runV (As := [.int (iz (sxF xs ((5 * (j : Int)) + 1))), .int (iz (sxF xs ((5 * (j : Int)) + 2))), .int (iz (sxF xs ((5 * (j : Int)) + 3)))]) (rest := []) (pos := 192) C G M2 (cwV 3 C.1.2.2.2.2 gL_law_X8_comes rfl rfl rfl (by decide +kernel) ⟨Nat.le_of_ble_eq_true rfl, Nat.le_of_ble_eq_true rfl⟩) (by omega) hm1 (T := TX8) (N := 17) rfl rfl hl rfl (Nat.le_of_ble_eq_true rfl) dL_law_566 ⟨by show _ ≤ 601024; omega, by show _ ≤ 7293034; omega⟩) (fun zm g2 H locs hz2 G => ?_)
  obtain ⟨hLI, hzr, o8, ho8, hv8⟩ := hk2 zm g2 hz2
  obtain ⟨fs2, hm2, M3⟩ := hLI.thr l B
  refine lv_istore (lv' := [(6, .int (iz zm)), (5, .int (iz z)), (4, .int (iz (5 * (j : Int)))), (0, .ref b), (1, .ref (ad 0)), (2, .ref (ad 192)), (3, .ref (ad 200))]) C.1.1 C.1.2.1 dL_law_569 hl (by decide) rfl (fun ls hl => ?_)
  refine g_aload_n C dL_law_571 rfl hl 5 rfl ?_
  refine g_ci C G (g_runV (As := []) (rest := []) (pos := 192) C G M3 (cwV 0 C.1.2.2.2.2 gL_law_X8_thrown rfl rfl rfl (by decide +kernel) ⟨Nat.le_of_ble_eq_true rfl, Nat.le_of_ble_eq_true rfl⟩) (by omega) hm2 (T := TX8) (N := 17) rfl rfl hl rfl (Nat.le_of_ble_eq_true rfl) dL_law_572 ⟨by show _ ≤ 601024; omega, by show _ ≤ 7293034; omega⟩) (fun zt g3 H locs hz3 G => ?_)
  obtain ⟨hg3, hzt⟩ := hz3
  rw [hg3] at G
  rw [hzt]
  refine g_iload C dL_law_575 hl 1 rfl ?_
  refine g_icmp_eq (tgt := 582) C (by omega) (by omega) dL_law_577 (by decide) (fun _ => ?_) (fun q => absurd rfl q)
  refine g_iload C dL_law_582 hl 1 rfl ?_
  refine g_if_ne (tgt := 599) C (by omega) dL_law_584 (by decide) (fun hz0 => ?_) (fun hz0 => ?_)
  · refine g_goto (tgt := 1950) C dL_law_599 (by decide) ?_
    refine W.widen (k := 210 + 3 * j + 3) (n := 33000 + 15 * j + 15) (by omega) (by omega) ?_
    exact kk g2 z H locs ls hLI ⟨o8, ho8⟩ G (lv_sub hl [2, 3, 4, 5, 6] rfl)
  · refine g_aload_n C dL_law_587 rfl hl 6 rfl ?_
    refine g_iconst (a := 0) C dL_law_588 rfl ?_
    refine g_laload C G (pos := 200) (by omega) ho8 (by decide) (by decide) (by decide) dL_law_589 ?_
    rw [hv8 (by omega)]
    refine g_iload C dL_law_590 hl 0 rfl ?_
    rw [iz_rI zm]
    refine g_i2l C (rI_in zm) dL_law_592 ?_
    have hri := rI_in zm
    refine g_lcmp C (by omega) (by omega) dL_law_593 (fun zc hc => ?_)
    refine g_if_eq (tgt := 599) C (by omega) dL_law_594 (by decide) (fun _ => ?_) (fun q => absurd q (by omega))
    refine g_goto (tgt := 1950) C dL_law_599 (by decide) ?_
    refine W.widen (k := 210 + 3 * j + 3) (n := 33000 + 15 * j + 15) (by omega) (by omega) ?_
    exact kk g2 z H locs ls hLI ⟨o8, ho8⟩ G (lv_sub hl [2, 3, 4, 5, 6] rfl)
set_option maxHeartbeats 4000000 in
set_option maxRecDepth 100000 in
theorem lc_at (hlf : l.stackTraces = false) (C : gC p c cL_law 7 s m args wsL_law RL κ B 201 ad) (X : gX B s) (N9 : gNc s) (hXs : va_X b L xs s s.heap) (hbl : b < s.heap.size) (hB : B = s.heap.size) (hL : L ≤ 2560) {j : Nat} (hj : 5 * j + 5 ≤ L) (h : LI κ ad g th (1000 * (j : Int))) {o9 : Int → Int64} (ho : g 200 = aJ κ 1 o9) (G : gG κ B 201 ad s g H locs) (hl : lv_has ls 7 [(4, .int (iz (5 * (j : Int)))), (0, .ref b), (1, .ref (ad 0)), (2, .ref (ad 192)), (3, .ref (ad 200))]) (kk : ∀ (g : Nat → va_E) (th : Int) (H : Heap) (locs : List Loc) (ls : Array Slot), LI κ ad g th (1000 * (j : Int) + 1000) → (∃ o9 : Int → Int64, g 200 = aJ κ 1 o9) → gG κ B 201 ad s g H locs → lv_has ls 7 [(4, .int (iz (5 * (j : Int)))), (0, .ref b), (1, .ref (ad 0)), (2, .ref (ad 192)), (3, .ref (ad 200))] → W p l e room_1 s m args below meth c H locs (210 + 3 * j + 3) (33000 + 15 * j + 15) Q (F0 m 1950 ls [])) : W p l e room_1 s m args below meth c H locs (210 + 3 * j) (33000 + 15 * j) Q (F0 m 602 ls []) := by
  refine g_aload_n C dL_law_602 rfl hl 2 rfl ?_
  refine g_aload_n C dL_law_603 rfl hl 1 rfl ?_
  refine g_iload C dL_law_604 hl 0 rfl ?_
  refine g_iconst (a := 1) C dL_law_606 rfl ?_
  refine g_iadd C dL_law_607 ?_
  refine g_sld C G hXs hbl hB (by omega) (by omega) hL dL_law_608 ?_
  refine g_aload_n C dL_law_609 rfl hl 4 rfl ?_
  obtain ⟨CL, M1, hk1⟩ := op_at l hlf κ B ad g th (1000 * (j : Int)) (sxF xs ((5 * (j : Int)) + 1)) (sxF_in _ _) (by omega) h ho
  refine g_ci C G (g_runSY (As := [.ref (ad 0), .int (iz (sxF xs ((5 * (j : Int)) + 1))), .ref (ad 200)]) (rest := []) C G X N9 M1 (vx_cwSW (hh := [(0, 9, 12, 13)]) 3 C.1.2.2.2.2 gL_law_L_at rfl rfl rfl (by decide +kernel) ⟨Nat.le_of_ble_eq_true rfl, Nat.le_of_ble_eq_true rfl⟩) rfl hl rfl (Nat.le_of_ble_eq_true rfl) dL_law_610 ⟨by show _ ≤ 601024; omega, by show _ ≤ 7293034; omega⟩) (fun z g1 H locs hz G => ?_)
  obtain ⟨⟨fs1, hm1⟩, MP, M2, hk2⟩ := hk1 z g1 hz
  refine lv_istore (lv' := [(5, .int (iz z)), (4, .int (iz (5 * (j : Int)))), (0, .ref b), (1, .ref (ad 0)), (2, .ref (ad 192)), (3, .ref (ad 200))]) C.1.1 C.1.2.1 dL_law_613 hl (by decide) rfl (fun ls hl => ?_)
  refine g_aload_n C dL_law_615 rfl hl 4 rfl ?_
  refine g_aload_n C dL_law_616 rfl hl 2 rfl ?_
  refine g_iload C dL_law_617 hl 1 rfl ?_
  refine g_iconst (a := 1) C dL_law_619 rfl ?_
  refine g_iadd C dL_law_620 ?_
  refine g_sld C G hXs hbl hB (by omega) (by omega) hL dL_law_621 ?_
  refine g_ci C G (g_runV (As := [.int (iz (sxF xs ((5 * (j : Int)) + 1)))]) (rest := []) (pos := 192) C G M2 (cwV 1 C.1.2.2.2.2 gL_law_X8_at rfl rfl rfl (by decide +kernel) ⟨Nat.le_of_ble_eq_true rfl, Nat.le_of_ble_eq_true rfl⟩) (by omega) hm1 (T := TX8) (N := 17) rfl rfl hl rfl (Nat.le_of_ble_eq_true rfl) dL_law_622 ⟨by show _ ≤ 601024; omega, by show _ ≤ 7293034; omega⟩) (fun zm g2 H locs hz2 G => ?_)
  obtain ⟨hLI, hzr, o8, ho8, hv8⟩ := hk2 zm g2 hz2
  obtain ⟨fs2, hm2, M3⟩ := hLI.thr l B
  refine lv_istore (lv' := [(6, .int (iz zm)), (5, .int (iz z)), (4, .int (iz (5 * (j : Int)))), (0, .ref b), (1, .ref (ad 0)), (2, .ref (ad 192)), (3, .ref (ad 200))]) C.1.1 C.1.2.1 dL_law_625 hl (by decide) rfl (fun ls hl => ?_)
  refine g_aload_n C dL_law_627 rfl hl 5 rfl ?_
  refine g_ci C G (g_runV (As := []) (rest := []) (pos := 192) C G M3 (cwV 0 C.1.2.2.2.2 gL_law_X8_thrown rfl rfl rfl (by decide +kernel) ⟨Nat.le_of_ble_eq_true rfl, Nat.le_of_ble_eq_true rfl⟩) (by omega) hm2 (T := TX8) (N := 17) rfl rfl hl rfl (Nat.le_of_ble_eq_true rfl) dL_law_628 ⟨by show _ ≤ 601024; omega, by show _ ≤ 7293034; omega⟩) (fun zt g3 H locs hz3 G => ?_)
  obtain ⟨hg3, hzt⟩ := hz3
  rw [hg3] at G
  rw [hzt]
  refine g_iload C dL_law_631 hl 1 rfl ?_
  refine g_icmp_eq (tgt := 638) C (by omega) (by omega) dL_law_633 (by decide) (fun _ => ?_) (fun q => absurd rfl q)
  refine g_iload C dL_law_638 hl 1 rfl ?_
  refine g_if_ne (tgt := 655) C (by omega) dL_law_640 (by decide) (fun hz0 => ?_) (fun hz0 => ?_)
  · refine g_goto (tgt := 1950) C dL_law_655 (by decide) ?_
    refine W.widen (k := 210 + 3 * j + 3) (n := 33000 + 15 * j + 15) (by omega) (by omega) ?_
    exact kk g2 z H locs ls hLI ⟨o8, ho8⟩ G (lv_sub hl [2, 3, 4, 5, 6] rfl)
  · refine g_aload_n C dL_law_643 rfl hl 6 rfl ?_
    refine g_iconst (a := 0) C dL_law_644 rfl ?_
    refine g_laload C G (pos := 200) (by omega) ho8 (by decide) (by decide) (by decide) dL_law_645 ?_
    rw [hv8 (by omega)]
    refine g_iload C dL_law_646 hl 0 rfl ?_
    rw [iz_rI zm]
    refine g_i2l C (rI_in zm) dL_law_648 ?_
    have hri := rI_in zm
    refine g_lcmp C (by omega) (by omega) dL_law_649 (fun zc hc => ?_)
    refine g_if_eq (tgt := 655) C (by omega) dL_law_650 (by decide) (fun _ => ?_) (fun q => absurd q (by omega))
    refine g_goto (tgt := 1950) C dL_law_655 (by decide) ?_
    refine W.widen (k := 210 + 3 * j + 3) (n := 33000 + 15 * j + 15) (by omega) (by omega) ?_
    exact kk g2 z H locs ls hLI ⟨o8, ho8⟩ G (lv_sub hl [2, 3, 4, 5, 6] rfl)
set_option maxHeartbeats 4000000 in
set_option maxRecDepth 100000 in
theorem lc_blank (hlf : l.stackTraces = false) (C : gC p c cL_law 7 s m args wsL_law RL κ B 201 ad) (X : gX B s) (N9 : gNc s) (hXs : va_X b L xs s s.heap) (hbl : b < s.heap.size) (hB : B = s.heap.size) (hL : L ≤ 2560) {j : Nat} (hj : 5 * j + 5 ≤ L) (h : LI κ ad g th (1000 * (j : Int))) {o9 : Int → Int64} (ho : g 200 = aJ κ 1 o9) (G : gG κ B 201 ad s g H locs) (hl : lv_has ls 7 [(4, .int (iz (5 * (j : Int)))), (0, .ref b), (1, .ref (ad 0)), (2, .ref (ad 192)), (3, .ref (ad 200))]) (kk : ∀ (g : Nat → va_E) (th : Int) (H : Heap) (locs : List Loc) (ls : Array Slot), LI κ ad g th (1000 * (j : Int) + 1000) → (∃ o9 : Int → Int64, g 200 = aJ κ 1 o9) → gG κ B 201 ad s g H locs → lv_has ls 7 [(4, .int (iz (5 * (j : Int)))), (0, .ref b), (1, .ref (ad 0)), (2, .ref (ad 192)), (3, .ref (ad 200))] → W p l e room_1 s m args below meth c H locs (210 + 3 * j + 3) (33000 + 15 * j + 15) Q (F0 m 1950 ls [])) : W p l e room_1 s m args below meth c H locs (210 + 3 * j) (33000 + 15 * j) Q (F0 m 658 ls []) := by
  obtain ⟨CL, M1, hk1⟩ := od_blank l κ B ad g th (1000 * (j : Int)) (by omega) h ho
  obtain ⟨fs0, hx0⟩ := h.x0
  refine g_aload_n C dL_law_658 rfl hl 2 rfl ?_
  refine g_ci C G (g_runV (As := []) (rest := []) (pos := 0) C G M1 (cwV 0 C.1.2.2.2.2 gL_law_X7_blank rfl rfl rfl (by decide +kernel) ⟨Nat.le_of_ble_eq_true rfl, Nat.le_of_ble_eq_true rfl⟩) (by omega) hx0 (T := TX7) (N := 8) rfl rfl hl rfl (Nat.le_of_ble_eq_true rfl) dL_law_659 ⟨by show _ ≤ 601024; omega, by show _ ≤ 7293034; omega⟩) (fun z g1 H locs hz G => ?_)
  obtain ⟨⟨fs1, hm1⟩, MP, M2, hk2⟩ := hk1 z g1 hz
  refine g_aload_n C dL_law_662 rfl hl 3 rfl ?_
  refine g_ci C G (g_runV (As := []) (rest := [.int (iz z)]) (pos := 192) C G M2 (cwV 0 C.1.2.2.2.2 gL_law_X8_blank rfl rfl rfl (by decide +kernel) ⟨Nat.le_of_ble_eq_true rfl, Nat.le_of_ble_eq_true rfl⟩) (by omega) hm1 (T := TX8) (N := 17) rfl rfl hl rfl (Nat.le_of_ble_eq_true rfl) dL_law_663 ⟨by show _ ≤ 601024; omega, by show _ ≤ 7293034; omega⟩) (fun zm g2 H locs hz2 G => ?_)
  obtain ⟨hzz, ⟨th9, hLI⟩, o8, ho8⟩ := hk2 zm g2 hz2
  rw [← hzz]
  rw [iz_rI z]
  have hri := rI_in z
  refine g_icmp_eq (tgt := 1950) C (by omega) (by omega) dL_law_666 (by decide) (fun _ => ?_) (fun q => absurd rfl q)
  refine W.widen (k := 210 + 3 * j + 3) (n := 33000 + 15 * j + 15) (by omega) (by omega) ?_
  exact kk g2 th9 H locs ls hLI ⟨o8, ho8⟩ G (lv_sub hl [0, 1, 2, 3, 4] rfl)
set_option maxHeartbeats 4000000 in
set_option maxRecDepth 100000 in
theorem lc_together (hlf : l.stackTraces = false) (C : gC p c cL_law 7 s m args wsL_law RL κ B 201 ad) (X : gX B s) (N9 : gNc s) (hXs : va_X b L xs s s.heap) (hbl : b < s.heap.size) (hB : B = s.heap.size) (hL : L ≤ 2560) {j : Nat} (hj : 5 * j + 5 ≤ L) (h : LI κ ad g th (1000 * (j : Int))) {o9 : Int → Int64} (ho : g 200 = aJ κ 1 o9) (G : gG κ B 201 ad s g H locs) (hl : lv_has ls 7 [(4, .int (iz (5 * (j : Int)))), (0, .ref b), (1, .ref (ad 0)), (2, .ref (ad 192)), (3, .ref (ad 200))]) (kk : ∀ (g : Nat → va_E) (th : Int) (H : Heap) (locs : List Loc) (ls : Array Slot), LI κ ad g th (1000 * (j : Int) + 1000) → (∃ o9 : Int → Int64, g 200 = aJ κ 1 o9) → gG κ B 201 ad s g H locs → lv_has ls 7 [(4, .int (iz (5 * (j : Int)))), (0, .ref b), (1, .ref (ad 0)), (2, .ref (ad 192)), (3, .ref (ad 200))] → W p l e room_1 s m args below meth c H locs (210 + 3 * j + 3) (33000 + 15 * j + 15) Q (F0 m 1950 ls [])) : W p l e room_1 s m args below meth c H locs (210 + 3 * j) (33000 + 15 * j) Q (F0 m 671 ls []) := by
  obtain ⟨CL, M1, hk1⟩ := od_together l κ B ad g th (1000 * (j : Int)) (by omega) h ho
  obtain ⟨fs0, hx0⟩ := h.x0
  refine g_aload_n C dL_law_671 rfl hl 2 rfl ?_
  refine g_cl C G (g_runV (As := []) (rest := []) (pos := 0) C G M1 (cwV 0 C.1.2.2.2.2 gL_law_X7_together rfl rfl rfl (by decide +kernel) ⟨Nat.le_of_ble_eq_true rfl, Nat.le_of_ble_eq_true rfl⟩) (by omega) hx0 (T := TX7) (N := 8) rfl rfl hl rfl (Nat.le_of_ble_eq_true rfl) dL_law_672 ⟨by show _ ≤ 601024; omega, by show _ ≤ 7293034; omega⟩) (fun z g1 H locs hz G => ?_)
  obtain ⟨⟨fs1, hm1⟩, MP, M2, hk2⟩ := hk1 z g1 hz
  refine g_aload_n C dL_law_675 rfl hl 3 rfl ?_
  refine g_cl C G (g_runV (As := []) (rest := [.long (jz z)]) (pos := 192) C G M2 (cwV 0 C.1.2.2.2.2 gL_law_X8_together rfl rfl rfl (by decide +kernel) ⟨Nat.le_of_ble_eq_true rfl, Nat.le_of_ble_eq_true rfl⟩) (by omega) hm1 (T := TX8) (N := 17) rfl rfl hl rfl (Nat.le_of_ble_eq_true rfl) dL_law_676 ⟨by show _ ≤ 601024; omega, by show _ ≤ 7293034; omega⟩) (fun zm g2 H locs hz2 G => ?_)
  obtain ⟨hzz, ⟨th9, hLI⟩, o8, ho8⟩ := hk2 zm g2 hz2
  rw [← hzz]
  rw [jz_rJ z]
  have hri := rJ_in z
  refine g_lcmp C (by omega) (by omega) dL_law_679 (fun zc hc => ?_)
  refine g_if_eq (tgt := 1950) C (by omega) dL_law_680 (by decide) (fun _ => ?_) (fun q => absurd q (by omega))
  refine W.widen (k := 210 + 3 * j + 3) (n := 33000 + 15 * j + 15) (by omega) (by omega) ?_
  exact kk g2 th9 H locs ls hLI ⟨o8, ho8⟩ G (lv_sub hl [0, 1, 2, 3, 4] rfl)
set_option maxHeartbeats 4000000 in
set_option maxRecDepth 100000 in
theorem lc_order (hlf : l.stackTraces = false) (C : gC p c cL_law 7 s m args wsL_law RL κ B 201 ad) (X : gX B s) (N9 : gNc s) (hXs : va_X b L xs s s.heap) (hbl : b < s.heap.size) (hB : B = s.heap.size) (hL : L ≤ 2560) {j : Nat} (hj : 5 * j + 5 ≤ L) (h : LI κ ad g th (1000 * (j : Int))) {o9 : Int → Int64} (ho : g 200 = aJ κ 1 o9) (G : gG κ B 201 ad s g H locs) (hl : lv_has ls 7 [(4, .int (iz (5 * (j : Int)))), (0, .ref b), (1, .ref (ad 0)), (2, .ref (ad 192)), (3, .ref (ad 200))]) (kk : ∀ (g : Nat → va_E) (th : Int) (H : Heap) (locs : List Loc) (ls : Array Slot), LI κ ad g th (1000 * (j : Int) + 1000) → (∃ o9 : Int → Int64, g 200 = aJ κ 1 o9) → gG κ B 201 ad s g H locs → lv_has ls 7 [(4, .int (iz (5 * (j : Int)))), (0, .ref b), (1, .ref (ad 0)), (2, .ref (ad 192)), (3, .ref (ad 200))] → W p l e room_1 s m args below meth c H locs (210 + 3 * j + 3) (33000 + 15 * j + 15) Q (F0 m 1950 ls [])) : W p l e room_1 s m args below meth c H locs (210 + 3 * j) (33000 + 15 * j) Q (F0 m 685 ls []) := by
  refine g_aload_n C dL_law_685 rfl hl 2 rfl ?_
  refine g_aload_n C dL_law_686 rfl hl 1 rfl ?_
  refine g_iload C dL_law_687 hl 0 rfl ?_
  refine g_iconst (a := 1) C dL_law_689 rfl ?_
  refine g_iadd C dL_law_690 ?_
  refine g_sld C G hXs hbl hB (by omega) (by omega) hL dL_law_691 ?_
  refine g_aload_n C dL_law_692 rfl hl 4 rfl ?_
  obtain ⟨CL, M1, hk1⟩ := op_order l hlf κ B ad g th (1000 * (j : Int)) (sxF xs ((5 * (j : Int)) + 1)) (sxF_in _ _) (by omega) h ho
  refine g_ci C G (g_runSY (As := [.ref (ad 0), .int (iz (sxF xs ((5 * (j : Int)) + 1))), .ref (ad 200)]) (rest := []) C G X N9 M1 (vx_cwSW (hh := [(0, 9, 12, 13)]) 3 C.1.2.2.2.2 gL_law_L_order rfl rfl rfl (by decide +kernel) ⟨Nat.le_of_ble_eq_true rfl, Nat.le_of_ble_eq_true rfl⟩) rfl hl rfl (Nat.le_of_ble_eq_true rfl) dL_law_693 ⟨by show _ ≤ 601024; omega, by show _ ≤ 7293034; omega⟩) (fun z g1 H locs hz G => ?_)
  obtain ⟨⟨fs1, hm1⟩, MP, M2, hk2⟩ := hk1 z g1 hz
  refine lv_istore (lv' := [(5, .int (iz z)), (4, .int (iz (5 * (j : Int)))), (0, .ref b), (1, .ref (ad 0)), (2, .ref (ad 192)), (3, .ref (ad 200))]) C.1.1 C.1.2.1 dL_law_696 hl (by decide) rfl (fun ls hl => ?_)
  refine g_aload_n C dL_law_698 rfl hl 4 rfl ?_
  refine g_aload_n C dL_law_699 rfl hl 2 rfl ?_
  refine g_iload C dL_law_700 hl 1 rfl ?_
  refine g_iconst (a := 1) C dL_law_702 rfl ?_
  refine g_iadd C dL_law_703 ?_
  refine g_sld C G hXs hbl hB (by omega) (by omega) hL dL_law_704 ?_
  refine g_ci C G (g_runV (As := [.int (iz (sxF xs ((5 * (j : Int)) + 1)))]) (rest := []) (pos := 192) C G M2 (cwV 1 C.1.2.2.2.2 gL_law_X8_order rfl rfl rfl (by decide +kernel) ⟨Nat.le_of_ble_eq_true rfl, Nat.le_of_ble_eq_true rfl⟩) (by omega) hm1 (T := TX8) (N := 17) rfl rfl hl rfl (Nat.le_of_ble_eq_true rfl) dL_law_705 ⟨by show _ ≤ 601024; omega, by show _ ≤ 7293034; omega⟩) (fun zm g2 H locs hz2 G => ?_)
  obtain ⟨hLI, hzr, o8, ho8, hv8⟩ := hk2 zm g2 hz2
  obtain ⟨fs2, hm2, M3⟩ := hLI.thr l B
  refine lv_istore (lv' := [(6, .int (iz zm)), (5, .int (iz z)), (4, .int (iz (5 * (j : Int)))), (0, .ref b), (1, .ref (ad 0)), (2, .ref (ad 192)), (3, .ref (ad 200))]) C.1.1 C.1.2.1 dL_law_708 hl (by decide) rfl (fun ls hl => ?_)
  refine g_aload_n C dL_law_710 rfl hl 5 rfl ?_
  refine g_ci C G (g_runV (As := []) (rest := []) (pos := 192) C G M3 (cwV 0 C.1.2.2.2.2 gL_law_X8_thrown rfl rfl rfl (by decide +kernel) ⟨Nat.le_of_ble_eq_true rfl, Nat.le_of_ble_eq_true rfl⟩) (by omega) hm2 (T := TX8) (N := 17) rfl rfl hl rfl (Nat.le_of_ble_eq_true rfl) dL_law_711 ⟨by show _ ≤ 601024; omega, by show _ ≤ 7293034; omega⟩) (fun zt g3 H locs hz3 G => ?_)
  obtain ⟨hg3, hzt⟩ := hz3
  rw [hg3] at G
  rw [hzt]
  refine g_iload C dL_law_714 hl 1 rfl ?_
  refine g_icmp_eq (tgt := 721) C (by omega) (by omega) dL_law_716 (by decide) (fun _ => ?_) (fun q => absurd rfl q)
  refine g_iload C dL_law_721 hl 1 rfl ?_
  refine g_if_ne (tgt := 738) C (by omega) dL_law_723 (by decide) (fun hz0 => ?_) (fun hz0 => ?_)
  · refine g_goto (tgt := 1950) C dL_law_738 (by decide) ?_
    refine W.widen (k := 210 + 3 * j + 3) (n := 33000 + 15 * j + 15) (by omega) (by omega) ?_
    exact kk g2 z H locs ls hLI ⟨o8, ho8⟩ G (lv_sub hl [2, 3, 4, 5, 6] rfl)
  · refine g_aload_n C dL_law_726 rfl hl 6 rfl ?_
    refine g_iconst (a := 0) C dL_law_727 rfl ?_
    refine g_laload C G (pos := 200) (by omega) ho8 (by decide) (by decide) (by decide) dL_law_728 ?_
    rw [hv8 (by omega)]
    refine g_iload C dL_law_729 hl 0 rfl ?_
    rw [iz_rI zm]
    refine g_i2l C (rI_in zm) dL_law_731 ?_
    have hri := rI_in zm
    refine g_lcmp C (by omega) (by omega) dL_law_732 (fun zc hc => ?_)
    refine g_if_eq (tgt := 738) C (by omega) dL_law_733 (by decide) (fun _ => ?_) (fun q => absurd q (by omega))
    refine g_goto (tgt := 1950) C dL_law_738 (by decide) ?_
    refine W.widen (k := 210 + 3 * j + 3) (n := 33000 + 15 * j + 15) (by omega) (by omega) ?_
    exact kk g2 z H locs ls hLI ⟨o8, ho8⟩ G (lv_sub hl [2, 3, 4, 5, 6] rfl)
set_option maxHeartbeats 4000000 in
set_option maxRecDepth 100000 in
theorem lc_sighting (hlf : l.stackTraces = false) (C : gC p c cL_law 7 s m args wsL_law RL κ B 201 ad) (X : gX B s) (N9 : gNc s) (hXs : va_X b L xs s s.heap) (hbl : b < s.heap.size) (hB : B = s.heap.size) (hL : L ≤ 2560) {j : Nat} (hj : 5 * j + 5 ≤ L) (h : LI κ ad g th (1000 * (j : Int))) {o9 : Int → Int64} (ho : g 200 = aJ κ 1 o9) (G : gG κ B 201 ad s g H locs) (hl : lv_has ls 7 [(4, .int (iz (5 * (j : Int)))), (0, .ref b), (1, .ref (ad 0)), (2, .ref (ad 192)), (3, .ref (ad 200))]) (kk : ∀ (g : Nat → va_E) (th : Int) (H : Heap) (locs : List Loc) (ls : Array Slot), LI κ ad g th (1000 * (j : Int) + 1000) → (∃ o9 : Int → Int64, g 200 = aJ κ 1 o9) → gG κ B 201 ad s g H locs → lv_has ls 7 [(4, .int (iz (5 * (j : Int)))), (0, .ref b), (1, .ref (ad 0)), (2, .ref (ad 192)), (3, .ref (ad 200))] → W p l e room_1 s m args below meth c H locs (210 + 3 * j + 3) (33000 + 15 * j + 15) Q (F0 m 1950 ls [])) : W p l e room_1 s m args below meth c H locs (210 + 3 * j) (33000 + 15 * j) Q (F0 m 741 ls []) := by
  refine g_aload_n C dL_law_741 rfl hl 2 rfl ?_
  refine g_aload_n C dL_law_742 rfl hl 1 rfl ?_
  refine g_iload C dL_law_743 hl 0 rfl ?_
  refine g_iconst (a := 1) C dL_law_745 rfl ?_
  refine g_iadd C dL_law_746 ?_
  refine g_sld C G hXs hbl hB (by omega) (by omega) hL dL_law_747 ?_
  refine g_aload_n C dL_law_748 rfl hl 1 rfl ?_
  refine g_iload C dL_law_749 hl 0 rfl ?_
  refine g_iconst (a := 2) C dL_law_751 rfl ?_
  refine g_iadd C dL_law_752 ?_
  refine g_sld C G hXs hbl hB (by omega) (by omega) hL dL_law_753 ?_
  refine g_aload_n C dL_law_754 rfl hl 4 rfl ?_
  obtain ⟨CL, M1, hk1⟩ := op_sighting l hlf κ B ad g th (1000 * (j : Int)) (sxF xs ((5 * (j : Int)) + 1)) (sxF xs ((5 * (j : Int)) + 2)) (sxF_in _ _) (sxF_in _ _) (by omega) h ho
  refine g_ci C G (g_runSY (As := [.ref (ad 0), .int (iz (sxF xs ((5 * (j : Int)) + 1))), .int (iz (sxF xs ((5 * (j : Int)) + 2))), .ref (ad 200)]) (rest := []) C G X N9 M1 (vx_cwSW (hh := [(0, 10, 13, 28), (0, 10, 17, 13)]) 4 C.1.2.2.2.2 gL_law_L_sighting rfl rfl rfl (by decide +kernel) ⟨Nat.le_of_ble_eq_true rfl, Nat.le_of_ble_eq_true rfl⟩) rfl hl rfl (Nat.le_of_ble_eq_true rfl) dL_law_755 ⟨by show _ ≤ 601024; omega, by show _ ≤ 7293034; omega⟩) (fun z g1 H locs hz G => ?_)
  obtain ⟨⟨fs1, hm1⟩, MP, M2, hk2⟩ := hk1 z g1 hz
  refine lv_istore (lv' := [(5, .int (iz z)), (4, .int (iz (5 * (j : Int)))), (0, .ref b), (1, .ref (ad 0)), (2, .ref (ad 192)), (3, .ref (ad 200))]) C.1.1 C.1.2.1 dL_law_758 hl (by decide) rfl (fun ls hl => ?_)
  refine g_aload_n C dL_law_760 rfl hl 4 rfl ?_
  refine g_aload_n C dL_law_761 rfl hl 2 rfl ?_
  refine g_iload C dL_law_762 hl 1 rfl ?_
  refine g_iconst (a := 1) C dL_law_764 rfl ?_
  refine g_iadd C dL_law_765 ?_
  refine g_sld C G hXs hbl hB (by omega) (by omega) hL dL_law_766 ?_
  refine g_aload_n C dL_law_767 rfl hl 2 rfl ?_
  refine g_iload C dL_law_768 hl 1 rfl ?_
  refine g_iconst (a := 2) C dL_law_770 rfl ?_
  refine g_iadd C dL_law_771 ?_
  refine g_sld C G hXs hbl hB (by omega) (by omega) hL dL_law_772 ?_
  refine g_ci C G (g_runV (As := [.int (iz (sxF xs ((5 * (j : Int)) + 1))), .int (iz (sxF xs ((5 * (j : Int)) + 2)))]) (rest := []) (pos := 192) C G M2 (cwV 2 C.1.2.2.2.2 gL_law_X8_sighting rfl rfl rfl (by decide +kernel) ⟨Nat.le_of_ble_eq_true rfl, Nat.le_of_ble_eq_true rfl⟩) (by omega) hm1 (T := TX8) (N := 17) rfl rfl hl rfl (Nat.le_of_ble_eq_true rfl) dL_law_773 ⟨by show _ ≤ 601024; omega, by show _ ≤ 7293034; omega⟩) (fun zm g2 H locs hz2 G => ?_)
  obtain ⟨hLI, hzr, o8, ho8, hv8⟩ := hk2 zm g2 hz2
  obtain ⟨fs2, hm2, M3⟩ := hLI.thr l B
  refine lv_istore (lv' := [(6, .int (iz zm)), (5, .int (iz z)), (4, .int (iz (5 * (j : Int)))), (0, .ref b), (1, .ref (ad 0)), (2, .ref (ad 192)), (3, .ref (ad 200))]) C.1.1 C.1.2.1 dL_law_776 hl (by decide) rfl (fun ls hl => ?_)
  refine g_aload_n C dL_law_778 rfl hl 5 rfl ?_
  refine g_ci C G (g_runV (As := []) (rest := []) (pos := 192) C G M3 (cwV 0 C.1.2.2.2.2 gL_law_X8_thrown rfl rfl rfl (by decide +kernel) ⟨Nat.le_of_ble_eq_true rfl, Nat.le_of_ble_eq_true rfl⟩) (by omega) hm2 (T := TX8) (N := 17) rfl rfl hl rfl (Nat.le_of_ble_eq_true rfl) dL_law_779 ⟨by show _ ≤ 601024; omega, by show _ ≤ 7293034; omega⟩) (fun zt g3 H locs hz3 G => ?_)
  obtain ⟨hg3, hzt⟩ := hz3
  rw [hg3] at G
  rw [hzt]
  refine g_iload C dL_law_782 hl 1 rfl ?_
  refine g_icmp_eq (tgt := 789) C (by omega) (by omega) dL_law_784 (by decide) (fun _ => ?_) (fun q => absurd rfl q)
  refine g_iload C dL_law_789 hl 1 rfl ?_
  refine g_if_ne (tgt := 806) C (by omega) dL_law_791 (by decide) (fun hz0 => ?_) (fun hz0 => ?_)
  · refine g_goto (tgt := 1950) C dL_law_806 (by decide) ?_
    refine W.widen (k := 210 + 3 * j + 3) (n := 33000 + 15 * j + 15) (by omega) (by omega) ?_
    exact kk g2 z H locs ls hLI ⟨o8, ho8⟩ G (lv_sub hl [2, 3, 4, 5, 6] rfl)
  · refine g_aload_n C dL_law_794 rfl hl 6 rfl ?_
    refine g_iconst (a := 0) C dL_law_795 rfl ?_
    refine g_laload C G (pos := 200) (by omega) ho8 (by decide) (by decide) (by decide) dL_law_796 ?_
    rw [hv8 (by omega)]
    refine g_iload C dL_law_797 hl 0 rfl ?_
    rw [iz_rI zm]
    refine g_i2l C (rI_in zm) dL_law_799 ?_
    have hri := rI_in zm
    refine g_lcmp C (by omega) (by omega) dL_law_800 (fun zc hc => ?_)
    refine g_if_eq (tgt := 806) C (by omega) dL_law_801 (by decide) (fun _ => ?_) (fun q => absurd q (by omega))
    refine g_goto (tgt := 1950) C dL_law_806 (by decide) ?_
    refine W.widen (k := 210 + 3 * j + 3) (n := 33000 + 15 * j + 15) (by omega) (by omega) ?_
    exact kk g2 z H locs ls hLI ⟨o8, ho8⟩ G (lv_sub hl [2, 3, 4, 5, 6] rfl)
set_option maxHeartbeats 4000000 in
set_option maxRecDepth 100000 in
theorem lc_common (hlf : l.stackTraces = false) (C : gC p c cL_law 7 s m args wsL_law RL κ B 201 ad) (X : gX B s) (N9 : gNc s) (hXs : va_X b L xs s s.heap) (hbl : b < s.heap.size) (hB : B = s.heap.size) (hL : L ≤ 2560) {j : Nat} (hj : 5 * j + 5 ≤ L) (h : LI κ ad g th (1000 * (j : Int))) {o9 : Int → Int64} (ho : g 200 = aJ κ 1 o9) (G : gG κ B 201 ad s g H locs) (hl : lv_has ls 7 [(4, .int (iz (5 * (j : Int)))), (0, .ref b), (1, .ref (ad 0)), (2, .ref (ad 192)), (3, .ref (ad 200))]) (kk : ∀ (g : Nat → va_E) (th : Int) (H : Heap) (locs : List Loc) (ls : Array Slot), LI κ ad g th (1000 * (j : Int) + 1000) → (∃ o9 : Int → Int64, g 200 = aJ κ 1 o9) → gG κ B 201 ad s g H locs → lv_has ls 7 [(4, .int (iz (5 * (j : Int)))), (0, .ref b), (1, .ref (ad 0)), (2, .ref (ad 192)), (3, .ref (ad 200))] → W p l e room_1 s m args below meth c H locs (210 + 3 * j + 3) (33000 + 15 * j + 15) Q (F0 m 1950 ls [])) : W p l e room_1 s m args below meth c H locs (210 + 3 * j) (33000 + 15 * j) Q (F0 m 809 ls []) := by
  refine g_aload_n C dL_law_809 rfl hl 2 rfl ?_
  refine g_aload_n C dL_law_810 rfl hl 1 rfl ?_
  refine g_iload C dL_law_811 hl 0 rfl ?_
  refine g_iconst (a := 1) C dL_law_813 rfl ?_
  refine g_iadd C dL_law_814 ?_
  refine g_sld C G hXs hbl hB (by omega) (by omega) hL dL_law_815 ?_
  refine g_aload_n C dL_law_816 rfl hl 1 rfl ?_
  refine g_iload C dL_law_817 hl 0 rfl ?_
  refine g_iconst (a := 2) C dL_law_819 rfl ?_
  refine g_iadd C dL_law_820 ?_
  refine g_sld C G hXs hbl hB (by omega) (by omega) hL dL_law_821 ?_
  refine g_aload_n C dL_law_822 rfl hl 4 rfl ?_
  obtain ⟨CL, M1, hk1⟩ := op_common l hlf κ B ad g th (1000 * (j : Int)) (sxF xs ((5 * (j : Int)) + 1)) (sxF xs ((5 * (j : Int)) + 2)) (sxF_in _ _) (sxF_in _ _) (by omega) h ho
  refine g_ci C G (g_runSY (As := [.ref (ad 0), .int (iz (sxF xs ((5 * (j : Int)) + 1))), .int (iz (sxF xs ((5 * (j : Int)) + 2))), .ref (ad 200)]) (rest := []) C G X N9 M1 (vx_cwSW (hh := [(0, 10, 13, 28)]) 4 C.1.2.2.2.2 gL_law_L_common rfl rfl rfl (by decide +kernel) ⟨Nat.le_of_ble_eq_true rfl, Nat.le_of_ble_eq_true rfl⟩) rfl hl rfl (Nat.le_of_ble_eq_true rfl) dL_law_823 ⟨by show _ ≤ 601024; omega, by show _ ≤ 7293034; omega⟩) (fun z g1 H locs hz G => ?_)
  obtain ⟨⟨fs1, hm1⟩, MP, M2, hk2⟩ := hk1 z g1 hz
  refine lv_istore (lv' := [(5, .int (iz z)), (4, .int (iz (5 * (j : Int)))), (0, .ref b), (1, .ref (ad 0)), (2, .ref (ad 192)), (3, .ref (ad 200))]) C.1.1 C.1.2.1 dL_law_826 hl (by decide) rfl (fun ls hl => ?_)
  refine g_aload_n C dL_law_828 rfl hl 4 rfl ?_
  refine g_aload_n C dL_law_829 rfl hl 2 rfl ?_
  refine g_iload C dL_law_830 hl 1 rfl ?_
  refine g_iconst (a := 1) C dL_law_832 rfl ?_
  refine g_iadd C dL_law_833 ?_
  refine g_sld C G hXs hbl hB (by omega) (by omega) hL dL_law_834 ?_
  refine g_aload_n C dL_law_835 rfl hl 2 rfl ?_
  refine g_iload C dL_law_836 hl 1 rfl ?_
  refine g_iconst (a := 2) C dL_law_838 rfl ?_
  refine g_iadd C dL_law_839 ?_
  refine g_sld C G hXs hbl hB (by omega) (by omega) hL dL_law_840 ?_
  refine g_ci C G (g_runV (As := [.int (iz (sxF xs ((5 * (j : Int)) + 1))), .int (iz (sxF xs ((5 * (j : Int)) + 2)))]) (rest := []) (pos := 192) C G M2 (cwV 2 C.1.2.2.2.2 gL_law_X8_common_ rfl rfl rfl (by decide +kernel) ⟨Nat.le_of_ble_eq_true rfl, Nat.le_of_ble_eq_true rfl⟩) (by omega) hm1 (T := TX8) (N := 17) rfl rfl hl rfl (Nat.le_of_ble_eq_true rfl) dL_law_841 ⟨by show _ ≤ 601024; omega, by show _ ≤ 7293034; omega⟩) (fun zm g2 H locs hz2 G => ?_)
  obtain ⟨hLI, hzr, o8, ho8, hv8⟩ := hk2 zm g2 hz2
  obtain ⟨fs2, hm2, M3⟩ := hLI.thr l B
  refine lv_istore (lv' := [(6, .int (iz zm)), (5, .int (iz z)), (4, .int (iz (5 * (j : Int)))), (0, .ref b), (1, .ref (ad 0)), (2, .ref (ad 192)), (3, .ref (ad 200))]) C.1.1 C.1.2.1 dL_law_844 hl (by decide) rfl (fun ls hl => ?_)
  refine g_aload_n C dL_law_846 rfl hl 5 rfl ?_
  refine g_ci C G (g_runV (As := []) (rest := []) (pos := 192) C G M3 (cwV 0 C.1.2.2.2.2 gL_law_X8_thrown rfl rfl rfl (by decide +kernel) ⟨Nat.le_of_ble_eq_true rfl, Nat.le_of_ble_eq_true rfl⟩) (by omega) hm2 (T := TX8) (N := 17) rfl rfl hl rfl (Nat.le_of_ble_eq_true rfl) dL_law_847 ⟨by show _ ≤ 601024; omega, by show _ ≤ 7293034; omega⟩) (fun zt g3 H locs hz3 G => ?_)
  obtain ⟨hg3, hzt⟩ := hz3
  rw [hg3] at G
  rw [hzt]
  refine g_iload C dL_law_850 hl 1 rfl ?_
  refine g_icmp_eq (tgt := 857) C (by omega) (by omega) dL_law_852 (by decide) (fun _ => ?_) (fun q => absurd rfl q)
  refine g_iload C dL_law_857 hl 1 rfl ?_
  refine g_if_ne (tgt := 874) C (by omega) dL_law_859 (by decide) (fun hz0 => ?_) (fun hz0 => ?_)
  · refine g_goto (tgt := 1950) C dL_law_874 (by decide) ?_
    refine W.widen (k := 210 + 3 * j + 3) (n := 33000 + 15 * j + 15) (by omega) (by omega) ?_
    exact kk g2 z H locs ls hLI ⟨o8, ho8⟩ G (lv_sub hl [2, 3, 4, 5, 6] rfl)
  · refine g_aload_n C dL_law_862 rfl hl 6 rfl ?_
    refine g_iconst (a := 0) C dL_law_863 rfl ?_
    refine g_laload C G (pos := 200) (by omega) ho8 (by decide) (by decide) (by decide) dL_law_864 ?_
    rw [hv8 (by omega)]
    refine g_iload C dL_law_865 hl 0 rfl ?_
    rw [iz_rI zm]
    refine g_i2l C (rI_in zm) dL_law_867 ?_
    have hri := rI_in zm
    refine g_lcmp C (by omega) (by omega) dL_law_868 (fun zc hc => ?_)
    refine g_if_eq (tgt := 874) C (by omega) dL_law_869 (by decide) (fun _ => ?_) (fun q => absurd q (by omega))
    refine g_goto (tgt := 1950) C dL_law_874 (by decide) ?_
    refine W.widen (k := 210 + 3 * j + 3) (n := 33000 + 15 * j + 15) (by omega) (by omega) ?_
    exact kk g2 z H locs ls hLI ⟨o8, ho8⟩ G (lv_sub hl [2, 3, 4, 5, 6] rfl)
set_option maxHeartbeats 4000000 in
set_option maxRecDepth 100000 in
theorem lc_meet (hlf : l.stackTraces = false) (C : gC p c cL_law 7 s m args wsL_law RL κ B 201 ad) (X : gX B s) (N9 : gNc s) (hXs : va_X b L xs s s.heap) (hbl : b < s.heap.size) (hB : B = s.heap.size) (hL : L ≤ 2560) {j : Nat} (hj : 5 * j + 5 ≤ L) (h : LI κ ad g th (1000 * (j : Int))) {o9 : Int → Int64} (ho : g 200 = aJ κ 1 o9) (G : gG κ B 201 ad s g H locs) (hl : lv_has ls 7 [(4, .int (iz (5 * (j : Int)))), (0, .ref b), (1, .ref (ad 0)), (2, .ref (ad 192)), (3, .ref (ad 200))]) (kk : ∀ (g : Nat → va_E) (th : Int) (H : Heap) (locs : List Loc) (ls : Array Slot), LI κ ad g th (1000 * (j : Int) + 1000) → (∃ o9 : Int → Int64, g 200 = aJ κ 1 o9) → gG κ B 201 ad s g H locs → lv_has ls 7 [(4, .int (iz (5 * (j : Int)))), (0, .ref b), (1, .ref (ad 0)), (2, .ref (ad 192)), (3, .ref (ad 200))] → W p l e room_1 s m args below meth c H locs (210 + 3 * j + 3) (33000 + 15 * j + 15) Q (F0 m 1950 ls [])) : W p l e room_1 s m args below meth c H locs (210 + 3 * j) (33000 + 15 * j) Q (F0 m 877 ls []) := by
  refine g_aload_n C dL_law_877 rfl hl 2 rfl ?_
  refine g_aload_n C dL_law_878 rfl hl 1 rfl ?_
  refine g_iload C dL_law_879 hl 0 rfl ?_
  refine g_iconst (a := 1) C dL_law_881 rfl ?_
  refine g_iadd C dL_law_882 ?_
  refine g_sld C G hXs hbl hB (by omega) (by omega) hL dL_law_883 ?_
  refine g_aload_n C dL_law_884 rfl hl 1 rfl ?_
  refine g_iload C dL_law_885 hl 0 rfl ?_
  refine g_iconst (a := 2) C dL_law_887 rfl ?_
  refine g_iadd C dL_law_888 ?_
  refine g_sld C G hXs hbl hB (by omega) (by omega) hL dL_law_889 ?_
  refine g_aload_n C dL_law_890 rfl hl 4 rfl ?_
  obtain ⟨CL, M1, hk1⟩ := op_meet l hlf κ B ad g th (1000 * (j : Int)) (sxF xs ((5 * (j : Int)) + 1)) (sxF xs ((5 * (j : Int)) + 2)) (sxF_in _ _) (sxF_in _ _) (by omega) h ho
  refine g_ci C G (g_runSY (As := [.ref (ad 0), .int (iz (sxF xs ((5 * (j : Int)) + 1))), .int (iz (sxF xs ((5 * (j : Int)) + 2))), .ref (ad 200)]) (rest := []) C G X N9 M1 (vx_cwSW (hh := [(0, 10, 13, 28)]) 4 C.1.2.2.2.2 gL_law_L_meet rfl rfl rfl (by decide +kernel) ⟨Nat.le_of_ble_eq_true rfl, Nat.le_of_ble_eq_true rfl⟩) rfl hl rfl (Nat.le_of_ble_eq_true rfl) dL_law_891 ⟨by show _ ≤ 601024; omega, by show _ ≤ 7293034; omega⟩) (fun z g1 H locs hz G => ?_)
  obtain ⟨⟨fs1, hm1⟩, MP, M2, hk2⟩ := hk1 z g1 hz
  refine lv_istore (lv' := [(5, .int (iz z)), (4, .int (iz (5 * (j : Int)))), (0, .ref b), (1, .ref (ad 0)), (2, .ref (ad 192)), (3, .ref (ad 200))]) C.1.1 C.1.2.1 dL_law_894 hl (by decide) rfl (fun ls hl => ?_)
  refine g_aload_n C dL_law_896 rfl hl 4 rfl ?_
  refine g_aload_n C dL_law_897 rfl hl 2 rfl ?_
  refine g_iload C dL_law_898 hl 1 rfl ?_
  refine g_iconst (a := 1) C dL_law_900 rfl ?_
  refine g_iadd C dL_law_901 ?_
  refine g_sld C G hXs hbl hB (by omega) (by omega) hL dL_law_902 ?_
  refine g_aload_n C dL_law_903 rfl hl 2 rfl ?_
  refine g_iload C dL_law_904 hl 1 rfl ?_
  refine g_iconst (a := 2) C dL_law_906 rfl ?_
  refine g_iadd C dL_law_907 ?_
  refine g_sld C G hXs hbl hB (by omega) (by omega) hL dL_law_908 ?_
  refine g_ci C G (g_runV (As := [.int (iz (sxF xs ((5 * (j : Int)) + 1))), .int (iz (sxF xs ((5 * (j : Int)) + 2)))]) (rest := []) (pos := 192) C G M2 (cwV 2 C.1.2.2.2.2 gL_law_X8_meet rfl rfl rfl (by decide +kernel) ⟨Nat.le_of_ble_eq_true rfl, Nat.le_of_ble_eq_true rfl⟩) (by omega) hm1 (T := TX8) (N := 17) rfl rfl hl rfl (Nat.le_of_ble_eq_true rfl) dL_law_909 ⟨by show _ ≤ 601024; omega, by show _ ≤ 7293034; omega⟩) (fun zm g2 H locs hz2 G => ?_)
  obtain ⟨hLI, hzr, o8, ho8, hv8⟩ := hk2 zm g2 hz2
  obtain ⟨fs2, hm2, M3⟩ := hLI.thr l B
  refine lv_istore (lv' := [(6, .int (iz zm)), (5, .int (iz z)), (4, .int (iz (5 * (j : Int)))), (0, .ref b), (1, .ref (ad 0)), (2, .ref (ad 192)), (3, .ref (ad 200))]) C.1.1 C.1.2.1 dL_law_912 hl (by decide) rfl (fun ls hl => ?_)
  refine g_aload_n C dL_law_914 rfl hl 5 rfl ?_
  refine g_ci C G (g_runV (As := []) (rest := []) (pos := 192) C G M3 (cwV 0 C.1.2.2.2.2 gL_law_X8_thrown rfl rfl rfl (by decide +kernel) ⟨Nat.le_of_ble_eq_true rfl, Nat.le_of_ble_eq_true rfl⟩) (by omega) hm2 (T := TX8) (N := 17) rfl rfl hl rfl (Nat.le_of_ble_eq_true rfl) dL_law_915 ⟨by show _ ≤ 601024; omega, by show _ ≤ 7293034; omega⟩) (fun zt g3 H locs hz3 G => ?_)
  obtain ⟨hg3, hzt⟩ := hz3
  rw [hg3] at G
  rw [hzt]
  refine g_iload C dL_law_918 hl 1 rfl ?_
  refine g_icmp_eq (tgt := 925) C (by omega) (by omega) dL_law_920 (by decide) (fun _ => ?_) (fun q => absurd rfl q)
  refine g_iload C dL_law_925 hl 1 rfl ?_
  refine g_if_ne (tgt := 942) C (by omega) dL_law_927 (by decide) (fun hz0 => ?_) (fun hz0 => ?_)
  · refine g_goto (tgt := 1950) C dL_law_942 (by decide) ?_
    refine W.widen (k := 210 + 3 * j + 3) (n := 33000 + 15 * j + 15) (by omega) (by omega) ?_
    exact kk g2 z H locs ls hLI ⟨o8, ho8⟩ G (lv_sub hl [2, 3, 4, 5, 6] rfl)
  · refine g_aload_n C dL_law_930 rfl hl 6 rfl ?_
    refine g_iconst (a := 0) C dL_law_931 rfl ?_
    refine g_laload C G (pos := 200) (by omega) ho8 (by decide) (by decide) (by decide) dL_law_932 ?_
    rw [hv8 (by omega)]
    refine g_iload C dL_law_933 hl 0 rfl ?_
    rw [iz_rI zm]
    refine g_i2l C (rI_in zm) dL_law_935 ?_
    have hri := rI_in zm
    refine g_lcmp C (by omega) (by omega) dL_law_936 (fun zc hc => ?_)
    refine g_if_eq (tgt := 942) C (by omega) dL_law_937 (by decide) (fun _ => ?_) (fun q => absurd q (by omega))
    refine g_goto (tgt := 1950) C dL_law_942 (by decide) ?_
    refine W.widen (k := 210 + 3 * j + 3) (n := 33000 + 15 * j + 15) (by omega) (by omega) ?_
    exact kk g2 z H locs ls hLI ⟨o8, ho8⟩ G (lv_sub hl [2, 3, 4, 5, 6] rfl)
set_option maxHeartbeats 4000000 in
set_option maxRecDepth 100000 in
theorem lc_turned (hlf : l.stackTraces = false) (C : gC p c cL_law 7 s m args wsL_law RL κ B 201 ad) (X : gX B s) (N9 : gNc s) (hXs : va_X b L xs s s.heap) (hbl : b < s.heap.size) (hB : B = s.heap.size) (hL : L ≤ 2560) {j : Nat} (hj : 5 * j + 5 ≤ L) (h : LI κ ad g th (1000 * (j : Int))) {o9 : Int → Int64} (ho : g 200 = aJ κ 1 o9) (G : gG κ B 201 ad s g H locs) (hl : lv_has ls 7 [(4, .int (iz (5 * (j : Int)))), (0, .ref b), (1, .ref (ad 0)), (2, .ref (ad 192)), (3, .ref (ad 200))]) (kk : ∀ (g : Nat → va_E) (th : Int) (H : Heap) (locs : List Loc) (ls : Array Slot), LI κ ad g th (1000 * (j : Int) + 1000) → (∃ o9 : Int → Int64, g 200 = aJ κ 1 o9) → gG κ B 201 ad s g H locs → lv_has ls 7 [(4, .int (iz (5 * (j : Int)))), (0, .ref b), (1, .ref (ad 0)), (2, .ref (ad 192)), (3, .ref (ad 200))] → W p l e room_1 s m args below meth c H locs (210 + 3 * j + 3) (33000 + 15 * j + 15) Q (F0 m 1950 ls [])) : W p l e room_1 s m args below meth c H locs (210 + 3 * j) (33000 + 15 * j) Q (F0 m 945 ls []) := by
  refine g_aload_n C dL_law_945 rfl hl 2 rfl ?_
  refine g_aload_n C dL_law_946 rfl hl 1 rfl ?_
  refine g_iload C dL_law_947 hl 0 rfl ?_
  refine g_iconst (a := 1) C dL_law_949 rfl ?_
  refine g_iadd C dL_law_950 ?_
  refine g_sld C G hXs hbl hB (by omega) (by omega) hL dL_law_951 ?_
  refine g_aload_n C dL_law_952 rfl hl 1 rfl ?_
  refine g_iload C dL_law_953 hl 0 rfl ?_
  refine g_iconst (a := 2) C dL_law_955 rfl ?_
  refine g_iadd C dL_law_956 ?_
  refine g_sld C G hXs hbl hB (by omega) (by omega) hL dL_law_957 ?_
  refine g_aload_n C dL_law_958 rfl hl 4 rfl ?_
  obtain ⟨CL, M1, hk1⟩ := op_turned l hlf κ B ad g th (1000 * (j : Int)) (sxF xs ((5 * (j : Int)) + 1)) (sxF xs ((5 * (j : Int)) + 2)) (sxF_in _ _) (sxF_in _ _) (by omega) h ho
  refine g_ci C G (g_runSY (As := [.ref (ad 0), .int (iz (sxF xs ((5 * (j : Int)) + 1))), .int (iz (sxF xs ((5 * (j : Int)) + 2))), .ref (ad 200)]) (rest := []) C G X N9 M1 (vx_cwSW (hh := [(0, 10, 13, 28)]) 4 C.1.2.2.2.2 gL_law_L_turned rfl rfl rfl (by decide +kernel) ⟨Nat.le_of_ble_eq_true rfl, Nat.le_of_ble_eq_true rfl⟩) rfl hl rfl (Nat.le_of_ble_eq_true rfl) dL_law_959 ⟨by show _ ≤ 601024; omega, by show _ ≤ 7293034; omega⟩) (fun z g1 H locs hz G => ?_)
  obtain ⟨⟨fs1, hm1⟩, MP, M2, hk2⟩ := hk1 z g1 hz
  refine lv_istore (lv' := [(5, .int (iz z)), (4, .int (iz (5 * (j : Int)))), (0, .ref b), (1, .ref (ad 0)), (2, .ref (ad 192)), (3, .ref (ad 200))]) C.1.1 C.1.2.1 dL_law_962 hl (by decide) rfl (fun ls hl => ?_)
  refine g_aload_n C dL_law_964 rfl hl 4 rfl ?_
  refine g_aload_n C dL_law_965 rfl hl 2 rfl ?_
  refine g_iload C dL_law_966 hl 1 rfl ?_
  refine g_iconst (a := 1) C dL_law_968 rfl ?_
  refine g_iadd C dL_law_969 ?_
  refine g_sld C G hXs hbl hB (by omega) (by omega) hL dL_law_970 ?_
  refine g_aload_n C dL_law_971 rfl hl 2 rfl ?_
  refine g_iload C dL_law_972 hl 1 rfl ?_
  refine g_iconst (a := 2) C dL_law_974 rfl ?_
  refine g_iadd C dL_law_975 ?_
  refine g_sld C G hXs hbl hB (by omega) (by omega) hL dL_law_976 ?_
  refine g_ci C G (g_runV (As := [.int (iz (sxF xs ((5 * (j : Int)) + 1))), .int (iz (sxF xs ((5 * (j : Int)) + 2)))]) (rest := []) (pos := 192) C G M2 (cwV 2 C.1.2.2.2.2 gL_law_X8_turned rfl rfl rfl (by decide +kernel) ⟨Nat.le_of_ble_eq_true rfl, Nat.le_of_ble_eq_true rfl⟩) (by omega) hm1 (T := TX8) (N := 17) rfl rfl hl rfl (Nat.le_of_ble_eq_true rfl) dL_law_977 ⟨by show _ ≤ 601024; omega, by show _ ≤ 7293034; omega⟩) (fun zm g2 H locs hz2 G => ?_)
  obtain ⟨hLI, hzr, o8, ho8, hv8⟩ := hk2 zm g2 hz2
  obtain ⟨fs2, hm2, M3⟩ := hLI.thr l B
  refine lv_istore (lv' := [(6, .int (iz zm)), (5, .int (iz z)), (4, .int (iz (5 * (j : Int)))), (0, .ref b), (1, .ref (ad 0)), (2, .ref (ad 192)), (3, .ref (ad 200))]) C.1.1 C.1.2.1 dL_law_980 hl (by decide) rfl (fun ls hl => ?_)
  refine g_aload_n C dL_law_982 rfl hl 5 rfl ?_
  refine g_ci C G (g_runV (As := []) (rest := []) (pos := 192) C G M3 (cwV 0 C.1.2.2.2.2 gL_law_X8_thrown rfl rfl rfl (by decide +kernel) ⟨Nat.le_of_ble_eq_true rfl, Nat.le_of_ble_eq_true rfl⟩) (by omega) hm2 (T := TX8) (N := 17) rfl rfl hl rfl (Nat.le_of_ble_eq_true rfl) dL_law_983 ⟨by show _ ≤ 601024; omega, by show _ ≤ 7293034; omega⟩) (fun zt g3 H locs hz3 G => ?_)
  obtain ⟨hg3, hzt⟩ := hz3
  rw [hg3] at G
  rw [hzt]
  refine g_iload C dL_law_986 hl 1 rfl ?_
  refine g_icmp_eq (tgt := 993) C (by omega) (by omega) dL_law_988 (by decide) (fun _ => ?_) (fun q => absurd rfl q)
  refine g_iload C dL_law_993 hl 1 rfl ?_
  refine g_if_ne (tgt := 1010) C (by omega) dL_law_995 (by decide) (fun hz0 => ?_) (fun hz0 => ?_)
  · refine g_goto (tgt := 1950) C dL_law_1010 (by decide) ?_
    refine W.widen (k := 210 + 3 * j + 3) (n := 33000 + 15 * j + 15) (by omega) (by omega) ?_
    exact kk g2 z H locs ls hLI ⟨o8, ho8⟩ G (lv_sub hl [2, 3, 4, 5, 6] rfl)
  · refine g_aload_n C dL_law_998 rfl hl 6 rfl ?_
    refine g_iconst (a := 0) C dL_law_999 rfl ?_
    refine g_laload C G (pos := 200) (by omega) ho8 (by decide) (by decide) (by decide) dL_law_1000 ?_
    rw [hv8 (by omega)]
    refine g_iload C dL_law_1001 hl 0 rfl ?_
    rw [iz_rI zm]
    refine g_i2l C (rI_in zm) dL_law_1003 ?_
    have hri := rI_in zm
    refine g_lcmp C (by omega) (by omega) dL_law_1004 (fun zc hc => ?_)
    refine g_if_eq (tgt := 1010) C (by omega) dL_law_1005 (by decide) (fun _ => ?_) (fun q => absurd q (by omega))
    refine g_goto (tgt := 1950) C dL_law_1010 (by decide) ?_
    refine W.widen (k := 210 + 3 * j + 3) (n := 33000 + 15 * j + 15) (by omega) (by omega) ?_
    exact kk g2 z H locs ls hLI ⟨o8, ho8⟩ G (lv_sub hl [2, 3, 4, 5, 6] rfl)
set_option maxHeartbeats 4000000 in
set_option maxRecDepth 100000 in
theorem lc_setRing (hlf : l.stackTraces = false) (C : gC p c cL_law 7 s m args wsL_law RL κ B 201 ad) (X : gX B s) (N9 : gNc s) (hXs : va_X b L xs s s.heap) (hbl : b < s.heap.size) (hB : B = s.heap.size) (hL : L ≤ 2560) {j : Nat} (hj : 5 * j + 5 ≤ L) (h : LI κ ad g th (1000 * (j : Int))) {o9 : Int → Int64} (ho : g 200 = aJ κ 1 o9) (G : gG κ B 201 ad s g H locs) (hl : lv_has ls 7 [(4, .int (iz (5 * (j : Int)))), (0, .ref b), (1, .ref (ad 0)), (2, .ref (ad 192)), (3, .ref (ad 200))]) (kk : ∀ (g : Nat → va_E) (th : Int) (H : Heap) (locs : List Loc) (ls : Array Slot), LI κ ad g th (1000 * (j : Int) + 1000) → (∃ o9 : Int → Int64, g 200 = aJ κ 1 o9) → gG κ B 201 ad s g H locs → lv_has ls 7 [(4, .int (iz (5 * (j : Int)))), (0, .ref b), (1, .ref (ad 0)), (2, .ref (ad 192)), (3, .ref (ad 200))] → W p l e room_1 s m args below meth c H locs (210 + 3 * j + 3) (33000 + 15 * j + 15) Q (F0 m 1950 ls [])) : W p l e room_1 s m args below meth c H locs (210 + 3 * j) (33000 + 15 * j) Q (F0 m 1013 ls []) := by
  refine g_aload_n C dL_law_1013 rfl hl 2 rfl ?_
  refine g_aload_n C dL_law_1014 rfl hl 1 rfl ?_
  refine g_iload C dL_law_1015 hl 0 rfl ?_
  refine g_iconst (a := 1) C dL_law_1017 rfl ?_
  refine g_iadd C dL_law_1018 ?_
  refine g_sld C G hXs hbl hB (by omega) (by omega) hL dL_law_1019 ?_
  refine g_aload_n C dL_law_1020 rfl hl 4 rfl ?_
  obtain ⟨CL, M1, hk1⟩ := op_setRing l hlf κ B ad g th (1000 * (j : Int)) (sxF xs ((5 * (j : Int)) + 1)) (sxF_in _ _) (by omega) h ho
  refine g_ci C G (g_runSY (As := [.ref (ad 0), .int (iz (sxF xs ((5 * (j : Int)) + 1))), .ref (ad 200)]) (rest := []) C G X N9 M1 (vx_cwSW (hh := [(0, 9, 12, 13)]) 3 C.1.2.2.2.2 gL_law_L_setRing rfl rfl rfl (by decide +kernel) ⟨Nat.le_of_ble_eq_true rfl, Nat.le_of_ble_eq_true rfl⟩) rfl hl rfl (Nat.le_of_ble_eq_true rfl) dL_law_1021 ⟨by show _ ≤ 601024; omega, by show _ ≤ 7293034; omega⟩) (fun z g1 H locs hz G => ?_)
  obtain ⟨⟨fs1, hm1⟩, MP, M2, hk2⟩ := hk1 z g1 hz
  refine lv_istore (lv' := [(5, .int (iz z)), (4, .int (iz (5 * (j : Int)))), (0, .ref b), (1, .ref (ad 0)), (2, .ref (ad 192)), (3, .ref (ad 200))]) C.1.1 C.1.2.1 dL_law_1024 hl (by decide) rfl (fun ls hl => ?_)
  refine g_aload_n C dL_law_1026 rfl hl 4 rfl ?_
  refine g_aload_n C dL_law_1027 rfl hl 2 rfl ?_
  refine g_iload C dL_law_1028 hl 1 rfl ?_
  refine g_iconst (a := 1) C dL_law_1030 rfl ?_
  refine g_iadd C dL_law_1031 ?_
  refine g_sld C G hXs hbl hB (by omega) (by omega) hL dL_law_1032 ?_
  refine g_ci C G (g_runV (As := [.int (iz (sxF xs ((5 * (j : Int)) + 1)))]) (rest := []) (pos := 192) C G M2 (cwV 1 C.1.2.2.2.2 gL_law_X8_setRing rfl rfl rfl (by decide +kernel) ⟨Nat.le_of_ble_eq_true rfl, Nat.le_of_ble_eq_true rfl⟩) (by omega) hm1 (T := TX8) (N := 17) rfl rfl hl rfl (Nat.le_of_ble_eq_true rfl) dL_law_1033 ⟨by show _ ≤ 601024; omega, by show _ ≤ 7293034; omega⟩) (fun zm g2 H locs hz2 G => ?_)
  obtain ⟨hLI, hzr, o8, ho8, hv8⟩ := hk2 zm g2 hz2
  obtain ⟨fs2, hm2, M3⟩ := hLI.thr l B
  refine lv_istore (lv' := [(6, .int (iz zm)), (5, .int (iz z)), (4, .int (iz (5 * (j : Int)))), (0, .ref b), (1, .ref (ad 0)), (2, .ref (ad 192)), (3, .ref (ad 200))]) C.1.1 C.1.2.1 dL_law_1036 hl (by decide) rfl (fun ls hl => ?_)
  refine g_aload_n C dL_law_1038 rfl hl 5 rfl ?_
  refine g_ci C G (g_runV (As := []) (rest := []) (pos := 192) C G M3 (cwV 0 C.1.2.2.2.2 gL_law_X8_thrown rfl rfl rfl (by decide +kernel) ⟨Nat.le_of_ble_eq_true rfl, Nat.le_of_ble_eq_true rfl⟩) (by omega) hm2 (T := TX8) (N := 17) rfl rfl hl rfl (Nat.le_of_ble_eq_true rfl) dL_law_1039 ⟨by show _ ≤ 601024; omega, by show _ ≤ 7293034; omega⟩) (fun zt g3 H locs hz3 G => ?_)
  obtain ⟨hg3, hzt⟩ := hz3
  rw [hg3] at G
  rw [hzt]
  refine g_iload C dL_law_1042 hl 1 rfl ?_
  refine g_icmp_eq (tgt := 1049) C (by omega) (by omega) dL_law_1044 (by decide) (fun _ => ?_) (fun q => absurd rfl q)
  refine g_iload C dL_law_1049 hl 1 rfl ?_
  refine g_if_ne (tgt := 1066) C (by omega) dL_law_1051 (by decide) (fun hz0 => ?_) (fun hz0 => ?_)
  · refine g_goto (tgt := 1950) C dL_law_1066 (by decide) ?_
    refine W.widen (k := 210 + 3 * j + 3) (n := 33000 + 15 * j + 15) (by omega) (by omega) ?_
    exact kk g2 z H locs ls hLI ⟨o8, ho8⟩ G (lv_sub hl [2, 3, 4, 5, 6] rfl)
  · refine g_aload_n C dL_law_1054 rfl hl 6 rfl ?_
    refine g_iconst (a := 0) C dL_law_1055 rfl ?_
    refine g_laload C G (pos := 200) (by omega) ho8 (by decide) (by decide) (by decide) dL_law_1056 ?_
    rw [hv8 (by omega)]
    refine g_iload C dL_law_1057 hl 0 rfl ?_
    rw [iz_rI zm]
    refine g_i2l C (rI_in zm) dL_law_1059 ?_
    have hri := rI_in zm
    refine g_lcmp C (by omega) (by omega) dL_law_1060 (fun zc hc => ?_)
    refine g_if_eq (tgt := 1066) C (by omega) dL_law_1061 (by decide) (fun _ => ?_) (fun q => absurd q (by omega))
    refine g_goto (tgt := 1950) C dL_law_1066 (by decide) ?_
    refine W.widen (k := 210 + 3 * j + 3) (n := 33000 + 15 * j + 15) (by omega) (by omega) ?_
    exact kk g2 z H locs ls hLI ⟨o8, ho8⟩ G (lv_sub hl [2, 3, 4, 5, 6] rfl)
set_option maxHeartbeats 4000000 in
set_option maxRecDepth 100000 in
theorem lc_addLayer (hlf : l.stackTraces = false) (C : gC p c cL_law 7 s m args wsL_law RL κ B 201 ad) (X : gX B s) (N9 : gNc s) (hXs : va_X b L xs s s.heap) (hbl : b < s.heap.size) (hB : B = s.heap.size) (hL : L ≤ 2560) {j : Nat} (hj : 5 * j + 5 ≤ L) (h : LI κ ad g th (1000 * (j : Int))) {o9 : Int → Int64} (ho : g 200 = aJ κ 1 o9) (G : gG κ B 201 ad s g H locs) (hl : lv_has ls 7 [(4, .int (iz (5 * (j : Int)))), (0, .ref b), (1, .ref (ad 0)), (2, .ref (ad 192)), (3, .ref (ad 200))]) (kk : ∀ (g : Nat → va_E) (th : Int) (H : Heap) (locs : List Loc) (ls : Array Slot), LI κ ad g th (1000 * (j : Int) + 1000) → (∃ o9 : Int → Int64, g 200 = aJ κ 1 o9) → gG κ B 201 ad s g H locs → lv_has ls 7 [(4, .int (iz (5 * (j : Int)))), (0, .ref b), (1, .ref (ad 0)), (2, .ref (ad 192)), (3, .ref (ad 200))] → W p l e room_1 s m args below meth c H locs (210 + 3 * j + 3) (33000 + 15 * j + 15) Q (F0 m 1950 ls [])) : W p l e room_1 s m args below meth c H locs (210 + 3 * j) (33000 + 15 * j) Q (F0 m 1069 ls []) := by
  refine g_aload_n C dL_law_1069 rfl hl 2 rfl ?_
  refine g_aload_n C dL_law_1070 rfl hl 1 rfl ?_
  refine g_iload C dL_law_1071 hl 0 rfl ?_
  refine g_iconst (a := 1) C dL_law_1073 rfl ?_
  refine g_iadd C dL_law_1074 ?_
  refine g_sld C G hXs hbl hB (by omega) (by omega) hL dL_law_1075 ?_
  refine g_aload_n C dL_law_1076 rfl hl 1 rfl ?_
  refine g_iload C dL_law_1077 hl 0 rfl ?_
  refine g_iconst (a := 2) C dL_law_1079 rfl ?_
  refine g_iadd C dL_law_1080 ?_
  refine g_sld C G hXs hbl hB (by omega) (by omega) hL dL_law_1081 ?_
  refine g_aload_n C dL_law_1082 rfl hl 1 rfl ?_
  refine g_iload C dL_law_1083 hl 0 rfl ?_
  refine g_iconst (a := 3) C dL_law_1085 rfl ?_
  refine g_iadd C dL_law_1086 ?_
  refine g_sld C G hXs hbl hB (by omega) (by omega) hL dL_law_1087 ?_
  refine g_aload_n C dL_law_1088 rfl hl 1 rfl ?_
  refine g_iload C dL_law_1089 hl 0 rfl ?_
  refine g_iconst (a := 4) C dL_law_1091 rfl ?_
  refine g_iadd C dL_law_1092 ?_
  refine g_sld C G hXs hbl hB (by omega) (by omega) hL dL_law_1093 ?_
  refine g_aload_n C dL_law_1094 rfl hl 4 rfl ?_
  obtain ⟨CL, M1, hk1⟩ := op_addLayer l hlf κ B ad g th (1000 * (j : Int)) (sxF xs ((5 * (j : Int)) + 1)) (sxF xs ((5 * (j : Int)) + 2)) (sxF xs ((5 * (j : Int)) + 3)) (sxF xs ((5 * (j : Int)) + 4)) (sxF_in _ _) (sxF_in _ _) (sxF_in _ _) (sxF_in _ _) (by omega) h ho
  refine g_ci C G (g_runSY (As := [.ref (ad 0), .int (iz (sxF xs ((5 * (j : Int)) + 1))), .int (iz (sxF xs ((5 * (j : Int)) + 2))), .int (iz (sxF xs ((5 * (j : Int)) + 3))), .int (iz (sxF xs ((5 * (j : Int)) + 4))), .ref (ad 200)]) (rest := []) C G X N9 M1 (vx_cwSW (hh := [(0, 14, 17, 13), (0, 14, 21, 15)]) 6 C.1.2.2.2.2 gL_law_L_addLayer rfl rfl rfl (by decide +kernel) ⟨Nat.le_of_ble_eq_true rfl, Nat.le_of_ble_eq_true rfl⟩) rfl hl rfl (Nat.le_of_ble_eq_true rfl) dL_law_1095 ⟨by show _ ≤ 601024; omega, by show _ ≤ 7293034; omega⟩) (fun z g1 H locs hz G => ?_)
  obtain ⟨⟨fs1, hm1⟩, MP, M2, hk2⟩ := hk1 z g1 hz
  refine lv_istore (lv' := [(5, .int (iz z)), (4, .int (iz (5 * (j : Int)))), (0, .ref b), (1, .ref (ad 0)), (2, .ref (ad 192)), (3, .ref (ad 200))]) C.1.1 C.1.2.1 dL_law_1098 hl (by decide) rfl (fun ls hl => ?_)
  refine g_aload_n C dL_law_1100 rfl hl 4 rfl ?_
  refine g_aload_n C dL_law_1101 rfl hl 2 rfl ?_
  refine g_iload C dL_law_1102 hl 1 rfl ?_
  refine g_iconst (a := 1) C dL_law_1104 rfl ?_
  refine g_iadd C dL_law_1105 ?_
  refine g_sld C G hXs hbl hB (by omega) (by omega) hL dL_law_1106 ?_
  refine g_aload_n C dL_law_1107 rfl hl 2 rfl ?_
  refine g_iload C dL_law_1108 hl 1 rfl ?_
  refine g_iconst (a := 2) C dL_law_1110 rfl ?_
  refine g_iadd C dL_law_1111 ?_
  refine g_sld C G hXs hbl hB (by omega) (by omega) hL dL_law_1112 ?_
  refine g_aload_n C dL_law_1113 rfl hl 2 rfl ?_
  refine g_iload C dL_law_1114 hl 1 rfl ?_
  refine g_iconst (a := 3) C dL_law_1116 rfl ?_
  refine g_iadd C dL_law_1117 ?_
  refine g_sld C G hXs hbl hB (by omega) (by omega) hL dL_law_1118 ?_
  refine g_aload_n C dL_law_1119 rfl hl 2 rfl ?_
  refine g_iload C dL_law_1120 hl 1 rfl ?_
  refine g_iconst (a := 4) C dL_law_1122 rfl ?_
  refine g_iadd C dL_law_1123 ?_
  refine g_sld C G hXs hbl hB (by omega) (by omega) hL dL_law_1124 ?_
  refine g_ci C G (g_runV (As := [.int (iz (sxF xs ((5 * (j : Int)) + 1))), .int (iz (sxF xs ((5 * (j : Int)) + 2))), .int (iz (sxF xs ((5 * (j : Int)) + 3))), .int (iz (sxF xs ((5 * (j : Int)) + 4)))]) (rest := []) (pos := 192) C G M2 (cwV 4 C.1.2.2.2.2 gL_law_X8_addLayer rfl rfl rfl (by decide +kernel) ⟨Nat.le_of_ble_eq_true rfl, Nat.le_of_ble_eq_true rfl⟩) (by omega) hm1 (T := TX8) (N := 17) rfl rfl hl rfl (Nat.le_of_ble_eq_true rfl) dL_law_1125 ⟨by show _ ≤ 601024; omega, by show _ ≤ 7293034; omega⟩) (fun zm g2 H locs hz2 G => ?_)
  obtain ⟨hLI, hzr, o8, ho8, hv8⟩ := hk2 zm g2 hz2
  obtain ⟨fs2, hm2, M3⟩ := hLI.thr l B
  refine lv_istore (lv' := [(6, .int (iz zm)), (5, .int (iz z)), (4, .int (iz (5 * (j : Int)))), (0, .ref b), (1, .ref (ad 0)), (2, .ref (ad 192)), (3, .ref (ad 200))]) C.1.1 C.1.2.1 dL_law_1128 hl (by decide) rfl (fun ls hl => ?_)
  refine g_aload_n C dL_law_1130 rfl hl 5 rfl ?_
  refine g_ci C G (g_runV (As := []) (rest := []) (pos := 192) C G M3 (cwV 0 C.1.2.2.2.2 gL_law_X8_thrown rfl rfl rfl (by decide +kernel) ⟨Nat.le_of_ble_eq_true rfl, Nat.le_of_ble_eq_true rfl⟩) (by omega) hm2 (T := TX8) (N := 17) rfl rfl hl rfl (Nat.le_of_ble_eq_true rfl) dL_law_1131 ⟨by show _ ≤ 601024; omega, by show _ ≤ 7293034; omega⟩) (fun zt g3 H locs hz3 G => ?_)
  obtain ⟨hg3, hzt⟩ := hz3
  rw [hg3] at G
  rw [hzt]
  refine g_iload C dL_law_1134 hl 1 rfl ?_
  refine g_icmp_eq (tgt := 1141) C (by omega) (by omega) dL_law_1136 (by decide) (fun _ => ?_) (fun q => absurd rfl q)
  refine g_iload C dL_law_1141 hl 1 rfl ?_
  refine g_if_ne (tgt := 1158) C (by omega) dL_law_1143 (by decide) (fun hz0 => ?_) (fun hz0 => ?_)
  · refine g_goto (tgt := 1950) C dL_law_1158 (by decide) ?_
    refine W.widen (k := 210 + 3 * j + 3) (n := 33000 + 15 * j + 15) (by omega) (by omega) ?_
    exact kk g2 z H locs ls hLI ⟨o8, ho8⟩ G (lv_sub hl [2, 3, 4, 5, 6] rfl)
  · refine g_aload_n C dL_law_1146 rfl hl 6 rfl ?_
    refine g_iconst (a := 0) C dL_law_1147 rfl ?_
    refine g_laload C G (pos := 200) (by omega) ho8 (by decide) (by decide) (by decide) dL_law_1148 ?_
    rw [hv8 (by omega)]
    refine g_iload C dL_law_1149 hl 0 rfl ?_
    rw [iz_rI zm]
    refine g_i2l C (rI_in zm) dL_law_1151 ?_
    have hri := rI_in zm
    refine g_lcmp C (by omega) (by omega) dL_law_1152 (fun zc hc => ?_)
    refine g_if_eq (tgt := 1158) C (by omega) dL_law_1153 (by decide) (fun _ => ?_) (fun q => absurd q (by omega))
    refine g_goto (tgt := 1950) C dL_law_1158 (by decide) ?_
    refine W.widen (k := 210 + 3 * j + 3) (n := 33000 + 15 * j + 15) (by omega) (by omega) ?_
    exact kk g2 z H locs ls hLI ⟨o8, ho8⟩ G (lv_sub hl [2, 3, 4, 5, 6] rfl)
set_option maxHeartbeats 4000000 in
set_option maxRecDepth 100000 in
theorem lc_change (hlf : l.stackTraces = false) (C : gC p c cL_law 7 s m args wsL_law RL κ B 201 ad) (X : gX B s) (N9 : gNc s) (hXs : va_X b L xs s s.heap) (hbl : b < s.heap.size) (hB : B = s.heap.size) (hL : L ≤ 2560) {j : Nat} (hj : 5 * j + 5 ≤ L) (h : LI κ ad g th (1000 * (j : Int))) {o9 : Int → Int64} (ho : g 200 = aJ κ 1 o9) (G : gG κ B 201 ad s g H locs) (hl : lv_has ls 7 [(4, .int (iz (5 * (j : Int)))), (0, .ref b), (1, .ref (ad 0)), (2, .ref (ad 192)), (3, .ref (ad 200))]) (kk : ∀ (g : Nat → va_E) (th : Int) (H : Heap) (locs : List Loc) (ls : Array Slot), LI κ ad g th (1000 * (j : Int) + 1000) → (∃ o9 : Int → Int64, g 200 = aJ κ 1 o9) → gG κ B 201 ad s g H locs → lv_has ls 7 [(4, .int (iz (5 * (j : Int)))), (0, .ref b), (1, .ref (ad 0)), (2, .ref (ad 192)), (3, .ref (ad 200))] → W p l e room_1 s m args below meth c H locs (210 + 3 * j + 3) (33000 + 15 * j + 15) Q (F0 m 1950 ls [])) : W p l e room_1 s m args below meth c H locs (210 + 3 * j) (33000 + 15 * j) Q (F0 m 1161 ls []) := by
  refine g_aload_n C dL_law_1161 rfl hl 2 rfl ?_
  refine g_aload_n C dL_law_1162 rfl hl 1 rfl ?_
  refine g_iload C dL_law_1163 hl 0 rfl ?_
  refine g_iconst (a := 1) C dL_law_1165 rfl ?_
  refine g_iadd C dL_law_1166 ?_
  refine g_sld C G hXs hbl hB (by omega) (by omega) hL dL_law_1167 ?_
  refine g_aload_n C dL_law_1168 rfl hl 1 rfl ?_
  refine g_iload C dL_law_1169 hl 0 rfl ?_
  refine g_iconst (a := 2) C dL_law_1171 rfl ?_
  refine g_iadd C dL_law_1172 ?_
  refine g_sld C G hXs hbl hB (by omega) (by omega) hL dL_law_1173 ?_
  refine g_aload_n C dL_law_1174 rfl hl 1 rfl ?_
  refine g_iload C dL_law_1175 hl 0 rfl ?_
  refine g_iconst (a := 3) C dL_law_1177 rfl ?_
  refine g_iadd C dL_law_1178 ?_
  refine g_sld C G hXs hbl hB (by omega) (by omega) hL dL_law_1179 ?_
  refine g_aload_n C dL_law_1180 rfl hl 4 rfl ?_
  obtain ⟨CL, M1, hk1⟩ := op_change l hlf κ B ad g th (1000 * (j : Int)) (sxF xs ((5 * (j : Int)) + 1)) (sxF xs ((5 * (j : Int)) + 2)) (sxF xs ((5 * (j : Int)) + 3)) (sxF_in _ _) (sxF_in _ _) (sxF_in _ _) (by omega) h ho
  refine g_ci C G (g_runSY (As := [.ref (ad 0), .int (iz (sxF xs ((5 * (j : Int)) + 1))), .int (iz (sxF xs ((5 * (j : Int)) + 2))), .int (iz (sxF xs ((5 * (j : Int)) + 3))), .ref (ad 200)]) (rest := []) C G X N9 M1 (vx_cwSW (hh := [(0, 12, 15, 28), (0, 12, 19, 13)]) 5 C.1.2.2.2.2 gL_law_L_change rfl rfl rfl (by decide +kernel) ⟨Nat.le_of_ble_eq_true rfl, Nat.le_of_ble_eq_true rfl⟩) rfl hl rfl (Nat.le_of_ble_eq_true rfl) dL_law_1181 ⟨by show _ ≤ 601024; omega, by show _ ≤ 7293034; omega⟩) (fun z g1 H locs hz G => ?_)
  obtain ⟨⟨fs1, hm1⟩, MP, M2, hk2⟩ := hk1 z g1 hz
  refine lv_istore (lv' := [(5, .int (iz z)), (4, .int (iz (5 * (j : Int)))), (0, .ref b), (1, .ref (ad 0)), (2, .ref (ad 192)), (3, .ref (ad 200))]) C.1.1 C.1.2.1 dL_law_1184 hl (by decide) rfl (fun ls hl => ?_)
  refine g_aload_n C dL_law_1186 rfl hl 4 rfl ?_
  refine g_aload_n C dL_law_1187 rfl hl 2 rfl ?_
  refine g_iload C dL_law_1188 hl 1 rfl ?_
  refine g_iconst (a := 1) C dL_law_1190 rfl ?_
  refine g_iadd C dL_law_1191 ?_
  refine g_sld C G hXs hbl hB (by omega) (by omega) hL dL_law_1192 ?_
  refine g_aload_n C dL_law_1193 rfl hl 2 rfl ?_
  refine g_iload C dL_law_1194 hl 1 rfl ?_
  refine g_iconst (a := 2) C dL_law_1196 rfl ?_
  refine g_iadd C dL_law_1197 ?_
  refine g_sld C G hXs hbl hB (by omega) (by omega) hL dL_law_1198 ?_
  refine g_aload_n C dL_law_1199 rfl hl 2 rfl ?_
  refine g_iload C dL_law_1200 hl 1 rfl ?_
  refine g_iconst (a := 3) C dL_law_1202 rfl ?_
  refine g_iadd C dL_law_1203 ?_
  refine g_sld C G hXs hbl hB (by omega) (by omega) hL dL_law_1204 ?_
  refine g_ci C G (g_runV (As := [.int (iz (sxF xs ((5 * (j : Int)) + 1))), .int (iz (sxF xs ((5 * (j : Int)) + 2))), .int (iz (sxF xs ((5 * (j : Int)) + 3)))]) (rest := []) (pos := 192) C G M2 (cwV 3 C.1.2.2.2.2 gL_law_X8_change rfl rfl rfl (by decide +kernel) ⟨Nat.le_of_ble_eq_true rfl, Nat.le_of_ble_eq_true rfl⟩) (by omega) hm1 (T := TX8) (N := 17) rfl rfl hl rfl (Nat.le_of_ble_eq_true rfl) dL_law_1205 ⟨by show _ ≤ 601024; omega, by show _ ≤ 7293034; omega⟩) (fun zm g2 H locs hz2 G => ?_)
  obtain ⟨hLI, hzr, o8, ho8, hv8⟩ := hk2 zm g2 hz2
  obtain ⟨fs2, hm2, M3⟩ := hLI.thr l B
  refine lv_istore (lv' := [(6, .int (iz zm)), (5, .int (iz z)), (4, .int (iz (5 * (j : Int)))), (0, .ref b), (1, .ref (ad 0)), (2, .ref (ad 192)), (3, .ref (ad 200))]) C.1.1 C.1.2.1 dL_law_1208 hl (by decide) rfl (fun ls hl => ?_)
  refine g_aload_n C dL_law_1210 rfl hl 5 rfl ?_
  refine g_ci C G (g_runV (As := []) (rest := []) (pos := 192) C G M3 (cwV 0 C.1.2.2.2.2 gL_law_X8_thrown rfl rfl rfl (by decide +kernel) ⟨Nat.le_of_ble_eq_true rfl, Nat.le_of_ble_eq_true rfl⟩) (by omega) hm2 (T := TX8) (N := 17) rfl rfl hl rfl (Nat.le_of_ble_eq_true rfl) dL_law_1211 ⟨by show _ ≤ 601024; omega, by show _ ≤ 7293034; omega⟩) (fun zt g3 H locs hz3 G => ?_)
  obtain ⟨hg3, hzt⟩ := hz3
  rw [hg3] at G
  rw [hzt]
  refine g_iload C dL_law_1214 hl 1 rfl ?_
  refine g_icmp_eq (tgt := 1221) C (by omega) (by omega) dL_law_1216 (by decide) (fun _ => ?_) (fun q => absurd rfl q)
  refine g_iload C dL_law_1221 hl 1 rfl ?_
  refine g_if_ne (tgt := 1238) C (by omega) dL_law_1223 (by decide) (fun hz0 => ?_) (fun hz0 => ?_)
  · refine g_goto (tgt := 1950) C dL_law_1238 (by decide) ?_
    refine W.widen (k := 210 + 3 * j + 3) (n := 33000 + 15 * j + 15) (by omega) (by omega) ?_
    exact kk g2 z H locs ls hLI ⟨o8, ho8⟩ G (lv_sub hl [2, 3, 4, 5, 6] rfl)
  · refine g_aload_n C dL_law_1226 rfl hl 6 rfl ?_
    refine g_iconst (a := 0) C dL_law_1227 rfl ?_
    refine g_laload C G (pos := 200) (by omega) ho8 (by decide) (by decide) (by decide) dL_law_1228 ?_
    rw [hv8 (by omega)]
    refine g_iload C dL_law_1229 hl 0 rfl ?_
    rw [iz_rI zm]
    refine g_i2l C (rI_in zm) dL_law_1231 ?_
    have hri := rI_in zm
    refine g_lcmp C (by omega) (by omega) dL_law_1232 (fun zc hc => ?_)
    refine g_if_eq (tgt := 1238) C (by omega) dL_law_1233 (by decide) (fun _ => ?_) (fun q => absurd q (by omega))
    refine g_goto (tgt := 1950) C dL_law_1238 (by decide) ?_
    refine W.widen (k := 210 + 3 * j + 3) (n := 33000 + 15 * j + 15) (by omega) (by omega) ?_
    exact kk g2 z H locs ls hLI ⟨o8, ho8⟩ G (lv_sub hl [2, 3, 4, 5, 6] rfl)
set_option maxHeartbeats 4000000 in
set_option maxRecDepth 100000 in
theorem lc_remove (hlf : l.stackTraces = false) (C : gC p c cL_law 7 s m args wsL_law RL κ B 201 ad) (X : gX B s) (N9 : gNc s) (hXs : va_X b L xs s s.heap) (hbl : b < s.heap.size) (hB : B = s.heap.size) (hL : L ≤ 2560) {j : Nat} (hj : 5 * j + 5 ≤ L) (h : LI κ ad g th (1000 * (j : Int))) {o9 : Int → Int64} (ho : g 200 = aJ κ 1 o9) (G : gG κ B 201 ad s g H locs) (hl : lv_has ls 7 [(4, .int (iz (5 * (j : Int)))), (0, .ref b), (1, .ref (ad 0)), (2, .ref (ad 192)), (3, .ref (ad 200))]) (kk : ∀ (g : Nat → va_E) (th : Int) (H : Heap) (locs : List Loc) (ls : Array Slot), LI κ ad g th (1000 * (j : Int) + 1000) → (∃ o9 : Int → Int64, g 200 = aJ κ 1 o9) → gG κ B 201 ad s g H locs → lv_has ls 7 [(4, .int (iz (5 * (j : Int)))), (0, .ref b), (1, .ref (ad 0)), (2, .ref (ad 192)), (3, .ref (ad 200))] → W p l e room_1 s m args below meth c H locs (210 + 3 * j + 3) (33000 + 15 * j + 15) Q (F0 m 1950 ls [])) : W p l e room_1 s m args below meth c H locs (210 + 3 * j) (33000 + 15 * j) Q (F0 m 1241 ls []) := by
  refine g_aload_n C dL_law_1241 rfl hl 2 rfl ?_
  refine g_aload_n C dL_law_1242 rfl hl 1 rfl ?_
  refine g_iload C dL_law_1243 hl 0 rfl ?_
  refine g_iconst (a := 1) C dL_law_1245 rfl ?_
  refine g_iadd C dL_law_1246 ?_
  refine g_sld C G hXs hbl hB (by omega) (by omega) hL dL_law_1247 ?_
  refine g_aload_n C dL_law_1248 rfl hl 4 rfl ?_
  obtain ⟨CL, M1, hk1⟩ := op_remove l hlf κ B ad g th (1000 * (j : Int)) (sxF xs ((5 * (j : Int)) + 1)) (sxF_in _ _) (by omega) h ho
  refine g_ci C G (g_runSY (As := [.ref (ad 0), .int (iz (sxF xs ((5 * (j : Int)) + 1))), .ref (ad 200)]) (rest := []) C G X N9 M1 (vx_cwSW (hh := [(0, 9, 12, 28)]) 3 C.1.2.2.2.2 gL_law_L_remove rfl rfl rfl (by decide +kernel) ⟨Nat.le_of_ble_eq_true rfl, Nat.le_of_ble_eq_true rfl⟩) rfl hl rfl (Nat.le_of_ble_eq_true rfl) dL_law_1249 ⟨by show _ ≤ 601024; omega, by show _ ≤ 7293034; omega⟩) (fun z g1 H locs hz G => ?_)
  obtain ⟨⟨fs1, hm1⟩, MP, M2, hk2⟩ := hk1 z g1 hz
  refine lv_istore (lv' := [(5, .int (iz z)), (4, .int (iz (5 * (j : Int)))), (0, .ref b), (1, .ref (ad 0)), (2, .ref (ad 192)), (3, .ref (ad 200))]) C.1.1 C.1.2.1 dL_law_1252 hl (by decide) rfl (fun ls hl => ?_)
  refine g_aload_n C dL_law_1254 rfl hl 4 rfl ?_
  refine g_aload_n C dL_law_1255 rfl hl 2 rfl ?_
  refine g_iload C dL_law_1256 hl 1 rfl ?_
  refine g_iconst (a := 1) C dL_law_1258 rfl ?_
  refine g_iadd C dL_law_1259 ?_
  refine g_sld C G hXs hbl hB (by omega) (by omega) hL dL_law_1260 ?_
  refine g_ci C G (g_runV (As := [.int (iz (sxF xs ((5 * (j : Int)) + 1)))]) (rest := []) (pos := 192) C G M2 (cwV 1 C.1.2.2.2.2 gL_law_X8_remove rfl rfl rfl (by decide +kernel) ⟨Nat.le_of_ble_eq_true rfl, Nat.le_of_ble_eq_true rfl⟩) (by omega) hm1 (T := TX8) (N := 17) rfl rfl hl rfl (Nat.le_of_ble_eq_true rfl) dL_law_1261 ⟨by show _ ≤ 601024; omega, by show _ ≤ 7293034; omega⟩) (fun zm g2 H locs hz2 G => ?_)
  obtain ⟨hLI, hzr, o8, ho8, hv8⟩ := hk2 zm g2 hz2
  obtain ⟨fs2, hm2, M3⟩ := hLI.thr l B
  refine lv_istore (lv' := [(6, .int (iz zm)), (5, .int (iz z)), (4, .int (iz (5 * (j : Int)))), (0, .ref b), (1, .ref (ad 0)), (2, .ref (ad 192)), (3, .ref (ad 200))]) C.1.1 C.1.2.1 dL_law_1264 hl (by decide) rfl (fun ls hl => ?_)
  refine g_aload_n C dL_law_1266 rfl hl 5 rfl ?_
  refine g_ci C G (g_runV (As := []) (rest := []) (pos := 192) C G M3 (cwV 0 C.1.2.2.2.2 gL_law_X8_thrown rfl rfl rfl (by decide +kernel) ⟨Nat.le_of_ble_eq_true rfl, Nat.le_of_ble_eq_true rfl⟩) (by omega) hm2 (T := TX8) (N := 17) rfl rfl hl rfl (Nat.le_of_ble_eq_true rfl) dL_law_1267 ⟨by show _ ≤ 601024; omega, by show _ ≤ 7293034; omega⟩) (fun zt g3 H locs hz3 G => ?_)
  obtain ⟨hg3, hzt⟩ := hz3
  rw [hg3] at G
  rw [hzt]
  refine g_iload C dL_law_1270 hl 1 rfl ?_
  refine g_icmp_eq (tgt := 1277) C (by omega) (by omega) dL_law_1272 (by decide) (fun _ => ?_) (fun q => absurd rfl q)
  refine g_iload C dL_law_1277 hl 1 rfl ?_
  refine g_if_ne (tgt := 1294) C (by omega) dL_law_1279 (by decide) (fun hz0 => ?_) (fun hz0 => ?_)
  · refine g_goto (tgt := 1950) C dL_law_1294 (by decide) ?_
    refine W.widen (k := 210 + 3 * j + 3) (n := 33000 + 15 * j + 15) (by omega) (by omega) ?_
    exact kk g2 z H locs ls hLI ⟨o8, ho8⟩ G (lv_sub hl [2, 3, 4, 5, 6] rfl)
  · refine g_aload_n C dL_law_1282 rfl hl 6 rfl ?_
    refine g_iconst (a := 0) C dL_law_1283 rfl ?_
    refine g_laload C G (pos := 200) (by omega) ho8 (by decide) (by decide) (by decide) dL_law_1284 ?_
    rw [hv8 (by omega)]
    refine g_iload C dL_law_1285 hl 0 rfl ?_
    rw [iz_rI zm]
    refine g_i2l C (rI_in zm) dL_law_1287 ?_
    have hri := rI_in zm
    refine g_lcmp C (by omega) (by omega) dL_law_1288 (fun zc hc => ?_)
    refine g_if_eq (tgt := 1294) C (by omega) dL_law_1289 (by decide) (fun _ => ?_) (fun q => absurd q (by omega))
    refine g_goto (tgt := 1950) C dL_law_1294 (by decide) ?_
    refine W.widen (k := 210 + 3 * j + 3) (n := 33000 + 15 * j + 15) (by omega) (by omega) ?_
    exact kk g2 z H locs ls hLI ⟨o8, ho8⟩ G (lv_sub hl [2, 3, 4, 5, 6] rfl)
set_option maxHeartbeats 4000000 in
set_option maxRecDepth 100000 in
theorem lc_see (hlf : l.stackTraces = false) (C : gC p c cL_law 7 s m args wsL_law RL κ B 201 ad) (X : gX B s) (N9 : gNc s) (hXs : va_X b L xs s s.heap) (hbl : b < s.heap.size) (hB : B = s.heap.size) (hL : L ≤ 2560) {j : Nat} (hj : 5 * j + 5 ≤ L) (h : LI κ ad g th (1000 * (j : Int))) {o9 : Int → Int64} (ho : g 200 = aJ κ 1 o9) (G : gG κ B 201 ad s g H locs) (hl : lv_has ls 7 [(4, .int (iz (5 * (j : Int)))), (0, .ref b), (1, .ref (ad 0)), (2, .ref (ad 192)), (3, .ref (ad 200))]) (kk : ∀ (g : Nat → va_E) (th : Int) (H : Heap) (locs : List Loc) (ls : Array Slot), LI κ ad g th (1000 * (j : Int) + 1000) → (∃ o9 : Int → Int64, g 200 = aJ κ 1 o9) → gG κ B 201 ad s g H locs → lv_has ls 7 [(4, .int (iz (5 * (j : Int)))), (0, .ref b), (1, .ref (ad 0)), (2, .ref (ad 192)), (3, .ref (ad 200))] → W p l e room_1 s m args below meth c H locs (210 + 3 * j + 3) (33000 + 15 * j + 15) Q (F0 m 1950 ls [])) : W p l e room_1 s m args below meth c H locs (210 + 3 * j) (33000 + 15 * j) Q (F0 m 1297 ls []) := by
  refine g_aload_n C dL_law_1297 rfl hl 2 rfl ?_
  refine g_aload_n C dL_law_1298 rfl hl 1 rfl ?_
  refine g_iload C dL_law_1299 hl 0 rfl ?_
  refine g_iconst (a := 1) C dL_law_1301 rfl ?_
  refine g_iadd C dL_law_1302 ?_
  refine g_sld C G hXs hbl hB (by omega) (by omega) hL dL_law_1303 ?_
  refine g_aload_n C dL_law_1304 rfl hl 1 rfl ?_
  refine g_iload C dL_law_1305 hl 0 rfl ?_
  refine g_iconst (a := 2) C dL_law_1307 rfl ?_
  refine g_iadd C dL_law_1308 ?_
  refine g_sld C G hXs hbl hB (by omega) (by omega) hL dL_law_1309 ?_
  refine g_aload_n C dL_law_1310 rfl hl 4 rfl ?_
  obtain ⟨CL, M1, hk1⟩ := op_see l hlf κ B ad g th (1000 * (j : Int)) (sxF xs ((5 * (j : Int)) + 1)) (sxF xs ((5 * (j : Int)) + 2)) (sxF_in _ _) (sxF_in _ _) (by omega) h ho
  refine g_ci C G (g_runSY (As := [.ref (ad 0), .int (iz (sxF xs ((5 * (j : Int)) + 1))), .int (iz (sxF xs ((5 * (j : Int)) + 2))), .ref (ad 200)]) (rest := []) C G X N9 M1 (vx_cwSW (hh := [(0, 10, 13, 13)]) 4 C.1.2.2.2.2 gL_law_L_see rfl rfl rfl (by decide +kernel) ⟨Nat.le_of_ble_eq_true rfl, Nat.le_of_ble_eq_true rfl⟩) rfl hl rfl (Nat.le_of_ble_eq_true rfl) dL_law_1311 ⟨by show _ ≤ 601024; omega, by show _ ≤ 7293034; omega⟩) (fun z g1 H locs hz G => ?_)
  obtain ⟨⟨fs1, hm1⟩, MP, M2, hk2⟩ := hk1 z g1 hz
  refine lv_istore (lv' := [(5, .int (iz z)), (4, .int (iz (5 * (j : Int)))), (0, .ref b), (1, .ref (ad 0)), (2, .ref (ad 192)), (3, .ref (ad 200))]) C.1.1 C.1.2.1 dL_law_1314 hl (by decide) rfl (fun ls hl => ?_)
  refine g_aload_n C dL_law_1316 rfl hl 4 rfl ?_
  refine g_aload_n C dL_law_1317 rfl hl 2 rfl ?_
  refine g_iload C dL_law_1318 hl 1 rfl ?_
  refine g_iconst (a := 1) C dL_law_1320 rfl ?_
  refine g_iadd C dL_law_1321 ?_
  refine g_sld C G hXs hbl hB (by omega) (by omega) hL dL_law_1322 ?_
  refine g_aload_n C dL_law_1323 rfl hl 2 rfl ?_
  refine g_iload C dL_law_1324 hl 1 rfl ?_
  refine g_iconst (a := 2) C dL_law_1326 rfl ?_
  refine g_iadd C dL_law_1327 ?_
  refine g_sld C G hXs hbl hB (by omega) (by omega) hL dL_law_1328 ?_
  refine g_ci C G (g_runV (As := [.int (iz (sxF xs ((5 * (j : Int)) + 1))), .int (iz (sxF xs ((5 * (j : Int)) + 2)))]) (rest := []) (pos := 192) C G M2 (cwV 2 C.1.2.2.2.2 gL_law_X8_see rfl rfl rfl (by decide +kernel) ⟨Nat.le_of_ble_eq_true rfl, Nat.le_of_ble_eq_true rfl⟩) (by omega) hm1 (T := TX8) (N := 17) rfl rfl hl rfl (Nat.le_of_ble_eq_true rfl) dL_law_1329 ⟨by show _ ≤ 601024; omega, by show _ ≤ 7293034; omega⟩) (fun zm g2 H locs hz2 G => ?_)
  obtain ⟨hLI, hzr, o8, ho8, hv8⟩ := hk2 zm g2 hz2
  obtain ⟨fs2, hm2, M3⟩ := hLI.thr l B
  refine lv_istore (lv' := [(6, .int (iz zm)), (5, .int (iz z)), (4, .int (iz (5 * (j : Int)))), (0, .ref b), (1, .ref (ad 0)), (2, .ref (ad 192)), (3, .ref (ad 200))]) C.1.1 C.1.2.1 dL_law_1332 hl (by decide) rfl (fun ls hl => ?_)
  refine g_aload_n C dL_law_1334 rfl hl 5 rfl ?_
  refine g_ci C G (g_runV (As := []) (rest := []) (pos := 192) C G M3 (cwV 0 C.1.2.2.2.2 gL_law_X8_thrown rfl rfl rfl (by decide +kernel) ⟨Nat.le_of_ble_eq_true rfl, Nat.le_of_ble_eq_true rfl⟩) (by omega) hm2 (T := TX8) (N := 17) rfl rfl hl rfl (Nat.le_of_ble_eq_true rfl) dL_law_1335 ⟨by show _ ≤ 601024; omega, by show _ ≤ 7293034; omega⟩) (fun zt g3 H locs hz3 G => ?_)
  obtain ⟨hg3, hzt⟩ := hz3
  rw [hg3] at G
  rw [hzt]
  refine g_iload C dL_law_1338 hl 1 rfl ?_
  refine g_icmp_eq (tgt := 1345) C (by omega) (by omega) dL_law_1340 (by decide) (fun _ => ?_) (fun q => absurd rfl q)
  refine g_iload C dL_law_1345 hl 1 rfl ?_
  refine g_if_ne (tgt := 1362) C (by omega) dL_law_1347 (by decide) (fun hz0 => ?_) (fun hz0 => ?_)
  · refine g_goto (tgt := 1950) C dL_law_1362 (by decide) ?_
    refine W.widen (k := 210 + 3 * j + 3) (n := 33000 + 15 * j + 15) (by omega) (by omega) ?_
    exact kk g2 z H locs ls hLI ⟨o8, ho8⟩ G (lv_sub hl [2, 3, 4, 5, 6] rfl)
  · refine g_aload_n C dL_law_1350 rfl hl 6 rfl ?_
    refine g_iconst (a := 0) C dL_law_1351 rfl ?_
    refine g_laload C G (pos := 200) (by omega) ho8 (by decide) (by decide) (by decide) dL_law_1352 ?_
    rw [hv8 (by omega)]
    refine g_iload C dL_law_1353 hl 0 rfl ?_
    rw [iz_rI zm]
    refine g_i2l C (rI_in zm) dL_law_1355 ?_
    have hri := rI_in zm
    refine g_lcmp C (by omega) (by omega) dL_law_1356 (fun zc hc => ?_)
    refine g_if_eq (tgt := 1362) C (by omega) dL_law_1357 (by decide) (fun _ => ?_) (fun q => absurd q (by omega))
    refine g_goto (tgt := 1950) C dL_law_1362 (by decide) ?_
    refine W.widen (k := 210 + 3 * j + 3) (n := 33000 + 15 * j + 15) (by omega) (by omega) ?_
    exact kk g2 z H locs ls hLI ⟨o8, ho8⟩ G (lv_sub hl [2, 3, 4, 5, 6] rfl)
set_option maxHeartbeats 4000000 in
set_option maxRecDepth 100000 in
theorem lc_forget (hlf : l.stackTraces = false) (C : gC p c cL_law 7 s m args wsL_law RL κ B 201 ad) (X : gX B s) (N9 : gNc s) (hXs : va_X b L xs s s.heap) (hbl : b < s.heap.size) (hB : B = s.heap.size) (hL : L ≤ 2560) {j : Nat} (hj : 5 * j + 5 ≤ L) (h : LI κ ad g th (1000 * (j : Int))) {o9 : Int → Int64} (ho : g 200 = aJ κ 1 o9) (G : gG κ B 201 ad s g H locs) (hl : lv_has ls 7 [(4, .int (iz (5 * (j : Int)))), (0, .ref b), (1, .ref (ad 0)), (2, .ref (ad 192)), (3, .ref (ad 200))]) (kk : ∀ (g : Nat → va_E) (th : Int) (H : Heap) (locs : List Loc) (ls : Array Slot), LI κ ad g th (1000 * (j : Int) + 1000) → (∃ o9 : Int → Int64, g 200 = aJ κ 1 o9) → gG κ B 201 ad s g H locs → lv_has ls 7 [(4, .int (iz (5 * (j : Int)))), (0, .ref b), (1, .ref (ad 0)), (2, .ref (ad 192)), (3, .ref (ad 200))] → W p l e room_1 s m args below meth c H locs (210 + 3 * j + 3) (33000 + 15 * j + 15) Q (F0 m 1950 ls [])) : W p l e room_1 s m args below meth c H locs (210 + 3 * j) (33000 + 15 * j) Q (F0 m 1365 ls []) := by
  obtain ⟨CL, M1, hk1⟩ := od_forget l κ B ad g th (1000 * (j : Int)) (by omega) h ho
  obtain ⟨fs0, hx0⟩ := h.x0
  refine g_aload_n C dL_law_1365 rfl hl 2 rfl ?_
  refine g_ci C G (g_runV (As := []) (rest := []) (pos := 0) C G M1 (cwV 0 C.1.2.2.2.2 gL_law_X7_forget rfl rfl rfl (by decide +kernel) ⟨Nat.le_of_ble_eq_true rfl, Nat.le_of_ble_eq_true rfl⟩) (by omega) hx0 (T := TX7) (N := 8) rfl rfl hl rfl (Nat.le_of_ble_eq_true rfl) dL_law_1366 ⟨by show _ ≤ 601024; omega, by show _ ≤ 7293034; omega⟩) (fun z g1 H locs hz G => ?_)
  obtain ⟨⟨fs1, hm1⟩, MP, M2, hk2⟩ := hk1 z g1 hz
  refine g_aload_n C dL_law_1369 rfl hl 3 rfl ?_
  refine g_ci C G (g_runV (As := []) (rest := [.int (iz z)]) (pos := 192) C G M2 (cwV 0 C.1.2.2.2.2 gL_law_X8_forget rfl rfl rfl (by decide +kernel) ⟨Nat.le_of_ble_eq_true rfl, Nat.le_of_ble_eq_true rfl⟩) (by omega) hm1 (T := TX8) (N := 17) rfl rfl hl rfl (Nat.le_of_ble_eq_true rfl) dL_law_1370 ⟨by show _ ≤ 601024; omega, by show _ ≤ 7293034; omega⟩) (fun zm g2 H locs hz2 G => ?_)
  obtain ⟨hzz, ⟨th9, hLI⟩, o8, ho8⟩ := hk2 zm g2 hz2
  rw [← hzz]
  rw [iz_rI z]
  have hri := rI_in z
  refine g_icmp_eq (tgt := 1950) C (by omega) (by omega) dL_law_1373 (by decide) (fun _ => ?_) (fun q => absurd rfl q)
  refine W.widen (k := 210 + 3 * j + 3) (n := 33000 + 15 * j + 15) (by omega) (by omega) ?_
  exact kk g2 th9 H locs ls hLI ⟨o8, ho8⟩ G (lv_sub hl [0, 1, 2, 3, 4] rfl)
set_option maxHeartbeats 4000000 in
set_option maxRecDepth 100000 in
theorem lc_undo (hlf : l.stackTraces = false) (C : gC p c cL_law 7 s m args wsL_law RL κ B 201 ad) (X : gX B s) (N9 : gNc s) (hXs : va_X b L xs s s.heap) (hbl : b < s.heap.size) (hB : B = s.heap.size) (hL : L ≤ 2560) {j : Nat} (hj : 5 * j + 5 ≤ L) (h : LI κ ad g th (1000 * (j : Int))) {o9 : Int → Int64} (ho : g 200 = aJ κ 1 o9) (G : gG κ B 201 ad s g H locs) (hl : lv_has ls 7 [(4, .int (iz (5 * (j : Int)))), (0, .ref b), (1, .ref (ad 0)), (2, .ref (ad 192)), (3, .ref (ad 200))]) (kk : ∀ (g : Nat → va_E) (th : Int) (H : Heap) (locs : List Loc) (ls : Array Slot), LI κ ad g th (1000 * (j : Int) + 1000) → (∃ o9 : Int → Int64, g 200 = aJ κ 1 o9) → gG κ B 201 ad s g H locs → lv_has ls 7 [(4, .int (iz (5 * (j : Int)))), (0, .ref b), (1, .ref (ad 0)), (2, .ref (ad 192)), (3, .ref (ad 200))] → W p l e room_1 s m args below meth c H locs (210 + 3 * j + 3) (33000 + 15 * j + 15) Q (F0 m 1950 ls [])) : W p l e room_1 s m args below meth c H locs (210 + 3 * j) (33000 + 15 * j) Q (F0 m 1378 ls []) := by
  refine g_aload_n C dL_law_1378 rfl hl 2 rfl ?_
  refine g_aload_n C dL_law_1379 rfl hl 4 rfl ?_
  obtain ⟨CL, M1, hk1⟩ := op_undo l hlf κ B ad g th (1000 * (j : Int))   (by omega) h ho
  refine g_ci C G (g_runSY (As := [.ref (ad 0), .ref (ad 200)]) (rest := []) C G X N9 M1 (vx_cwSW (hh := [(0, 8, 11, 15)]) 2 C.1.2.2.2.2 gL_law_L_undo rfl rfl rfl (by decide +kernel) ⟨Nat.le_of_ble_eq_true rfl, Nat.le_of_ble_eq_true rfl⟩) rfl hl rfl (Nat.le_of_ble_eq_true rfl) dL_law_1380 ⟨by show _ ≤ 601024; omega, by show _ ≤ 7293034; omega⟩) (fun z g1 H locs hz G => ?_)
  obtain ⟨⟨fs1, hm1⟩, MP, M2, hk2⟩ := hk1 z g1 hz
  refine lv_istore (lv' := [(5, .int (iz z)), (4, .int (iz (5 * (j : Int)))), (0, .ref b), (1, .ref (ad 0)), (2, .ref (ad 192)), (3, .ref (ad 200))]) C.1.1 C.1.2.1 dL_law_1383 hl (by decide) rfl (fun ls hl => ?_)
  refine g_aload_n C dL_law_1385 rfl hl 4 rfl ?_
  refine g_ci C G (g_runV (As := []) (rest := []) (pos := 192) C G M2 (cwV 0 C.1.2.2.2.2 gL_law_X8_undo rfl rfl rfl (by decide +kernel) ⟨Nat.le_of_ble_eq_true rfl, Nat.le_of_ble_eq_true rfl⟩) (by omega) hm1 (T := TX8) (N := 17) rfl rfl hl rfl (Nat.le_of_ble_eq_true rfl) dL_law_1386 ⟨by show _ ≤ 601024; omega, by show _ ≤ 7293034; omega⟩) (fun zm g2 H locs hz2 G => ?_)
  obtain ⟨hLI, hzr, o8, ho8, hv8⟩ := hk2 zm g2 hz2
  obtain ⟨fs2, hm2, M3⟩ := hLI.thr l B
  refine lv_istore (lv' := [(6, .int (iz zm)), (5, .int (iz z)), (4, .int (iz (5 * (j : Int)))), (0, .ref b), (1, .ref (ad 0)), (2, .ref (ad 192)), (3, .ref (ad 200))]) C.1.1 C.1.2.1 dL_law_1389 hl (by decide) rfl (fun ls hl => ?_)
  refine g_aload_n C dL_law_1391 rfl hl 5 rfl ?_
  refine g_ci C G (g_runV (As := []) (rest := []) (pos := 192) C G M3 (cwV 0 C.1.2.2.2.2 gL_law_X8_thrown rfl rfl rfl (by decide +kernel) ⟨Nat.le_of_ble_eq_true rfl, Nat.le_of_ble_eq_true rfl⟩) (by omega) hm2 (T := TX8) (N := 17) rfl rfl hl rfl (Nat.le_of_ble_eq_true rfl) dL_law_1392 ⟨by show _ ≤ 601024; omega, by show _ ≤ 7293034; omega⟩) (fun zt g3 H locs hz3 G => ?_)
  obtain ⟨hg3, hzt⟩ := hz3
  rw [hg3] at G
  rw [hzt]
  refine g_iload C dL_law_1395 hl 1 rfl ?_
  refine g_icmp_eq (tgt := 1402) C (by omega) (by omega) dL_law_1397 (by decide) (fun _ => ?_) (fun q => absurd rfl q)
  refine g_iload C dL_law_1402 hl 1 rfl ?_
  refine g_if_ne (tgt := 1419) C (by omega) dL_law_1404 (by decide) (fun hz0 => ?_) (fun hz0 => ?_)
  · refine g_goto (tgt := 1950) C dL_law_1419 (by decide) ?_
    refine W.widen (k := 210 + 3 * j + 3) (n := 33000 + 15 * j + 15) (by omega) (by omega) ?_
    exact kk g2 z H locs ls hLI ⟨o8, ho8⟩ G (lv_sub hl [2, 3, 4, 5, 6] rfl)
  · refine g_aload_n C dL_law_1407 rfl hl 6 rfl ?_
    refine g_iconst (a := 0) C dL_law_1408 rfl ?_
    refine g_laload C G (pos := 200) (by omega) ho8 (by decide) (by decide) (by decide) dL_law_1409 ?_
    rw [hv8 (by omega)]
    refine g_iload C dL_law_1410 hl 0 rfl ?_
    rw [iz_rI zm]
    refine g_i2l C (rI_in zm) dL_law_1412 ?_
    have hri := rI_in zm
    refine g_lcmp C (by omega) (by omega) dL_law_1413 (fun zc hc => ?_)
    refine g_if_eq (tgt := 1419) C (by omega) dL_law_1414 (by decide) (fun _ => ?_) (fun q => absurd q (by omega))
    refine g_goto (tgt := 1950) C dL_law_1419 (by decide) ?_
    refine W.widen (k := 210 + 3 * j + 3) (n := 33000 + 15 * j + 15) (by omega) (by omega) ?_
    exact kk g2 z H locs ls hLI ⟨o8, ho8⟩ G (lv_sub hl [2, 3, 4, 5, 6] rfl)
set_option maxHeartbeats 4000000 in
set_option maxRecDepth 100000 in
theorem lc_bestStart (hlf : l.stackTraces = false) (C : gC p c cL_law 7 s m args wsL_law RL κ B 201 ad) (X : gX B s) (N9 : gNc s) (hXs : va_X b L xs s s.heap) (hbl : b < s.heap.size) (hB : B = s.heap.size) (hL : L ≤ 2560) {j : Nat} (hj : 5 * j + 5 ≤ L) (h : LI κ ad g th (1000 * (j : Int))) {o9 : Int → Int64} (ho : g 200 = aJ κ 1 o9) (G : gG κ B 201 ad s g H locs) (hl : lv_has ls 7 [(4, .int (iz (5 * (j : Int)))), (0, .ref b), (1, .ref (ad 0)), (2, .ref (ad 192)), (3, .ref (ad 200))]) (kk : ∀ (g : Nat → va_E) (th : Int) (H : Heap) (locs : List Loc) (ls : Array Slot), LI κ ad g th (1000 * (j : Int) + 1000) → (∃ o9 : Int → Int64, g 200 = aJ κ 1 o9) → gG κ B 201 ad s g H locs → lv_has ls 7 [(4, .int (iz (5 * (j : Int)))), (0, .ref b), (1, .ref (ad 0)), (2, .ref (ad 192)), (3, .ref (ad 200))] → W p l e room_1 s m args below meth c H locs (210 + 3 * j + 3) (33000 + 15 * j + 15) Q (F0 m 1950 ls [])) : W p l e room_1 s m args below meth c H locs (210 + 3 * j) (33000 + 15 * j) Q (F0 m 1422 ls []) := by
  refine g_aload_n C dL_law_1422 rfl hl 2 rfl ?_
  refine g_aload_n C dL_law_1423 rfl hl 1 rfl ?_
  refine g_iload C dL_law_1424 hl 0 rfl ?_
  refine g_iconst (a := 1) C dL_law_1426 rfl ?_
  refine g_iadd C dL_law_1427 ?_
  refine g_sld C G hXs hbl hB (by omega) (by omega) hL dL_law_1428 ?_
  refine g_aload_n C dL_law_1429 rfl hl 1 rfl ?_
  refine g_iload C dL_law_1430 hl 0 rfl ?_
  refine g_iconst (a := 2) C dL_law_1432 rfl ?_
  refine g_iadd C dL_law_1433 ?_
  refine g_sld C G hXs hbl hB (by omega) (by omega) hL dL_law_1434 ?_
  refine g_aload_n C dL_law_1435 rfl hl 4 rfl ?_
  obtain ⟨CL, M1, hk1⟩ := op_bestStart l hlf κ B ad g th (1000 * (j : Int)) (sxF xs ((5 * (j : Int)) + 1)) (sxF xs ((5 * (j : Int)) + 2)) (sxF_in _ _) (sxF_in _ _) (by omega) h ho
  refine g_ci C G (g_runSY (As := [.ref (ad 0), .int (iz (sxF xs ((5 * (j : Int)) + 1))), .int (iz (sxF xs ((5 * (j : Int)) + 2))), .ref (ad 200)]) (rest := []) C G X N9 M1 (vx_cwSW (hh := [(0, 10, 13, 28), (0, 10, 17, 13)]) 4 C.1.2.2.2.2 gL_law_L_bestStart rfl rfl rfl (by decide +kernel) ⟨Nat.le_of_ble_eq_true rfl, Nat.le_of_ble_eq_true rfl⟩) rfl hl rfl (Nat.le_of_ble_eq_true rfl) dL_law_1436 ⟨by show _ ≤ 601024; omega, by show _ ≤ 7293034; omega⟩) (fun z g1 H locs hz G => ?_)
  obtain ⟨⟨fs1, hm1⟩, MP, M2, hk2⟩ := hk1 z g1 hz
  refine lv_istore (lv' := [(5, .int (iz z)), (4, .int (iz (5 * (j : Int)))), (0, .ref b), (1, .ref (ad 0)), (2, .ref (ad 192)), (3, .ref (ad 200))]) C.1.1 C.1.2.1 dL_law_1439 hl (by decide) rfl (fun ls hl => ?_)
  refine g_aload_n C dL_law_1441 rfl hl 4 rfl ?_
  refine g_aload_n C dL_law_1442 rfl hl 2 rfl ?_
  refine g_iload C dL_law_1443 hl 1 rfl ?_
  refine g_iconst (a := 1) C dL_law_1445 rfl ?_
  refine g_iadd C dL_law_1446 ?_
  refine g_sld C G hXs hbl hB (by omega) (by omega) hL dL_law_1447 ?_
  refine g_aload_n C dL_law_1448 rfl hl 2 rfl ?_
  refine g_iload C dL_law_1449 hl 1 rfl ?_
  refine g_iconst (a := 2) C dL_law_1451 rfl ?_
  refine g_iadd C dL_law_1452 ?_
  refine g_sld C G hXs hbl hB (by omega) (by omega) hL dL_law_1453 ?_
  refine g_ci C G (g_runV (As := [.int (iz (sxF xs ((5 * (j : Int)) + 1))), .int (iz (sxF xs ((5 * (j : Int)) + 2)))]) (rest := []) (pos := 192) C G M2 (cwV 2 C.1.2.2.2.2 gL_law_X8_bestStart rfl rfl rfl (by decide +kernel) ⟨Nat.le_of_ble_eq_true rfl, Nat.le_of_ble_eq_true rfl⟩) (by omega) hm1 (T := TX8) (N := 17) rfl rfl hl rfl (Nat.le_of_ble_eq_true rfl) dL_law_1454 ⟨by show _ ≤ 601024; omega, by show _ ≤ 7293034; omega⟩) (fun zm g2 H locs hz2 G => ?_)
  obtain ⟨hLI, hzr, o8, ho8, hv8⟩ := hk2 zm g2 hz2
  obtain ⟨fs2, hm2, M3⟩ := hLI.thr l B
  refine lv_istore (lv' := [(6, .int (iz zm)), (5, .int (iz z)), (4, .int (iz (5 * (j : Int)))), (0, .ref b), (1, .ref (ad 0)), (2, .ref (ad 192)), (3, .ref (ad 200))]) C.1.1 C.1.2.1 dL_law_1457 hl (by decide) rfl (fun ls hl => ?_)
  refine g_aload_n C dL_law_1459 rfl hl 5 rfl ?_
  refine g_ci C G (g_runV (As := []) (rest := []) (pos := 192) C G M3 (cwV 0 C.1.2.2.2.2 gL_law_X8_thrown rfl rfl rfl (by decide +kernel) ⟨Nat.le_of_ble_eq_true rfl, Nat.le_of_ble_eq_true rfl⟩) (by omega) hm2 (T := TX8) (N := 17) rfl rfl hl rfl (Nat.le_of_ble_eq_true rfl) dL_law_1460 ⟨by show _ ≤ 601024; omega, by show _ ≤ 7293034; omega⟩) (fun zt g3 H locs hz3 G => ?_)
  obtain ⟨hg3, hzt⟩ := hz3
  rw [hg3] at G
  rw [hzt]
  refine g_iload C dL_law_1463 hl 1 rfl ?_
  refine g_icmp_eq (tgt := 1470) C (by omega) (by omega) dL_law_1465 (by decide) (fun _ => ?_) (fun q => absurd rfl q)
  refine g_iload C dL_law_1470 hl 1 rfl ?_
  refine g_if_ne (tgt := 1487) C (by omega) dL_law_1472 (by decide) (fun hz0 => ?_) (fun hz0 => ?_)
  · refine g_goto (tgt := 1950) C dL_law_1487 (by decide) ?_
    refine W.widen (k := 210 + 3 * j + 3) (n := 33000 + 15 * j + 15) (by omega) (by omega) ?_
    exact kk g2 z H locs ls hLI ⟨o8, ho8⟩ G (lv_sub hl [2, 3, 4, 5, 6] rfl)
  · refine g_aload_n C dL_law_1475 rfl hl 6 rfl ?_
    refine g_iconst (a := 0) C dL_law_1476 rfl ?_
    refine g_laload C G (pos := 200) (by omega) ho8 (by decide) (by decide) (by decide) dL_law_1477 ?_
    rw [hv8 (by omega)]
    refine g_iload C dL_law_1478 hl 0 rfl ?_
    rw [iz_rI zm]
    refine g_i2l C (rI_in zm) dL_law_1480 ?_
    have hri := rI_in zm
    refine g_lcmp C (by omega) (by omega) dL_law_1481 (fun zc hc => ?_)
    refine g_if_eq (tgt := 1487) C (by omega) dL_law_1482 (by decide) (fun _ => ?_) (fun q => absurd q (by omega))
    refine g_goto (tgt := 1950) C dL_law_1487 (by decide) ?_
    refine W.widen (k := 210 + 3 * j + 3) (n := 33000 + 15 * j + 15) (by omega) (by omega) ?_
    exact kk g2 z H locs ls hLI ⟨o8, ho8⟩ G (lv_sub hl [2, 3, 4, 5, 6] rfl)
set_option maxHeartbeats 4000000 in
set_option maxRecDepth 100000 in
theorem lc_wheels (hlf : l.stackTraces = false) (C : gC p c cL_law 7 s m args wsL_law RL κ B 201 ad) (X : gX B s) (N9 : gNc s) (hXs : va_X b L xs s s.heap) (hbl : b < s.heap.size) (hB : B = s.heap.size) (hL : L ≤ 2560) {j : Nat} (hj : 5 * j + 5 ≤ L) (h : LI κ ad g th (1000 * (j : Int))) {o9 : Int → Int64} (ho : g 200 = aJ κ 1 o9) (G : gG κ B 201 ad s g H locs) (hl : lv_has ls 7 [(4, .int (iz (5 * (j : Int)))), (0, .ref b), (1, .ref (ad 0)), (2, .ref (ad 192)), (3, .ref (ad 200))]) (kk : ∀ (g : Nat → va_E) (th : Int) (H : Heap) (locs : List Loc) (ls : Array Slot), LI κ ad g th (1000 * (j : Int) + 1000) → (∃ o9 : Int → Int64, g 200 = aJ κ 1 o9) → gG κ B 201 ad s g H locs → lv_has ls 7 [(4, .int (iz (5 * (j : Int)))), (0, .ref b), (1, .ref (ad 0)), (2, .ref (ad 192)), (3, .ref (ad 200))] → W p l e room_1 s m args below meth c H locs (210 + 3 * j + 3) (33000 + 15 * j + 15) Q (F0 m 1950 ls [])) : W p l e room_1 s m args below meth c H locs (210 + 3 * j) (33000 + 15 * j) Q (F0 m 1490 ls []) := by
  refine g_aload_n C dL_law_1490 rfl hl 2 rfl ?_
  refine g_aload_n C dL_law_1491 rfl hl 1 rfl ?_
  refine g_iload C dL_law_1492 hl 0 rfl ?_
  refine g_iconst (a := 1) C dL_law_1494 rfl ?_
  refine g_iadd C dL_law_1495 ?_
  refine g_sld C G hXs hbl hB (by omega) (by omega) hL dL_law_1496 ?_
  refine g_aload_n C dL_law_1497 rfl hl 1 rfl ?_
  refine g_iload C dL_law_1498 hl 0 rfl ?_
  refine g_iconst (a := 2) C dL_law_1500 rfl ?_
  refine g_iadd C dL_law_1501 ?_
  refine g_sld C G hXs hbl hB (by omega) (by omega) hL dL_law_1502 ?_
  refine g_aload_n C dL_law_1503 rfl hl 1 rfl ?_
  refine g_iload C dL_law_1504 hl 0 rfl ?_
  refine g_iconst (a := 3) C dL_law_1506 rfl ?_
  refine g_iadd C dL_law_1507 ?_
  refine g_sld C G hXs hbl hB (by omega) (by omega) hL dL_law_1508 ?_
  refine g_aload_n C dL_law_1509 rfl hl 1 rfl ?_
  refine g_iload C dL_law_1510 hl 0 rfl ?_
  refine g_iconst (a := 4) C dL_law_1512 rfl ?_
  refine g_iadd C dL_law_1513 ?_
  refine g_sld C G hXs hbl hB (by omega) (by omega) hL dL_law_1514 ?_
  refine g_aload_n C dL_law_1515 rfl hl 4 rfl ?_
  obtain ⟨CL, M1, hk1⟩ := op_wheels l hlf κ B ad g th (1000 * (j : Int)) (sxF xs ((5 * (j : Int)) + 1)) (sxF xs ((5 * (j : Int)) + 2)) (sxF xs ((5 * (j : Int)) + 3)) (sxF xs ((5 * (j : Int)) + 4)) (sxF_in _ _) (sxF_in _ _) (sxF_in _ _) (sxF_in _ _) (by omega) h ho
  refine g_ci C G (g_runSY (As := [.ref (ad 0), .int (iz (sxF xs ((5 * (j : Int)) + 1))), .int (iz (sxF xs ((5 * (j : Int)) + 2))), .int (iz (sxF xs ((5 * (j : Int)) + 3))), .int (iz (sxF xs ((5 * (j : Int)) + 4))), .ref (ad 200)]) (rest := []) C G X N9 M1 (vx_cwSW (hh := [(0, 14, 17, 13)]) 6 C.1.2.2.2.2 gL_law_L_wheels rfl rfl rfl (by decide +kernel) ⟨Nat.le_of_ble_eq_true rfl, Nat.le_of_ble_eq_true rfl⟩) rfl hl rfl (Nat.le_of_ble_eq_true rfl) dL_law_1516 ⟨by show _ ≤ 601024; omega, by show _ ≤ 7293034; omega⟩) (fun z g1 H locs hz G => ?_)
  obtain ⟨⟨fs1, hm1⟩, MP, M2, hk2⟩ := hk1 z g1 hz
  refine lv_istore (lv' := [(5, .int (iz z)), (4, .int (iz (5 * (j : Int)))), (0, .ref b), (1, .ref (ad 0)), (2, .ref (ad 192)), (3, .ref (ad 200))]) C.1.1 C.1.2.1 dL_law_1519 hl (by decide) rfl (fun ls hl => ?_)
  refine g_aload_n C dL_law_1521 rfl hl 4 rfl ?_
  refine g_aload_n C dL_law_1522 rfl hl 2 rfl ?_
  refine g_iload C dL_law_1523 hl 1 rfl ?_
  refine g_iconst (a := 1) C dL_law_1525 rfl ?_
  refine g_iadd C dL_law_1526 ?_
  refine g_sld C G hXs hbl hB (by omega) (by omega) hL dL_law_1527 ?_
  refine g_aload_n C dL_law_1528 rfl hl 2 rfl ?_
  refine g_iload C dL_law_1529 hl 1 rfl ?_
  refine g_iconst (a := 2) C dL_law_1531 rfl ?_
  refine g_iadd C dL_law_1532 ?_
  refine g_sld C G hXs hbl hB (by omega) (by omega) hL dL_law_1533 ?_
  refine g_aload_n C dL_law_1534 rfl hl 2 rfl ?_
  refine g_iload C dL_law_1535 hl 1 rfl ?_
  refine g_iconst (a := 3) C dL_law_1537 rfl ?_
  refine g_iadd C dL_law_1538 ?_
  refine g_sld C G hXs hbl hB (by omega) (by omega) hL dL_law_1539 ?_
  refine g_aload_n C dL_law_1540 rfl hl 2 rfl ?_
  refine g_iload C dL_law_1541 hl 1 rfl ?_
  refine g_iconst (a := 4) C dL_law_1543 rfl ?_
  refine g_iadd C dL_law_1544 ?_
  refine g_sld C G hXs hbl hB (by omega) (by omega) hL dL_law_1545 ?_
  refine g_ci C G (g_runV (As := [.int (iz (sxF xs ((5 * (j : Int)) + 1))), .int (iz (sxF xs ((5 * (j : Int)) + 2))), .int (iz (sxF xs ((5 * (j : Int)) + 3))), .int (iz (sxF xs ((5 * (j : Int)) + 4)))]) (rest := []) (pos := 192) C G M2 (cwV 4 C.1.2.2.2.2 gL_law_X8_wheels rfl rfl rfl (by decide +kernel) ⟨Nat.le_of_ble_eq_true rfl, Nat.le_of_ble_eq_true rfl⟩) (by omega) hm1 (T := TX8) (N := 17) rfl rfl hl rfl (Nat.le_of_ble_eq_true rfl) dL_law_1546 ⟨by show _ ≤ 601024; omega, by show _ ≤ 7293034; omega⟩) (fun zm g2 H locs hz2 G => ?_)
  obtain ⟨hLI, hzr, o8, ho8, hv8⟩ := hk2 zm g2 hz2
  obtain ⟨fs2, hm2, M3⟩ := hLI.thr l B
  refine lv_istore (lv' := [(6, .int (iz zm)), (5, .int (iz z)), (4, .int (iz (5 * (j : Int)))), (0, .ref b), (1, .ref (ad 0)), (2, .ref (ad 192)), (3, .ref (ad 200))]) C.1.1 C.1.2.1 dL_law_1549 hl (by decide) rfl (fun ls hl => ?_)
  refine g_aload_n C dL_law_1551 rfl hl 5 rfl ?_
  refine g_ci C G (g_runV (As := []) (rest := []) (pos := 192) C G M3 (cwV 0 C.1.2.2.2.2 gL_law_X8_thrown rfl rfl rfl (by decide +kernel) ⟨Nat.le_of_ble_eq_true rfl, Nat.le_of_ble_eq_true rfl⟩) (by omega) hm2 (T := TX8) (N := 17) rfl rfl hl rfl (Nat.le_of_ble_eq_true rfl) dL_law_1552 ⟨by show _ ≤ 601024; omega, by show _ ≤ 7293034; omega⟩) (fun zt g3 H locs hz3 G => ?_)
  obtain ⟨hg3, hzt⟩ := hz3
  rw [hg3] at G
  rw [hzt]
  refine g_iload C dL_law_1555 hl 1 rfl ?_
  refine g_icmp_eq (tgt := 1562) C (by omega) (by omega) dL_law_1557 (by decide) (fun _ => ?_) (fun q => absurd rfl q)
  refine g_iload C dL_law_1562 hl 1 rfl ?_
  refine g_if_ne (tgt := 1579) C (by omega) dL_law_1564 (by decide) (fun hz0 => ?_) (fun hz0 => ?_)
  · refine g_goto (tgt := 1950) C dL_law_1579 (by decide) ?_
    refine W.widen (k := 210 + 3 * j + 3) (n := 33000 + 15 * j + 15) (by omega) (by omega) ?_
    exact kk g2 z H locs ls hLI ⟨o8, ho8⟩ G (lv_sub hl [2, 3, 4, 5, 6] rfl)
  · refine g_aload_n C dL_law_1567 rfl hl 6 rfl ?_
    refine g_iconst (a := 0) C dL_law_1568 rfl ?_
    refine g_laload C G (pos := 200) (by omega) ho8 (by decide) (by decide) (by decide) dL_law_1569 ?_
    rw [hv8 (by omega)]
    refine g_iload C dL_law_1570 hl 0 rfl ?_
    rw [iz_rI zm]
    refine g_i2l C (rI_in zm) dL_law_1572 ?_
    have hri := rI_in zm
    refine g_lcmp C (by omega) (by omega) dL_law_1573 (fun zc hc => ?_)
    refine g_if_eq (tgt := 1579) C (by omega) dL_law_1574 (by decide) (fun _ => ?_) (fun q => absurd q (by omega))
    refine g_goto (tgt := 1950) C dL_law_1579 (by decide) ?_
    refine W.widen (k := 210 + 3 * j + 3) (n := 33000 + 15 * j + 15) (by omega) (by omega) ?_
    exact kk g2 z H locs ls hLI ⟨o8, ho8⟩ G (lv_sub hl [2, 3, 4, 5, 6] rfl)
set_option maxHeartbeats 4000000 in
set_option maxRecDepth 100000 in
theorem lc_wheelFor (hlf : l.stackTraces = false) (C : gC p c cL_law 7 s m args wsL_law RL κ B 201 ad) (X : gX B s) (N9 : gNc s) (hXs : va_X b L xs s s.heap) (hbl : b < s.heap.size) (hB : B = s.heap.size) (hL : L ≤ 2560) {j : Nat} (hj : 5 * j + 5 ≤ L) (h : LI κ ad g th (1000 * (j : Int))) {o9 : Int → Int64} (ho : g 200 = aJ κ 1 o9) (G : gG κ B 201 ad s g H locs) (hl : lv_has ls 7 [(4, .int (iz (5 * (j : Int)))), (0, .ref b), (1, .ref (ad 0)), (2, .ref (ad 192)), (3, .ref (ad 200))]) (kk : ∀ (g : Nat → va_E) (th : Int) (H : Heap) (locs : List Loc) (ls : Array Slot), LI κ ad g th (1000 * (j : Int) + 1000) → (∃ o9 : Int → Int64, g 200 = aJ κ 1 o9) → gG κ B 201 ad s g H locs → lv_has ls 7 [(4, .int (iz (5 * (j : Int)))), (0, .ref b), (1, .ref (ad 0)), (2, .ref (ad 192)), (3, .ref (ad 200))] → W p l e room_1 s m args below meth c H locs (210 + 3 * j + 3) (33000 + 15 * j + 15) Q (F0 m 1950 ls [])) : W p l e room_1 s m args below meth c H locs (210 + 3 * j) (33000 + 15 * j) Q (F0 m 1582 ls []) := by
  refine g_aload_n C dL_law_1582 rfl hl 2 rfl ?_
  refine g_aload_n C dL_law_1583 rfl hl 1 rfl ?_
  refine g_iload C dL_law_1584 hl 0 rfl ?_
  refine g_iconst (a := 1) C dL_law_1586 rfl ?_
  refine g_iadd C dL_law_1587 ?_
  refine g_sld C G hXs hbl hB (by omega) (by omega) hL dL_law_1588 ?_
  refine g_aload_n C dL_law_1589 rfl hl 4 rfl ?_
  obtain ⟨CL, M1, hk1⟩ := op_wheelFor l hlf κ B ad g th (1000 * (j : Int)) (sxF xs ((5 * (j : Int)) + 1)) (sxF_in _ _) (by omega) h ho
  refine g_ci C G (g_runSY (As := [.ref (ad 0), .int (iz (sxF xs ((5 * (j : Int)) + 1))), .ref (ad 200)]) (rest := []) C G X N9 M1 (vx_cwSW (hh := [(0, 9, 12, 13)]) 3 C.1.2.2.2.2 gL_law_L_wheelFor rfl rfl rfl (by decide +kernel) ⟨Nat.le_of_ble_eq_true rfl, Nat.le_of_ble_eq_true rfl⟩) rfl hl rfl (Nat.le_of_ble_eq_true rfl) dL_law_1590 ⟨by show _ ≤ 601024; omega, by show _ ≤ 7293034; omega⟩) (fun z g1 H locs hz G => ?_)
  obtain ⟨⟨fs1, hm1⟩, MP, M2, hk2⟩ := hk1 z g1 hz
  refine lv_istore (lv' := [(5, .int (iz z)), (4, .int (iz (5 * (j : Int)))), (0, .ref b), (1, .ref (ad 0)), (2, .ref (ad 192)), (3, .ref (ad 200))]) C.1.1 C.1.2.1 dL_law_1593 hl (by decide) rfl (fun ls hl => ?_)
  refine g_aload_n C dL_law_1595 rfl hl 4 rfl ?_
  refine g_aload_n C dL_law_1596 rfl hl 2 rfl ?_
  refine g_iload C dL_law_1597 hl 1 rfl ?_
  refine g_iconst (a := 1) C dL_law_1599 rfl ?_
  refine g_iadd C dL_law_1600 ?_
  refine g_sld C G hXs hbl hB (by omega) (by omega) hL dL_law_1601 ?_
  refine g_ci C G (g_runV (As := [.int (iz (sxF xs ((5 * (j : Int)) + 1)))]) (rest := []) (pos := 192) C G M2 (cwV 1 C.1.2.2.2.2 gL_law_X8_wheelFor rfl rfl rfl (by decide +kernel) ⟨Nat.le_of_ble_eq_true rfl, Nat.le_of_ble_eq_true rfl⟩) (by omega) hm1 (T := TX8) (N := 17) rfl rfl hl rfl (Nat.le_of_ble_eq_true rfl) dL_law_1602 ⟨by show _ ≤ 601024; omega, by show _ ≤ 7293034; omega⟩) (fun zm g2 H locs hz2 G => ?_)
  obtain ⟨hLI, hzr, o8, ho8, hv8⟩ := hk2 zm g2 hz2
  obtain ⟨fs2, hm2, M3⟩ := hLI.thr l B
  refine lv_istore (lv' := [(6, .int (iz zm)), (5, .int (iz z)), (4, .int (iz (5 * (j : Int)))), (0, .ref b), (1, .ref (ad 0)), (2, .ref (ad 192)), (3, .ref (ad 200))]) C.1.1 C.1.2.1 dL_law_1605 hl (by decide) rfl (fun ls hl => ?_)
  refine g_aload_n C dL_law_1607 rfl hl 5 rfl ?_
  refine g_ci C G (g_runV (As := []) (rest := []) (pos := 192) C G M3 (cwV 0 C.1.2.2.2.2 gL_law_X8_thrown rfl rfl rfl (by decide +kernel) ⟨Nat.le_of_ble_eq_true rfl, Nat.le_of_ble_eq_true rfl⟩) (by omega) hm2 (T := TX8) (N := 17) rfl rfl hl rfl (Nat.le_of_ble_eq_true rfl) dL_law_1608 ⟨by show _ ≤ 601024; omega, by show _ ≤ 7293034; omega⟩) (fun zt g3 H locs hz3 G => ?_)
  obtain ⟨hg3, hzt⟩ := hz3
  rw [hg3] at G
  rw [hzt]
  refine g_iload C dL_law_1611 hl 1 rfl ?_
  refine g_icmp_eq (tgt := 1618) C (by omega) (by omega) dL_law_1613 (by decide) (fun _ => ?_) (fun q => absurd rfl q)
  refine g_iload C dL_law_1618 hl 1 rfl ?_
  refine g_if_ne (tgt := 1635) C (by omega) dL_law_1620 (by decide) (fun hz0 => ?_) (fun hz0 => ?_)
  · refine g_goto (tgt := 1950) C dL_law_1635 (by decide) ?_
    refine W.widen (k := 210 + 3 * j + 3) (n := 33000 + 15 * j + 15) (by omega) (by omega) ?_
    exact kk g2 z H locs ls hLI ⟨o8, ho8⟩ G (lv_sub hl [2, 3, 4, 5, 6] rfl)
  · refine g_aload_n C dL_law_1623 rfl hl 6 rfl ?_
    refine g_iconst (a := 0) C dL_law_1624 rfl ?_
    refine g_laload C G (pos := 200) (by omega) ho8 (by decide) (by decide) (by decide) dL_law_1625 ?_
    rw [hv8 (by omega)]
    refine g_iload C dL_law_1626 hl 0 rfl ?_
    rw [iz_rI zm]
    refine g_i2l C (rI_in zm) dL_law_1628 ?_
    have hri := rI_in zm
    refine g_lcmp C (by omega) (by omega) dL_law_1629 (fun zc hc => ?_)
    refine g_if_eq (tgt := 1635) C (by omega) dL_law_1630 (by decide) (fun _ => ?_) (fun q => absurd q (by omega))
    refine g_goto (tgt := 1950) C dL_law_1635 (by decide) ?_
    refine W.widen (k := 210 + 3 * j + 3) (n := 33000 + 15 * j + 15) (by omega) (by omega) ?_
    exact kk g2 z H locs ls hLI ⟨o8, ho8⟩ G (lv_sub hl [2, 3, 4, 5, 6] rfl)
set_option maxHeartbeats 4000000 in
set_option maxRecDepth 100000 in
theorem lc_runScript (hlf : l.stackTraces = false) (C : gC p c cL_law 7 s m args wsL_law RL κ B 201 ad) (X : gX B s) (N9 : gNc s) (hXs : va_X b L xs s s.heap) (hbl : b < s.heap.size) (hB : B = s.heap.size) (hL : L ≤ 2560) {j : Nat} (hj : 5 * j + 5 ≤ L) (h : LI κ ad g th (1000 * (j : Int))) {o9 : Int → Int64} (ho : g 200 = aJ κ 1 o9) (G : gG κ B 201 ad s g H locs) (hl : lv_has ls 7 [(4, .int (iz (5 * (j : Int)))), (0, .ref b), (1, .ref (ad 0)), (2, .ref (ad 192)), (3, .ref (ad 200))]) (kk : ∀ (g : Nat → va_E) (th : Int) (H : Heap) (locs : List Loc) (ls : Array Slot), LI κ ad g th (1000 * (j : Int) + 1000) → (∃ o9 : Int → Int64, g 200 = aJ κ 1 o9) → gG κ B 201 ad s g H locs → lv_has ls 7 [(4, .int (iz (5 * (j : Int)))), (0, .ref b), (1, .ref (ad 0)), (2, .ref (ad 192)), (3, .ref (ad 200))] → W p l e room_1 s m args below meth c H locs (210 + 3 * j + 3) (33000 + 15 * j + 15) Q (F0 m 1950 ls [])) : W p l e room_1 s m args below meth c H locs (210 + 3 * j) (33000 + 15 * j) Q (F0 m 1638 ls []) := by
  refine g_aload_n C dL_law_1638 rfl hl 2 rfl ?_
  refine g_aload_n C dL_law_1639 rfl hl 1 rfl ?_
  refine g_iload C dL_law_1640 hl 0 rfl ?_
  refine g_iconst (a := 1) C dL_law_1642 rfl ?_
  refine g_iadd C dL_law_1643 ?_
  refine g_sld C G hXs hbl hB (by omega) (by omega) hL dL_law_1644 ?_
  refine g_aload_n C dL_law_1645 rfl hl 1 rfl ?_
  refine g_iload C dL_law_1646 hl 0 rfl ?_
  refine g_iconst (a := 2) C dL_law_1648 rfl ?_
  refine g_iadd C dL_law_1649 ?_
  refine g_sld C G hXs hbl hB (by omega) (by omega) hL dL_law_1650 ?_
  refine g_i2l C (sxF_in _ _) dL_law_1651 ?_
  refine g_bipush (a := 32) C dL_law_1652 (by decide) ?_
  refine lv_lshl C.1.1 C.1.2.1 dL_law_1654 rfl ?_
  refine g_aload_n C dL_law_1655 rfl hl 1 rfl ?_
  refine g_iload C dL_law_1656 hl 0 rfl ?_
  refine g_iconst (a := 3) C dL_law_1658 rfl ?_
  refine g_iadd C dL_law_1659 ?_
  refine g_sld C G hXs hbl hB (by omega) (by omega) hL dL_law_1660 ?_
  refine g_i2l C (sxF_in _ _) dL_law_1661 ?_
  refine g_ldc2 (a := 4294967295) C (by decide +kernel) dL_law_1662 ?_
  refine lv_land C.1.1 C.1.2.1 dL_law_1665 ?_
  refine lv_lor C.1.1 C.1.2.1 dL_law_1666 ?_
  rw [show (jz (sxF xs ((5 * (j : Int)) + 2)) <<< ((iz 32).toInt64 &&& 63) ||| (jz (sxF xs ((5 * (j : Int)) + 3)) &&& jz 4294967295) : Int64) = jz (lgC (sxF xs ((5 * (j : Int)) + 2)) (sxF xs ((5 * (j : Int)) + 3))) from jz_of _]
  refine g_aload_n C dL_law_1667 rfl hl 4 rfl ?_
  obtain ⟨CL, M1, hk1⟩ := op_runScript l hlf κ B ad g th (1000 * (j : Int)) (sxF xs ((5 * (j : Int)) + 1)) (lgC (sxF xs ((5 * (j : Int)) + 2)) (sxF xs ((5 * (j : Int)) + 3))) (sxF_in _ _) (lgC_in _ _) (by omega) h ho
  refine g_ci C G (g_runSY (As := [.ref (ad 0), .int (iz (sxF xs ((5 * (j : Int)) + 1))), .long (jz (lgC (sxF xs ((5 * (j : Int)) + 2)) (sxF xs ((5 * (j : Int)) + 3)))), .ref (ad 200)]) (rest := []) C G X N9 M1 (vx_cwSW (hh := [(0, 11, 14, 13)]) 4 C.1.2.2.2.2 gL_law_L_runScript rfl rfl rfl (by decide +kernel) ⟨Nat.le_of_ble_eq_true rfl, Nat.le_of_ble_eq_true rfl⟩) rfl hl rfl (Nat.le_of_ble_eq_true rfl) dL_law_1668 ⟨by show _ ≤ 601024; omega, by show _ ≤ 7293034; omega⟩) (fun z g1 H locs hz G => ?_)
  obtain ⟨⟨fs1, hm1⟩, MP, M2, hk2⟩ := hk1 z g1 hz
  refine lv_istore (lv' := [(5, .int (iz z)), (4, .int (iz (5 * (j : Int)))), (0, .ref b), (1, .ref (ad 0)), (2, .ref (ad 192)), (3, .ref (ad 200))]) C.1.1 C.1.2.1 dL_law_1671 hl (by decide) rfl (fun ls hl => ?_)
  refine g_aload_n C dL_law_1673 rfl hl 4 rfl ?_
  refine g_aload_n C dL_law_1674 rfl hl 2 rfl ?_
  refine g_iload C dL_law_1675 hl 1 rfl ?_
  refine g_iconst (a := 1) C dL_law_1677 rfl ?_
  refine g_iadd C dL_law_1678 ?_
  refine g_sld C G hXs hbl hB (by omega) (by omega) hL dL_law_1679 ?_
  refine g_aload_n C dL_law_1680 rfl hl 2 rfl ?_
  refine g_iload C dL_law_1681 hl 1 rfl ?_
  refine g_iconst (a := 2) C dL_law_1683 rfl ?_
  refine g_iadd C dL_law_1684 ?_
  refine g_sld C G hXs hbl hB (by omega) (by omega) hL dL_law_1685 ?_
  refine g_i2l C (sxF_in _ _) dL_law_1686 ?_
  refine g_bipush (a := 32) C dL_law_1687 (by decide) ?_
  refine lv_lshl C.1.1 C.1.2.1 dL_law_1689 rfl ?_
  refine g_aload_n C dL_law_1690 rfl hl 2 rfl ?_
  refine g_iload C dL_law_1691 hl 1 rfl ?_
  refine g_iconst (a := 3) C dL_law_1693 rfl ?_
  refine g_iadd C dL_law_1694 ?_
  refine g_sld C G hXs hbl hB (by omega) (by omega) hL dL_law_1695 ?_
  refine g_i2l C (sxF_in _ _) dL_law_1696 ?_
  refine g_ldc2 (a := 4294967295) C (by decide +kernel) dL_law_1697 ?_
  refine lv_land C.1.1 C.1.2.1 dL_law_1700 ?_
  refine lv_lor C.1.1 C.1.2.1 dL_law_1701 ?_
  rw [show (jz (sxF xs ((5 * (j : Int)) + 2)) <<< ((iz 32).toInt64 &&& 63) ||| (jz (sxF xs ((5 * (j : Int)) + 3)) &&& jz 4294967295) : Int64) = jz (lgC (sxF xs ((5 * (j : Int)) + 2)) (sxF xs ((5 * (j : Int)) + 3))) from jz_of _]
  refine g_ci C G (g_runV (As := [.int (iz (sxF xs ((5 * (j : Int)) + 1))), .long (jz (lgC (sxF xs ((5 * (j : Int)) + 2)) (sxF xs ((5 * (j : Int)) + 3))))]) (rest := []) (pos := 192) C G M2 (cwV 2 C.1.2.2.2.2 gL_law_X8_runScript rfl rfl rfl (by decide +kernel) ⟨Nat.le_of_ble_eq_true rfl, Nat.le_of_ble_eq_true rfl⟩) (by omega) hm1 (T := TX8) (N := 17) rfl rfl hl rfl (Nat.le_of_ble_eq_true rfl) dL_law_1702 ⟨by show _ ≤ 601024; omega, by show _ ≤ 7293034; omega⟩) (fun zm g2 H locs hz2 G => ?_)
  obtain ⟨hLI, hzr, o8, ho8, hv8⟩ := hk2 zm g2 hz2
  obtain ⟨fs2, hm2, M3⟩ := hLI.thr l B
  refine lv_istore (lv' := [(6, .int (iz zm)), (5, .int (iz z)), (4, .int (iz (5 * (j : Int)))), (0, .ref b), (1, .ref (ad 0)), (2, .ref (ad 192)), (3, .ref (ad 200))]) C.1.1 C.1.2.1 dL_law_1705 hl (by decide) rfl (fun ls hl => ?_)
  refine g_aload_n C dL_law_1707 rfl hl 5 rfl ?_
  refine g_ci C G (g_runV (As := []) (rest := []) (pos := 192) C G M3 (cwV 0 C.1.2.2.2.2 gL_law_X8_thrown rfl rfl rfl (by decide +kernel) ⟨Nat.le_of_ble_eq_true rfl, Nat.le_of_ble_eq_true rfl⟩) (by omega) hm2 (T := TX8) (N := 17) rfl rfl hl rfl (Nat.le_of_ble_eq_true rfl) dL_law_1708 ⟨by show _ ≤ 601024; omega, by show _ ≤ 7293034; omega⟩) (fun zt g3 H locs hz3 G => ?_)
  obtain ⟨hg3, hzt⟩ := hz3
  rw [hg3] at G
  rw [hzt]
  refine g_iload C dL_law_1711 hl 1 rfl ?_
  refine g_icmp_eq (tgt := 1718) C (by omega) (by omega) dL_law_1713 (by decide) (fun _ => ?_) (fun q => absurd rfl q)
  refine g_iload C dL_law_1718 hl 1 rfl ?_
  refine g_if_ne (tgt := 1735) C (by omega) dL_law_1720 (by decide) (fun hz0 => ?_) (fun hz0 => ?_)
  · refine g_goto (tgt := 1950) C dL_law_1735 (by decide) ?_
    refine W.widen (k := 210 + 3 * j + 3) (n := 33000 + 15 * j + 15) (by omega) (by omega) ?_
    exact kk g2 z H locs ls hLI ⟨o8, ho8⟩ G (lv_sub hl [2, 3, 4, 5, 6] rfl)
  · refine g_aload_n C dL_law_1723 rfl hl 6 rfl ?_
    refine g_iconst (a := 0) C dL_law_1724 rfl ?_
    refine g_laload C G (pos := 200) (by omega) ho8 (by decide) (by decide) (by decide) dL_law_1725 ?_
    rw [hv8 (by omega)]
    refine g_iload C dL_law_1726 hl 0 rfl ?_
    rw [iz_rI zm]
    refine g_i2l C (rI_in zm) dL_law_1728 ?_
    have hri := rI_in zm
    refine g_lcmp C (by omega) (by omega) dL_law_1729 (fun zc hc => ?_)
    refine g_if_eq (tgt := 1735) C (by omega) dL_law_1730 (by decide) (fun _ => ?_) (fun q => absurd q (by omega))
    refine g_goto (tgt := 1950) C dL_law_1735 (by decide) ?_
    refine W.widen (k := 210 + 3 * j + 3) (n := 33000 + 15 * j + 15) (by omega) (by omega) ?_
    exact kk g2 z H locs ls hLI ⟨o8, ho8⟩ G (lv_sub hl [2, 3, 4, 5, 6] rfl)
set_option maxHeartbeats 4000000 in
set_option maxRecDepth 100000 in
theorem lc_simulate (hlf : l.stackTraces = false) (C : gC p c cL_law 7 s m args wsL_law RL κ B 201 ad) (X : gX B s) (N9 : gNc s) (hXs : va_X b L xs s s.heap) (hbl : b < s.heap.size) (hB : B = s.heap.size) (hL : L ≤ 2560) {j : Nat} (hj : 5 * j + 5 ≤ L) (h : LI κ ad g th (1000 * (j : Int))) {o9 : Int → Int64} (ho : g 200 = aJ κ 1 o9) (G : gG κ B 201 ad s g H locs) (hl : lv_has ls 7 [(4, .int (iz (5 * (j : Int)))), (0, .ref b), (1, .ref (ad 0)), (2, .ref (ad 192)), (3, .ref (ad 200))]) (kk : ∀ (g : Nat → va_E) (th : Int) (H : Heap) (locs : List Loc) (ls : Array Slot), LI κ ad g th (1000 * (j : Int) + 1000) → (∃ o9 : Int → Int64, g 200 = aJ κ 1 o9) → gG κ B 201 ad s g H locs → lv_has ls 7 [(4, .int (iz (5 * (j : Int)))), (0, .ref b), (1, .ref (ad 0)), (2, .ref (ad 192)), (3, .ref (ad 200))] → W p l e room_1 s m args below meth c H locs (210 + 3 * j + 3) (33000 + 15 * j + 15) Q (F0 m 1950 ls [])) : W p l e room_1 s m args below meth c H locs (210 + 3 * j) (33000 + 15 * j) Q (F0 m 1738 ls []) := by
  refine g_aload_n C dL_law_1738 rfl hl 2 rfl ?_
  refine g_aload_n C dL_law_1739 rfl hl 1 rfl ?_
  refine g_iload C dL_law_1740 hl 0 rfl ?_
  refine g_iconst (a := 1) C dL_law_1742 rfl ?_
  refine g_iadd C dL_law_1743 ?_
  refine g_sld C G hXs hbl hB (by omega) (by omega) hL dL_law_1744 ?_
  refine g_i2l C (sxF_in _ _) dL_law_1745 ?_
  refine g_bipush (a := 32) C dL_law_1746 (by decide) ?_
  refine lv_lshl C.1.1 C.1.2.1 dL_law_1748 rfl ?_
  refine g_aload_n C dL_law_1749 rfl hl 1 rfl ?_
  refine g_iload C dL_law_1750 hl 0 rfl ?_
  refine g_iconst (a := 2) C dL_law_1752 rfl ?_
  refine g_iadd C dL_law_1753 ?_
  refine g_sld C G hXs hbl hB (by omega) (by omega) hL dL_law_1754 ?_
  refine g_i2l C (sxF_in _ _) dL_law_1755 ?_
  refine g_ldc2 (a := 4294967295) C (by decide +kernel) dL_law_1756 ?_
  refine lv_land C.1.1 C.1.2.1 dL_law_1759 ?_
  refine lv_lor C.1.1 C.1.2.1 dL_law_1760 ?_
  rw [show (jz (sxF xs ((5 * (j : Int)) + 1)) <<< ((iz 32).toInt64 &&& 63) ||| (jz (sxF xs ((5 * (j : Int)) + 2)) &&& jz 4294967295) : Int64) = jz (lgC (sxF xs ((5 * (j : Int)) + 1)) (sxF xs ((5 * (j : Int)) + 2))) from jz_of _]
  refine g_aload_n C dL_law_1761 rfl hl 1 rfl ?_
  refine g_iload C dL_law_1762 hl 0 rfl ?_
  refine g_iconst (a := 3) C dL_law_1764 rfl ?_
  refine g_iadd C dL_law_1765 ?_
  refine g_sld C G hXs hbl hB (by omega) (by omega) hL dL_law_1766 ?_
  refine g_aload_n C dL_law_1767 rfl hl 4 rfl ?_
  obtain ⟨CL, M1, hk1⟩ := op_simulate l hlf κ B ad g th (1000 * (j : Int)) (lgC (sxF xs ((5 * (j : Int)) + 1)) (sxF xs ((5 * (j : Int)) + 2))) (sxF xs ((5 * (j : Int)) + 3)) (lgC_in _ _) (sxF_in _ _) (by omega) h ho
  refine g_ci C G (g_runSY (As := [.ref (ad 0), .long (jz (lgC (sxF xs ((5 * (j : Int)) + 1)) (sxF xs ((5 * (j : Int)) + 2)))), .int (iz (sxF xs ((5 * (j : Int)) + 3))), .ref (ad 200)]) (rest := []) C G X N9 M1 (vx_cwSW (hh := [(0, 11, 14, 13)]) 4 C.1.2.2.2.2 gL_law_L_simulate rfl rfl rfl (by decide +kernel) ⟨Nat.le_of_ble_eq_true rfl, Nat.le_of_ble_eq_true rfl⟩) rfl hl rfl (Nat.le_of_ble_eq_true rfl) dL_law_1768 ⟨by show _ ≤ 601024; omega, by show _ ≤ 7293034; omega⟩) (fun z g1 H locs hz G => ?_)
  obtain ⟨⟨fs1, hm1⟩, MP, M2, hk2⟩ := hk1 z g1 hz
  refine lv_istore (lv' := [(5, .int (iz z)), (4, .int (iz (5 * (j : Int)))), (0, .ref b), (1, .ref (ad 0)), (2, .ref (ad 192)), (3, .ref (ad 200))]) C.1.1 C.1.2.1 dL_law_1771 hl (by decide) rfl (fun ls hl => ?_)
  refine g_aload_n C dL_law_1773 rfl hl 4 rfl ?_
  refine g_aload_n C dL_law_1774 rfl hl 2 rfl ?_
  refine g_iload C dL_law_1775 hl 1 rfl ?_
  refine g_iconst (a := 1) C dL_law_1777 rfl ?_
  refine g_iadd C dL_law_1778 ?_
  refine g_sld C G hXs hbl hB (by omega) (by omega) hL dL_law_1779 ?_
  refine g_i2l C (sxF_in _ _) dL_law_1780 ?_
  refine g_bipush (a := 32) C dL_law_1781 (by decide) ?_
  refine lv_lshl C.1.1 C.1.2.1 dL_law_1783 rfl ?_
  refine g_aload_n C dL_law_1784 rfl hl 2 rfl ?_
  refine g_iload C dL_law_1785 hl 1 rfl ?_
  refine g_iconst (a := 2) C dL_law_1787 rfl ?_
  refine g_iadd C dL_law_1788 ?_
  refine g_sld C G hXs hbl hB (by omega) (by omega) hL dL_law_1789 ?_
  refine g_i2l C (sxF_in _ _) dL_law_1790 ?_
  refine g_ldc2 (a := 4294967295) C (by decide +kernel) dL_law_1791 ?_
  refine lv_land C.1.1 C.1.2.1 dL_law_1794 ?_
  refine lv_lor C.1.1 C.1.2.1 dL_law_1795 ?_
  rw [show (jz (sxF xs ((5 * (j : Int)) + 1)) <<< ((iz 32).toInt64 &&& 63) ||| (jz (sxF xs ((5 * (j : Int)) + 2)) &&& jz 4294967295) : Int64) = jz (lgC (sxF xs ((5 * (j : Int)) + 1)) (sxF xs ((5 * (j : Int)) + 2))) from jz_of _]
  refine g_aload_n C dL_law_1796 rfl hl 2 rfl ?_
  refine g_iload C dL_law_1797 hl 1 rfl ?_
  refine g_iconst (a := 3) C dL_law_1799 rfl ?_
  refine g_iadd C dL_law_1800 ?_
  refine g_sld C G hXs hbl hB (by omega) (by omega) hL dL_law_1801 ?_
  refine g_ci C G (g_runV (As := [.long (jz (lgC (sxF xs ((5 * (j : Int)) + 1)) (sxF xs ((5 * (j : Int)) + 2)))), .int (iz (sxF xs ((5 * (j : Int)) + 3)))]) (rest := []) (pos := 192) C G M2 (cwV 2 C.1.2.2.2.2 gL_law_X8_simulate rfl rfl rfl (by decide +kernel) ⟨Nat.le_of_ble_eq_true rfl, Nat.le_of_ble_eq_true rfl⟩) (by omega) hm1 (T := TX8) (N := 17) rfl rfl hl rfl (Nat.le_of_ble_eq_true rfl) dL_law_1802 ⟨by show _ ≤ 601024; omega, by show _ ≤ 7293034; omega⟩) (fun zm g2 H locs hz2 G => ?_)
  obtain ⟨hLI, hzr, o8, ho8, hv8⟩ := hk2 zm g2 hz2
  obtain ⟨fs2, hm2, M3⟩ := hLI.thr l B
  refine lv_istore (lv' := [(6, .int (iz zm)), (5, .int (iz z)), (4, .int (iz (5 * (j : Int)))), (0, .ref b), (1, .ref (ad 0)), (2, .ref (ad 192)), (3, .ref (ad 200))]) C.1.1 C.1.2.1 dL_law_1805 hl (by decide) rfl (fun ls hl => ?_)
  refine g_aload_n C dL_law_1807 rfl hl 5 rfl ?_
  refine g_ci C G (g_runV (As := []) (rest := []) (pos := 192) C G M3 (cwV 0 C.1.2.2.2.2 gL_law_X8_thrown rfl rfl rfl (by decide +kernel) ⟨Nat.le_of_ble_eq_true rfl, Nat.le_of_ble_eq_true rfl⟩) (by omega) hm2 (T := TX8) (N := 17) rfl rfl hl rfl (Nat.le_of_ble_eq_true rfl) dL_law_1808 ⟨by show _ ≤ 601024; omega, by show _ ≤ 7293034; omega⟩) (fun zt g3 H locs hz3 G => ?_)
  obtain ⟨hg3, hzt⟩ := hz3
  rw [hg3] at G
  rw [hzt]
  refine g_iload C dL_law_1811 hl 1 rfl ?_
  refine g_icmp_eq (tgt := 1818) C (by omega) (by omega) dL_law_1813 (by decide) (fun _ => ?_) (fun q => absurd rfl q)
  refine g_iload C dL_law_1818 hl 1 rfl ?_
  refine g_if_ne (tgt := 1835) C (by omega) dL_law_1820 (by decide) (fun hz0 => ?_) (fun hz0 => ?_)
  · refine g_goto (tgt := 1950) C dL_law_1835 (by decide) ?_
    refine W.widen (k := 210 + 3 * j + 3) (n := 33000 + 15 * j + 15) (by omega) (by omega) ?_
    exact kk g2 z H locs ls hLI ⟨o8, ho8⟩ G (lv_sub hl [2, 3, 4, 5, 6] rfl)
  · refine g_aload_n C dL_law_1823 rfl hl 6 rfl ?_
    refine g_iconst (a := 0) C dL_law_1824 rfl ?_
    refine g_laload C G (pos := 200) (by omega) ho8 (by decide) (by decide) (by decide) dL_law_1825 ?_
    rw [hv8 (by omega)]
    refine g_iload C dL_law_1826 hl 0 rfl ?_
    rw [iz_rI zm]
    refine g_i2l C (rI_in zm) dL_law_1828 ?_
    have hri := rI_in zm
    refine g_lcmp C (by omega) (by omega) dL_law_1829 (fun zc hc => ?_)
    refine g_if_eq (tgt := 1835) C (by omega) dL_law_1830 (by decide) (fun _ => ?_) (fun q => absurd q (by omega))
    refine g_goto (tgt := 1950) C dL_law_1835 (by decide) ?_
    refine W.widen (k := 210 + 3 * j + 3) (n := 33000 + 15 * j + 15) (by omega) (by omega) ?_
    exact kk g2 z H locs ls hLI ⟨o8, ho8⟩ G (lv_sub hl [2, 3, 4, 5, 6] rfl)
set_option maxHeartbeats 4000000 in
set_option maxRecDepth 100000 in
theorem lc_save (hlf : l.stackTraces = false) (C : gC p c cL_law 7 s m args wsL_law RL κ B 201 ad) (X : gX B s) (N9 : gNc s) (hXs : va_X b L xs s s.heap) (hbl : b < s.heap.size) (hB : B = s.heap.size) (hL : L ≤ 2560) {j : Nat} (hj : 5 * j + 5 ≤ L) (h : LI κ ad g th (1000 * (j : Int))) {o9 : Int → Int64} (ho : g 200 = aJ κ 1 o9) (G : gG κ B 201 ad s g H locs) (hl : lv_has ls 7 [(4, .int (iz (5 * (j : Int)))), (0, .ref b), (1, .ref (ad 0)), (2, .ref (ad 192)), (3, .ref (ad 200))]) (kk : ∀ (g : Nat → va_E) (th : Int) (H : Heap) (locs : List Loc) (ls : Array Slot), LI κ ad g th (1000 * (j : Int) + 1000) → (∃ o9 : Int → Int64, g 200 = aJ κ 1 o9) → gG κ B 201 ad s g H locs → lv_has ls 7 [(4, .int (iz (5 * (j : Int)))), (0, .ref b), (1, .ref (ad 0)), (2, .ref (ad 192)), (3, .ref (ad 200))] → W p l e room_1 s m args below meth c H locs (210 + 3 * j + 3) (33000 + 15 * j + 15) Q (F0 m 1950 ls [])) : W p l e room_1 s m args below meth c H locs (210 + 3 * j) (33000 + 15 * j) Q (F0 m 1838 ls []) := by
  refine g_aload_n C dL_law_1838 rfl hl 2 rfl ?_
  refine g_aload_n C dL_law_1839 rfl hl 1 rfl ?_
  refine g_iload C dL_law_1840 hl 0 rfl ?_
  refine g_iconst (a := 1) C dL_law_1842 rfl ?_
  refine g_iadd C dL_law_1843 ?_
  refine g_sld C G hXs hbl hB (by omega) (by omega) hL dL_law_1844 ?_
  refine g_aload_n C dL_law_1845 rfl hl 4 rfl ?_
  obtain ⟨CL, M1, hk1⟩ := op_save l hlf κ B ad g th (1000 * (j : Int)) (sxF xs ((5 * (j : Int)) + 1)) (sxF_in _ _) (by omega) h ho
  refine g_ci C G (g_runSY (As := [.ref (ad 0), .int (iz (sxF xs ((5 * (j : Int)) + 1))), .ref (ad 200)]) (rest := []) C G X N9 M1 (vx_cwSW (hh := [(0, 9, 12, 28)]) 3 C.1.2.2.2.2 gL_law_L_save rfl rfl rfl (by decide +kernel) ⟨Nat.le_of_ble_eq_true rfl, Nat.le_of_ble_eq_true rfl⟩) rfl hl rfl (Nat.le_of_ble_eq_true rfl) dL_law_1846 ⟨by show _ ≤ 601024; omega, by show _ ≤ 7293034; omega⟩) (fun z g1 H locs hz G => ?_)
  obtain ⟨⟨fs1, hm1⟩, MP, M2, hk2⟩ := hk1 z g1 hz
  refine lv_istore (lv' := [(5, .int (iz z)), (4, .int (iz (5 * (j : Int)))), (0, .ref b), (1, .ref (ad 0)), (2, .ref (ad 192)), (3, .ref (ad 200))]) C.1.1 C.1.2.1 dL_law_1849 hl (by decide) rfl (fun ls hl => ?_)
  refine g_aload_n C dL_law_1851 rfl hl 4 rfl ?_
  refine g_aload_n C dL_law_1852 rfl hl 2 rfl ?_
  refine g_iload C dL_law_1853 hl 1 rfl ?_
  refine g_iconst (a := 1) C dL_law_1855 rfl ?_
  refine g_iadd C dL_law_1856 ?_
  refine g_sld C G hXs hbl hB (by omega) (by omega) hL dL_law_1857 ?_
  refine g_ci C G (g_runV (As := [.int (iz (sxF xs ((5 * (j : Int)) + 1)))]) (rest := []) (pos := 192) C G M2 (cwV 1 C.1.2.2.2.2 gL_law_X8_save rfl rfl rfl (by decide +kernel) ⟨Nat.le_of_ble_eq_true rfl, Nat.le_of_ble_eq_true rfl⟩) (by omega) hm1 (T := TX8) (N := 17) rfl rfl hl rfl (Nat.le_of_ble_eq_true rfl) dL_law_1858 ⟨by show _ ≤ 601024; omega, by show _ ≤ 7293034; omega⟩) (fun zm g2 H locs hz2 G => ?_)
  obtain ⟨hLI, hzr, o8, ho8, hv8⟩ := hk2 zm g2 hz2
  obtain ⟨fs2, hm2, M3⟩ := hLI.thr l B
  refine lv_istore (lv' := [(6, .int (iz zm)), (5, .int (iz z)), (4, .int (iz (5 * (j : Int)))), (0, .ref b), (1, .ref (ad 0)), (2, .ref (ad 192)), (3, .ref (ad 200))]) C.1.1 C.1.2.1 dL_law_1861 hl (by decide) rfl (fun ls hl => ?_)
  refine g_aload_n C dL_law_1863 rfl hl 5 rfl ?_
  refine g_ci C G (g_runV (As := []) (rest := []) (pos := 192) C G M3 (cwV 0 C.1.2.2.2.2 gL_law_X8_thrown rfl rfl rfl (by decide +kernel) ⟨Nat.le_of_ble_eq_true rfl, Nat.le_of_ble_eq_true rfl⟩) (by omega) hm2 (T := TX8) (N := 17) rfl rfl hl rfl (Nat.le_of_ble_eq_true rfl) dL_law_1864 ⟨by show _ ≤ 601024; omega, by show _ ≤ 7293034; omega⟩) (fun zt g3 H locs hz3 G => ?_)
  obtain ⟨hg3, hzt⟩ := hz3
  rw [hg3] at G
  rw [hzt]
  refine g_iload C dL_law_1867 hl 1 rfl ?_
  refine g_icmp_eq (tgt := 1874) C (by omega) (by omega) dL_law_1869 (by decide) (fun _ => ?_) (fun q => absurd rfl q)
  refine g_iload C dL_law_1874 hl 1 rfl ?_
  refine g_if_ne (tgt := 1891) C (by omega) dL_law_1876 (by decide) (fun hz0 => ?_) (fun hz0 => ?_)
  · refine g_goto (tgt := 1950) C dL_law_1891 (by decide) ?_
    refine W.widen (k := 210 + 3 * j + 3) (n := 33000 + 15 * j + 15) (by omega) (by omega) ?_
    exact kk g2 z H locs ls hLI ⟨o8, ho8⟩ G (lv_sub hl [2, 3, 4, 5, 6] rfl)
  · refine g_aload_n C dL_law_1879 rfl hl 6 rfl ?_
    refine g_iconst (a := 0) C dL_law_1880 rfl ?_
    refine g_laload C G (pos := 200) (by omega) ho8 (by decide) (by decide) (by decide) dL_law_1881 ?_
    rw [hv8 (by omega)]
    refine g_iload C dL_law_1882 hl 0 rfl ?_
    rw [iz_rI zm]
    refine g_i2l C (rI_in zm) dL_law_1884 ?_
    have hri := rI_in zm
    refine g_lcmp C (by omega) (by omega) dL_law_1885 (fun zc hc => ?_)
    refine g_if_eq (tgt := 1891) C (by omega) dL_law_1886 (by decide) (fun _ => ?_) (fun q => absurd q (by omega))
    refine g_goto (tgt := 1950) C dL_law_1891 (by decide) ?_
    refine W.widen (k := 210 + 3 * j + 3) (n := 33000 + 15 * j + 15) (by omega) (by omega) ?_
    exact kk g2 z H locs ls hLI ⟨o8, ho8⟩ G (lv_sub hl [2, 3, 4, 5, 6] rfl)
set_option maxHeartbeats 4000000 in
set_option maxRecDepth 100000 in
theorem lc_restore (hlf : l.stackTraces = false) (C : gC p c cL_law 7 s m args wsL_law RL κ B 201 ad) (X : gX B s) (N9 : gNc s) (hXs : va_X b L xs s s.heap) (hbl : b < s.heap.size) (hB : B = s.heap.size) (hL : L ≤ 2560) {j : Nat} (hj : 5 * j + 5 ≤ L) (h : LI κ ad g th (1000 * (j : Int))) {o9 : Int → Int64} (ho : g 200 = aJ κ 1 o9) (G : gG κ B 201 ad s g H locs) (hl : lv_has ls 7 [(4, .int (iz (5 * (j : Int)))), (0, .ref b), (1, .ref (ad 0)), (2, .ref (ad 192)), (3, .ref (ad 200))]) (kk : ∀ (g : Nat → va_E) (th : Int) (H : Heap) (locs : List Loc) (ls : Array Slot), LI κ ad g th (1000 * (j : Int) + 1000) → (∃ o9 : Int → Int64, g 200 = aJ κ 1 o9) → gG κ B 201 ad s g H locs → lv_has ls 7 [(4, .int (iz (5 * (j : Int)))), (0, .ref b), (1, .ref (ad 0)), (2, .ref (ad 192)), (3, .ref (ad 200))] → W p l e room_1 s m args below meth c H locs (210 + 3 * j + 3) (33000 + 15 * j + 15) Q (F0 m 1950 ls [])) : W p l e room_1 s m args below meth c H locs (210 + 3 * j) (33000 + 15 * j) Q (F0 m 1894 ls []) := by
  refine g_aload_n C dL_law_1894 rfl hl 2 rfl ?_
  refine g_aload_n C dL_law_1895 rfl hl 1 rfl ?_
  refine g_iload C dL_law_1896 hl 0 rfl ?_
  refine g_iconst (a := 1) C dL_law_1898 rfl ?_
  refine g_iadd C dL_law_1899 ?_
  refine g_sld C G hXs hbl hB (by omega) (by omega) hL dL_law_1900 ?_
  refine g_aload_n C dL_law_1901 rfl hl 4 rfl ?_
  obtain ⟨CL, M1, hk1⟩ := op_restore l hlf κ B ad g th (1000 * (j : Int)) (sxF xs ((5 * (j : Int)) + 1)) (sxF_in _ _) (by omega) h ho
  refine g_ci C G (g_runSY (As := [.ref (ad 0), .int (iz (sxF xs ((5 * (j : Int)) + 1))), .ref (ad 200)]) (rest := []) C G X N9 M1 (vx_cwSW (hh := [(0, 9, 12, 28), (0, 9, 15, 15)]) 3 C.1.2.2.2.2 gL_law_L_restore rfl rfl rfl (by decide +kernel) ⟨Nat.le_of_ble_eq_true rfl, Nat.le_of_ble_eq_true rfl⟩) rfl hl rfl (Nat.le_of_ble_eq_true rfl) dL_law_1902 ⟨by show _ ≤ 601024; omega, by show _ ≤ 7293034; omega⟩) (fun z g1 H locs hz G => ?_)
  obtain ⟨⟨fs1, hm1⟩, MP, M2, hk2⟩ := hk1 z g1 hz
  refine lv_istore (lv' := [(5, .int (iz z)), (4, .int (iz (5 * (j : Int)))), (0, .ref b), (1, .ref (ad 0)), (2, .ref (ad 192)), (3, .ref (ad 200))]) C.1.1 C.1.2.1 dL_law_1905 hl (by decide) rfl (fun ls hl => ?_)
  refine g_aload_n C dL_law_1907 rfl hl 4 rfl ?_
  refine g_aload_n C dL_law_1908 rfl hl 2 rfl ?_
  refine g_iload C dL_law_1909 hl 1 rfl ?_
  refine g_iconst (a := 1) C dL_law_1911 rfl ?_
  refine g_iadd C dL_law_1912 ?_
  refine g_sld C G hXs hbl hB (by omega) (by omega) hL dL_law_1913 ?_
  refine g_ci C G (g_runV (As := [.int (iz (sxF xs ((5 * (j : Int)) + 1)))]) (rest := []) (pos := 192) C G M2 (cwV 1 C.1.2.2.2.2 gL_law_X8_restore rfl rfl rfl (by decide +kernel) ⟨Nat.le_of_ble_eq_true rfl, Nat.le_of_ble_eq_true rfl⟩) (by omega) hm1 (T := TX8) (N := 17) rfl rfl hl rfl (Nat.le_of_ble_eq_true rfl) dL_law_1914 ⟨by show _ ≤ 601024; omega, by show _ ≤ 7293034; omega⟩) (fun zm g2 H locs hz2 G => ?_)
  obtain ⟨hLI, hzr, o8, ho8, hv8⟩ := hk2 zm g2 hz2
  obtain ⟨fs2, hm2, M3⟩ := hLI.thr l B
  refine lv_istore (lv' := [(6, .int (iz zm)), (5, .int (iz z)), (4, .int (iz (5 * (j : Int)))), (0, .ref b), (1, .ref (ad 0)), (2, .ref (ad 192)), (3, .ref (ad 200))]) C.1.1 C.1.2.1 dL_law_1917 hl (by decide) rfl (fun ls hl => ?_)
  refine g_aload_n C dL_law_1919 rfl hl 5 rfl ?_
  refine g_ci C G (g_runV (As := []) (rest := []) (pos := 192) C G M3 (cwV 0 C.1.2.2.2.2 gL_law_X8_thrown rfl rfl rfl (by decide +kernel) ⟨Nat.le_of_ble_eq_true rfl, Nat.le_of_ble_eq_true rfl⟩) (by omega) hm2 (T := TX8) (N := 17) rfl rfl hl rfl (Nat.le_of_ble_eq_true rfl) dL_law_1920 ⟨by show _ ≤ 601024; omega, by show _ ≤ 7293034; omega⟩) (fun zt g3 H locs hz3 G => ?_)
  obtain ⟨hg3, hzt⟩ := hz3
  rw [hg3] at G
  rw [hzt]
  refine g_iload C dL_law_1923 hl 1 rfl ?_
  refine g_icmp_eq (tgt := 1930) C (by omega) (by omega) dL_law_1925 (by decide) (fun _ => ?_) (fun q => absurd rfl q)
  refine g_iload C dL_law_1930 hl 1 rfl ?_
  refine g_if_ne (tgt := 1947) C (by omega) dL_law_1932 (by decide) (fun hz0 => ?_) (fun hz0 => ?_)
  · refine g_goto (tgt := 1950) C dL_law_1947 (by decide) ?_
    refine W.widen (k := 210 + 3 * j + 3) (n := 33000 + 15 * j + 15) (by omega) (by omega) ?_
    exact kk g2 z H locs ls hLI ⟨o8, ho8⟩ G (lv_sub hl [2, 3, 4, 5, 6] rfl)
  · refine g_aload_n C dL_law_1935 rfl hl 6 rfl ?_
    refine g_iconst (a := 0) C dL_law_1936 rfl ?_
    refine g_laload C G (pos := 200) (by omega) ho8 (by decide) (by decide) (by decide) dL_law_1937 ?_
    rw [hv8 (by omega)]
    refine g_iload C dL_law_1938 hl 0 rfl ?_
    rw [iz_rI zm]
    refine g_i2l C (rI_in zm) dL_law_1940 ?_
    have hri := rI_in zm
    refine g_lcmp C (by omega) (by omega) dL_law_1941 (fun zc hc => ?_)
    refine g_if_eq (tgt := 1947) C (by omega) dL_law_1942 (by decide) (fun _ => ?_) (fun q => absurd q (by omega))
    refine g_goto (tgt := 1950) C dL_law_1947 (by decide) ?_
    refine W.widen (k := 210 + 3 * j + 3) (n := 33000 + 15 * j + 15) (by omega) (by omega) ?_
    exact kk g2 z H locs ls hLI ⟨o8, ho8⟩ G (lv_sub hl [2, 3, 4, 5, 6] rfl)
end LAWC
