/-! THE LAW: its loop, its start -/
section LAWL
variable {p : Program} {l : Launch} {e : Env} {s : State} {m : MethodId} {args : Array Value} {below : List Frame} {meth : Method} {c : Code} {Q : State → Prop} {κ : gKap} {B : Nat} {ad : Nat → Nat} {b L : Nat} {xs : Nat → Int32}
set_option maxHeartbeats 4000000 in
set_option maxRecDepth 100000 in
theorem law_loop (hlf : l.stackTraces = false) (C : gC p c cL_law 8 s m args wsL_law RL κ B 384 ad) (X : gX B s) (hXs : va_X b L xs s s.heap) (hbl : b < s.heap.size) (hB : B = s.heap.size) (hL : L ≤ 260) (hend : ∀ (g : Nat → va_E) (H : Heap) (locs : List Loc) (ls : Array Slot), gG κ B 384 ad s g H locs → W p l e room_1 s m args below meth c H locs 30000 200000 Q (F0 m 248 ls [.int (iz 1)])) :
    ∀ (k j : Nat) (nl : Int) (f F9 : Int → Int) (M9 : Int → Int × (Int → Int)) (g : Nat → va_E) (H : Heap) (locs : List Loc) (ls : Array Slot), 14 < j + k → j ≤ 14 → XI κ ad g HP0 nl f F9 M9 → XI κ (fun k => ad (sg k)) (fun k => g (sg k)) HP0 nl f F9 M9 → gG κ B 384 ad s g H locs → lv_has ls 8 [(3, .int (iz (j : Int))), (0, .ref b), (1, .ref (ad 0)), (2, .ref (ad 192))] → W p l e room_1 s m args below meth c H locs (800 + 1500 * j) (9000 + 9000 * j) Q (F0 m 18 ls [])
  | 0, j, nl, f, F9, M9, g, H, locs, ls, hk, hj, _, _, _, _ => absurd hk (by omega)
  | k + 1, j, nl, f, F9, M9, g, H, locs, ls, hk, hj, h, h2, G, hl => by
    refine g_iload_n C dL_law_18 rfl hl 0 rfl ?_
    refine g_bipush (a := 14) C dL_law_19 (by decide) ?_
    refine g_icmp_ge (tgt := 243) C (by omega) (by decide) dL_law_21 (by decide) (fun hx => ?_) (fun hx => ?_)
    · refine g_aload_n C dL_law_243 rfl hl 2 rfl ?_
      refine g_aload_n C dL_law_244 rfl hl 3 rfl ?_
      refine g_ci C G (g_runSP (As := [.ref (ad 0), .ref (ad 192)]) (rest := []) C G X (c_L_areAlike l hlf κ B ad g HP0 HP0 nl f F9 M9 h h2) (va_cwS 2 C.1.2.2.2.2 gL_law_L_areAlike rfl rfl rfl (by decide +kernel) ⟨Nat.le_of_ble_eq_true rfl, Nat.le_of_ble_eq_true rfl⟩) rfl hl rfl (Nat.le_of_ble_eq_true rfl) dL_law_245 ⟨by show _ ≤ 600104; omega, by show _ ≤ 7301314; omega⟩) (fun z g9 H locs hw G => ?_)
      subst hw
      exact W.widen (k := 30000) (n := 200000) (by omega) (by omega) (hend _ _ _ _ G)
    · exact law_turn hlf C X hXs hbl hB hL (by omega) (by omega) h h2 G hl (fun nl f F9 M9 g H locs ls h h2 G hl => W.widen (k := 800 + 1500 * (j + 1)) (n := 9000 + 9000 * (j + 1)) (by omega) (by omega) (law_loop hlf C X hXs hbl hB hL hend k (j + 1) nl f F9 M9 g H locs ls (by omega) (by omega) h h2 G (by rw [show (((j + 1 : Nat)) : Int) = (j : Int) + 1 by omega]; exact hl)))
end LAWL
section GNF
variable {p : Program} {l : Launch} {e : Env} {R : Room} {s : State} {m : MethodId} {args : Array Value} {below : List Frame} {meth : Method} {c : Code} {H : Heap} {locs : List Loc} {cells slots : Nat} {Q : State → Prop}
variable {cc : ByteArray} {nL pc : Nat} {ls : Array Slot} {rest : List Value} {Ts : List Cond} {own : String} {κ : gKap} {B n : Nat} {ad : Nat → Nat} {g : Nat → va_E}
theorem g_newF (C : gC p c cc nL s m args Ts own κ B n ad) (G : gG κ B n ad s g H locs) {Cn : String} {T : u_T} {N ci index : Nat} {fs : List Value} {ty : Nat → FieldType} (hc : vwCl[ci]? = some (Cn, T, N)) (hin : ∀ w ∈ u_ws Cn T N, w ∈ Ts) (hty : ∀ k, k < N → parseFieldDescriptor (T k).2.2.1 = some (ty k)) (hcl : Cond.classLink own index Cn ∈ Ts) (hinst : Cond.instantiable Cn N ∈ Ts) (hini : Cond.initialized Cn ∈ Ts) (hfs : ∀ j, j < N → defaultValue (ty j) = vp_V fs j) (hcells : cells + 1 ≤ R.cells) (hslots : slots + N ≤ R.slots) (d : decode cc pc = .ok (.new index, 3))
    (kk : ∀ (H1 : Heap), H.size < H1.size → (∀ x : Nat, x < H.size → H1[x]? = H[x]?) → va_at κ.1 vwCl (H.size, .inr (ci, fs)) H1 → va_S (gFree B) s.heap H1 locs → W p l e R s m args below meth c H1 locs (cells + 1) (slots + N) Q (F0 m (pc + 3) ls (.ref H.size :: rest))) : W p l e R s m args below meth c H locs cells slots Q (F0 m pc ls rest) := by
  obtain ⟨hx, hb, hml, hown, hts⟩ := C.1
  have hKn := C.2.1.1.1 ci _ hc
  refine W.newcK hx hb hown (hts _ hcl) (hts _ hinst) (hts _ hini) rfl d hcells hslots hKn.2.1 rfl fun H1 kC hkC e1 z1 o1 => ?_
  exact kk H1 (by omega) o1 ⟨_, hc, (u_born ty hts hin hKn hkC e1 hty).to hfs⟩ ⟨Nat.le_trans G.2.1 (by omega), fun x h1 h2 => (o1 x (Nat.lt_of_lt_of_le h1 G.2.1)).trans (G.2.2.1 x h1 h2), G.2.2.2⟩
end GNF
/-- two worlds side by side -/
def gJ {α : Type} (u v : Nat → α) : Nat → α := fun k => if k < 192 then u k else v (k - 192)
theorem gJ_lo {α : Type} {u v : Nat → α} {k : Nat} (h : k < 192) : gJ u v k = u k := if_pos h
theorem gJ_hi {α : Type} {u v : Nat → α} {k : Nat} (h : 192 ≤ k) : gJ u v k = v (k - 192) := if_neg (by omega)
theorem gJ_sg {α : Type} {u v : Nat → α} {k : Nat} (h : k < 192) : gJ u v (sg k) = v k := by
  rw [sg_lo h, gJ_hi (by omega), Nat.add_sub_cancel]
