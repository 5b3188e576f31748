/-! THE LAW'S METHODS: more rows -/
theorem XI.he {κ : gKap} {ad : Nat → Nat} {g : Nat → va_E} {HP : gHP} {nl : Int} {f F9 : Int → Int} {M9 : Int → Int × (Int → Int)} (h : XI κ ad g HP nl f F9 M9) : g 0 = .inr (7, h.x0.choose) := h.x0.choose_spec
theorem abF_0 {nl : Int} {f : Int → Int} : abF nl f 0 = f 0 := by
  unfold abF
  rw [if_pos rfl]
theorem abF_1 {nl : Int} {f : Int → Int} : abF nl f 1 = nl := by
  unfold abF
  rw [if_neg (by decide), if_pos rfl]
theorem abF_2 {nl : Int} {f : Int → Int} : abF nl f 2 = f 25 := by
  unfold abF
  rw [if_neg (by decide), if_neg (by decide), if_pos rfl]
theorem abF_3 {nl : Int} {f : Int → Int} : abF nl f 3 = ((cntS (ALLp nl f) : Nat) : Int) := by
  unfold abF
  rw [if_neg (by decide), if_neg (by decide), if_neg (by decide), if_pos rfl]
theorem abF_4 {nl : Int} {f : Int → Int} : abF nl f 4 = lsA f nl.toNat := by
  unfold abF
  rw [if_neg (by decide), if_neg (by decide), if_neg (by decide), if_neg (by decide), if_pos rfl]
theorem abF_5 {nl : Int} {f : Int → Int} : abF nl f 5 = grA f nl.toNat := by
  unfold abF
  rw [if_neg (by decide), if_neg (by decide), if_neg (by decide), if_neg (by decide), if_neg (by decide), if_pos rfl]
theorem abF_6 {nl : Int} {f : Int → Int} : abF nl f 6 = fitN nl f := by
  unfold abF
  rw [if_neg (by decide), if_neg (by decide), if_neg (by decide), if_neg (by decide), if_neg (by decide), if_neg (by decide)]
theorem lyF_0 {l : Int} {f : Int → Int} : lyF f l 0 = f (4 * l + 1) := by
  unfold lyF
  rw [if_pos rfl]
theorem lyF_1 {l : Int} {f : Int → Int} : lyF f l 1 = f (4 * l + 2) := by
  unfold lyF
  rw [if_neg (by decide), if_pos rfl]
theorem lyF_2 {l : Int} {f : Int → Int} : lyF f l 2 = f (4 * l + 3) := by
  unfold lyF
  rw [if_neg (by decide), if_neg (by decide), if_pos rfl]
theorem lyF_3 {l : Int} {f : Int → Int} : lyF f l 3 = f (4 * l + 4) := by
  unfold lyF
  rw [if_neg (by decide), if_neg (by decide), if_neg (by decide), if_pos rfl]
theorem lyF_4 {l : Int} {f : Int → Int} : lyF f l 4 = pd (f 0) (f (4 * l + 1)) := by
  unfold lyF
  rw [if_neg (by decide), if_neg (by decide), if_neg (by decide), if_neg (by decide), if_pos rfl]
theorem lyF_5 {l : Int} {f : Int → Int} : lyF f l 5 = tn (f 0) (f (4 * l + 1)) := by
  unfold lyF
  rw [if_neg (by decide), if_neg (by decide), if_neg (by decide), if_neg (by decide), if_neg (by decide), if_pos rfl]
theorem lyF_6 {l : Int} {f : Int → Int} : lyF f l 6 = lb (f 0) (f (4 * l + 1)) := by
  unfold lyF
  rw [if_neg (by decide), if_neg (by decide), if_neg (by decide), if_neg (by decide), if_neg (by decide), if_neg (by decide), if_pos rfl]
theorem lyF_7 {l : Int} {f : Int → Int} : lyF f l 7 = ((cntS (fun x y => PTl f l x y) : Nat) : Int) := by
  unfold lyF
  rw [if_neg (by decide), if_neg (by decide), if_neg (by decide), if_neg (by decide), if_neg (by decide), if_neg (by decide), if_neg (by decide), if_pos rfl]
theorem lyF_8 {l : Int} {f : Int → Int} : lyF f l 8 = lsr f l := by
  unfold lyF
  rw [if_neg (by decide), if_neg (by decide), if_neg (by decide), if_neg (by decide), if_neg (by decide), if_neg (by decide), if_neg (by decide), if_neg (by decide), if_pos rfl]
theorem lyF_9 {l : Int} {f : Int → Int} : lyF f l 9 = grr f l := by
  unfold lyF
  rw [if_neg (by decide), if_neg (by decide), if_neg (by decide), if_neg (by decide), if_neg (by decide), if_neg (by decide), if_neg (by decide), if_neg (by decide), if_neg (by decide)]
theorem siF_0 {nl i : Int} {f : Int → Int} : siF nl f i 0 = f (26 + 2 * i) := by
  unfold siF
  rw [if_pos rfl]
theorem siF_1 {nl i : Int} {f : Int → Int} : siF nl f i 1 = f (27 + 2 * i) := by
  unfold siF
  rw [if_neg (by decide), if_pos rfl]
theorem siF_2 {nl i : Int} {f : Int → Int} : siF nl f i 2 = thrN nl f (f (26 + 2 * i)) (f (27 + 2 * i)) := by
  unfold siF
  rw [if_neg (by decide), if_neg (by decide)]
theorem cntR_le (S : Int → Int → Prop) (r : Int) : cntR S r ≤ 128 := fb_ct_le _ _
theorem iz_or (a b : Nat) : iz (a : Int) ||| iz (b : Int) = iz ((a ||| b : Nat) : Int) := by
  rw [iz_nI, iz_nI, iz_nI]
  apply Int32.toBitVec_inj.1
  show BitVec.ofNat 32 a ||| BitVec.ofNat 32 b = BitVec.ofNat 32 (a ||| b)
  exact BitVec.ofNat_or.symm
theorem shl9 : ∀ k : Fin 8, iz 1 <<< (iz (k.val : Int) &&& 31) = iz ((2 ^ k.val : Nat) : Int) := by decide +kernel
section GR9
variable {p : Program} {l : Launch} {e : Env} {R : Room} {s : State} {m : MethodId} {args : Array Value} {below : List Frame} {meth : Method} {c : Code} {H : Heap} {locs : List Loc} {cells slots : Nat} {Q : State → Prop}
variable {cc : ByteArray} {nL pc : Nat} {ls : Array Slot} {rest : List Value} {Ts : List Cond} {own : String} {κ : gKap} {B n : Nat} {ad : Nat → Nat} {g : Nat → va_E}
theorem g_ishl1 (C : gC p c cc nL s m args Ts own κ B n ad) {k : Int} (hk : 0 ≤ k ∧ k < 8) (d : decode cc pc = .ok (.ishl, 1)) (kk : W p l e R s m args below meth c H locs cells slots Q (F0 m (pc + 1) ls (.int (iz ((2 ^ k.toNat : Nat) : Int)) :: rest))) : W p l e R s m args below meth c H locs cells slots Q (F0 m pc ls (.int (iz k) :: .int (iz 1) :: rest)) := by
  refine lv_ishl C.1.1 C.1.2.1 d ?_
  have h := shl9 ⟨k.toNat, by omega⟩
  have e2 : (((⟨k.toNat, by omega⟩ : Fin 8).val : Nat) : Int) = k := Int.toNat_of_nonneg hk.1
  rw [e2] at h
  rw [h]
  exact kk
theorem g_iorN (C : gC p c cc nL s m args Ts own κ B n ad) {a b : Nat} (d : decode cc pc = .ok (.ior, 1)) (kk : W p l e R s m args below meth c H locs cells slots Q (F0 m (pc + 1) ls (.int (iz ((a ||| b : Nat) : Int)) :: rest))) : W p l e R s m args below meth c H locs cells slots Q (F0 m pc ls (.int (iz (b : Int)) :: .int (iz (a : Int)) :: rest)) := by
  refine lv_ior C.1.1 C.1.2.1 d ?_
  rw [iz_or]
  exact kk
theorem g_runSXP (C : gC p c cc nL s m args Ts own κ B n ad) (G : gG κ B n ad s g H locs) (X : gX B s) {y : MethodName} {bytes : ByteArray} {maxL mc ms k index : Nat} {ret : Option FieldType} {hh : List (Nat × Nat × Nat × Nat)} {ws : List Cond} {rm : Room} {Qc : Array Value → State → Outcome → State → Prop} {As st0 : List Value} {lv : List (Nat × Value)} (M : Met l y ws rm (gPreX κ B n ad g As) Qc mc ms (gFree B)) (cw : vx_CSW R s args own index y bytes maxL ret hh ws rm mc ms k) (hn : As.length = k) (hl : lv_has ls nL lv) (hst : st0 = As.reverse ++ rest) (hW : (rest.map fun v => v.category).sum ≤ 8) (d : decode cc pc = .ok (.invokestatic index, 3)) (hf : cells + mc ≤ R.cells ∧ slots + ms ≤ R.slots) :
    va_Run p l e R s m args below meth c H locs cells slots mc ms (F0 m pc ls st0) rest (Qc (As : List Value).toArray) (gFree B) :=
  vx_runSW C.1 M cw ⟨gPreX.blind, fun U hU hW => ⟨rfl, ⟨by rw [hU]; exact Nat.le_trans C.2.2.2 G.2.1, by rw [hU]; exact G.1, C.2.1.warm hW, C.2.2.1⟩, X.warm hW (fun a ha hna => by rw [hU]; exact G.2.2.1 a ha hna)⟩⟩ rfl hn hl.1 hst (lv_room hW) d hf
end GR9
set_option maxHeartbeats 4000000 in
set_option maxRecDepth 100000 in
theorem c_L_divisor (l : Launch) (κ : gKap) (B n : Nat) (ad : Nat → Nat) (g : Nat → va_E) (a : Int) (b : Int) (ha : 1 ≤ a ∧ a ≤ 100000) (hb : 1 ≤ b ∧ b ≤ 100000) : Met l yL_divisor wsL_divisor ({ frames := 0, cells := 0, slots := 0, locals := 0 }) (gPre κ B n ad g [.int (iz a), .int (iz b)]) (gQi κ B n ad (fun z g' => g' = g ∧ (z = gd a b))) 0 0 (gFree B) := by
  refine g_met RL (cc := cL_divisor) (maxL := 5) (ret := (some .int)) (by decide) rfl rfl (Nat.le_of_ble_eq_true rfl) ?_
  intro p e s m args below meth c C hr hlk hnm G ls hl
  have hl : lv_has ls 5 [(0, .int (iz a)), (1, .int (iz b))] := hl
  refine g_iload_n C dL_divisor_0 rfl hl 0 rfl ?_
  refine lv_istore_n (lv' := [(2, .int (iz a)), (0, .int (iz a)), (1, .int (iz b))]) C.1.1 C.1.2.1 dL_divisor_1 rfl hl (by decide) rfl (fun ls hl => ?_)
  refine g_iload_n C dL_divisor_2 rfl hl 2 rfl ?_
  refine lv_istore_n (lv' := [(3, .int (iz b)), (2, .int (iz a)), (0, .int (iz a)), (1, .int (iz b))]) C.1.1 C.1.2.1 dL_divisor_3 rfl hl (by decide) rfl (fun ls hl => ?_)
  have lp_4_n_2 : ∀ (k_1 : Nat) (x9 : Int) (y9 : Int), y9.toNat < k_1 → (1 ≤ x9 ∧ x9 ≤ 100000) → (0 ≤ y9 ∧ y9 ≤ 100000) → (gd x9 y9 = gd a b) → ∀ (H : Heap) (locs : List Loc), gG κ B n ad s g H locs → ∀ (ls : Array Slot), lv_has ls 5 [(0, .int (iz a)), (1, .int (iz b)), (2, .int (iz x9)), (3, .int (iz y9))] → W p l e ({ frames := 0, cells := 0, slots := 0, locals := 0 }) s m args below meth c H locs 0 0 (MQ below (gQi κ B n ad (fun z g' => g' = g ∧ (z = gd a b))) args s 0 0 (gFree B)) (F0 m 4 ls []) := by
    intro k_1
    induction k_1 with
    | zero => intro x9 y9 hm; exact absurd hm (Nat.not_lt_zero _)
    | succ k_1 ih_lp_4_n_2 =>
      intro x9 y9 hm h1 h2 h3 H locs G ls hl
      refine g_iload_n C dL_divisor_4 rfl hl 3 rfl ?_
      refine g_if_le (tgt := 21) C (by omega) dL_divisor_5 (by decide) (fun c_3 => ?_) (fun c_3 => ?_)
      · refine g_iload_n C dL_divisor_21 rfl hl 2 rfl ?_
        refine g_iret C G hr hlk (Nat.le_of_ble_eq_true rfl) (Nat.le_of_ble_eq_true rfl) dL_divisor_22 ?_
        have e0 : y9 = 0 := by omega
        rw [e0] at h3
        refine ⟨rfl, ?_⟩
        rw [← h3]
        unfold gd
        rw [Int.gcd_zero_right]
        omega
      · refine g_iload_n C dL_divisor_8 rfl hl 2 rfl ?_
        refine g_iload_n C dL_divisor_9 rfl hl 3 rfl ?_
        refine g_irem C (by omega) (by omega) (by omega) dL_divisor_10 ?_
        rw [show Int.tmod x9 y9 = x9 % y9 from tmod_pos (by omega)]
        have m0 : 0 ≤ x9 % y9 := Int.emod_nonneg _ (by omega)
        have m1 : x9 % y9 < y9 := Int.emod_lt_of_pos _ (by omega)
        refine lv_istore (lv' := [(4, .int (iz (x9 % y9))), (0, .int (iz a)), (1, .int (iz b)), (2, .int (iz x9)), (3, .int (iz y9))]) C.1.1 C.1.2.1 dL_divisor_11 hl (by decide) rfl (fun ls hl => ?_)
        refine g_iload_n C dL_divisor_13 rfl hl 4 rfl ?_
        refine lv_istore_n (lv' := [(2, .int (iz y9)), (4, .int (iz (x9 % y9))), (0, .int (iz a)), (1, .int (iz b)), (3, .int (iz y9))]) C.1.1 C.1.2.1 dL_divisor_14 rfl hl (by decide) rfl (fun ls hl => ?_)
        refine g_iload C dL_divisor_15 hl 1 rfl ?_
        refine lv_istore_n (lv' := [(3, .int (iz (x9 % y9))), (2, .int (iz y9)), (4, .int (iz (x9 % y9))), (0, .int (iz a)), (1, .int (iz b))]) C.1.1 C.1.2.1 dL_divisor_17 rfl hl (by decide) rfl (fun ls hl => ?_)
        refine g_goto (tgt := 4) C dL_divisor_18 (by decide) ?_
        exact ih_lp_4_n_2 y9 (x9 % y9) (by omega) (by omega) (by omega) (by rw [← h3]; unfold gd; rw [eu_gcd (by omega) (by omega)]) _ _ G _ (lv_sub hl [3, 4, 1, 0] rfl)
  exact lp_4_n_2 _ a b (Nat.lt_succ_self _) (by omega) (by omega) rfl _ _ G _ (lv_sub hl [2, 3, 1, 0] rfl)
