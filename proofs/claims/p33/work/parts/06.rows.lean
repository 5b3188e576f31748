/-! ROWS over the ghost heap -/
section GR
variable {p : Program} {l : Launch} {e : Env} {R : Room} {s : State} {m : MethodId} {args : Array Value} {below : List Frame} {meth : Method} {c : Code} {H : Heap} {locs : List Loc} {cells slots : Nat} {Q : State → Prop}
variable {cc : ByteArray} {nL pc : Nat} {ls : Array Slot} {rest : List Value} {Ts : List Cond} {own : String} {κ : gKap} {B n : Nat} {ad : Nat → Nat} {g : Nat → va_E}
theorem g_iadd (C : gC p c cc nL s m args Ts own κ B n ad) {a b : Int} (d : decode cc pc = .ok (.iadd, 1)) (k : W p l e R s m args below meth c H locs cells slots Q (F0 m (pc + 1) ls (.int (iz (a + b)) :: rest))) : W p l e R s m args below meth c H locs cells slots Q (F0 m pc ls (.int (iz b) :: .int (iz a) :: rest)) := by
  refine lv_iadd C.1.1 C.1.2.1 d ?_
  rw [show iz a + iz b = iz (a + b) from (Int32.ofInt_add a b).symm]
  exact k
theorem g_isub (C : gC p c cc nL s m args Ts own κ B n ad) {a b : Int} (d : decode cc pc = .ok (.isub, 1)) (k : W p l e R s m args below meth c H locs cells slots Q (F0 m (pc + 1) ls (.int (iz (a - b)) :: rest))) : W p l e R s m args below meth c H locs cells slots Q (F0 m pc ls (.int (iz b) :: .int (iz a) :: rest)) := by
  refine lv_isub C.1.1 C.1.2.1 d ?_
  rw [show iz a - iz b = iz (a - b) from (Int32.ofInt_sub a b).symm]
  exact k
theorem g_imul (C : gC p c cc nL s m args Ts own κ B n ad) {a b : Int} (d : decode cc pc = .ok (.imul, 1)) (k : W p l e R s m args below meth c H locs cells slots Q (F0 m (pc + 1) ls (.int (iz (a * b)) :: rest))) : W p l e R s m args below meth c H locs cells slots Q (F0 m pc ls (.int (iz b) :: .int (iz a) :: rest)) := by
  refine lv_imul C.1.1 C.1.2.1 d ?_
  rw [show iz a * iz b = iz (a * b) from (Int32.ofInt_mul a b).symm]
  exact k
theorem g_ladd (C : gC p c cc nL s m args Ts own κ B n ad) {a b : Int} (d : decode cc pc = .ok (.ladd, 1)) (k : W p l e R s m args below meth c H locs cells slots Q (F0 m (pc + 1) ls (.long (jz (a + b)) :: rest))) : W p l e R s m args below meth c H locs cells slots Q (F0 m pc ls (.long (jz b) :: .long (jz a) :: rest)) := by
  refine lv_ladd C.1.1 C.1.2.1 d ?_
  rw [show jz a + jz b = jz (a + b) from (Int64.ofInt_add a b).symm]
  exact k
theorem g_lsub (C : gC p c cc nL s m args Ts own κ B n ad) {a b : Int} (d : decode cc pc = .ok (.lsub, 1)) (k : W p l e R s m args below meth c H locs cells slots Q (F0 m (pc + 1) ls (.long (jz (a - b)) :: rest))) : W p l e R s m args below meth c H locs cells slots Q (F0 m pc ls (.long (jz b) :: .long (jz a) :: rest)) := by
  refine lv_lsub C.1.1 C.1.2.1 d ?_
  rw [show jz a - jz b = jz (a - b) from (Int64.ofInt_sub a b).symm]
  exact k
theorem g_lmul (C : gC p c cc nL s m args Ts own κ B n ad) {a b : Int} (d : decode cc pc = .ok (.lmul, 1)) (k : W p l e R s m args below meth c H locs cells slots Q (F0 m (pc + 1) ls (.long (jz (a * b)) :: rest))) : W p l e R s m args below meth c H locs cells slots Q (F0 m pc ls (.long (jz b) :: .long (jz a) :: rest)) := by
  refine lv_lmul C.1.1 C.1.2.1 d ?_
  rw [show jz a * jz b = jz (a * b) from (Int64.ofInt_mul a b).symm]
  exact k
theorem g_ineg (C : gC p c cc nL s m args Ts own κ B n ad) {a : Int} (d : decode cc pc = .ok (.ineg, 1)) (k : W p l e R s m args below meth c H locs cells slots Q (F0 m (pc + 1) ls (.int (iz (-a)) :: rest))) : W p l e R s m args below meth c H locs cells slots Q (F0 m pc ls (.int (iz a) :: rest)) := by
  refine lv_ineg C.1.1 C.1.2.1 d ?_
  first
  | (rw [show -iz a = iz (-a) from (Int32.ofInt_neg a).symm]; exact k)
  | (rw [show 0 - iz a = iz (-a) from by rw [Int32.zero_sub]; exact (Int32.ofInt_neg a).symm]; exact k)
theorem g_idiv (C : gC p c cc nL s m args Ts own κ B n ad) {a b : Int} (ha : inI a) (hb : inI b) (h0 : b ≠ 0) (d : decode cc pc = .ok (.idiv, 1)) (k : W p l e R s m args below meth c H locs cells slots Q (F0 m (pc + 1) ls (.int (iz (Int.tdiv a b)) :: rest))) : W p l e R s m args below meth c H locs cells slots Q (F0 m pc ls (.int (iz b) :: .int (iz a) :: rest)) := by
  refine lv_idiv C.1.1 C.1.2.1 d (fun h => h0 ((iz_inj hb ⟨by omega, by omega⟩).mp (h.trans (rfl : (0 : Int32) = iz 0)))) ?_
  rw [show iz a / iz b = iz (Int.tdiv a b) from (Int32.ofInt_tdiv (by have := ha.1; exact this) (by have := ha.2; exact this) (by have := hb.1; exact this) (by have := hb.2; exact this)).symm]
  exact k
theorem g_irem (C : gC p c cc nL s m args Ts own κ B n ad) {a b : Int} (ha : inI a) (hb : inI b) (h0 : b ≠ 0) (d : decode cc pc = .ok (.irem, 1)) (k : W p l e R s m args below meth c H locs cells slots Q (F0 m (pc + 1) ls (.int (iz (Int.tmod a b)) :: rest))) : W p l e R s m args below meth c H locs cells slots Q (F0 m pc ls (.int (iz b) :: .int (iz a) :: rest)) := by
  refine lv_irem C.1.1 C.1.2.1 d (fun h => h0 ((iz_inj hb ⟨by omega, by omega⟩).mp (h.trans (rfl : (0 : Int32) = iz 0)))) ?_
  rw [show iz a / iz b = iz (Int.tdiv a b) from (Int32.ofInt_tdiv (by have := ha.1; exact this) (by have := ha.2; exact this) (by have := hb.1; exact this) (by have := hb.2; exact this)).symm, show iz (Int.tdiv a b) * iz b = iz (Int.tdiv a b * b) from (Int32.ofInt_mul _ _).symm, show iz a - iz (Int.tdiv a b * b) = iz (a - Int.tdiv a b * b) from (Int32.ofInt_sub _ _).symm, show a - Int.tdiv a b * b = Int.tmod a b from by rw [Int.tmod_def, Int.mul_comm]]
  exact k
theorem g_ldiv (C : gC p c cc nL s m args Ts own κ B n ad) {a b : Int} (ha : inJ a) (hb : inJ b) (h0 : b ≠ 0) (d : decode cc pc = .ok (.ldiv, 1)) (k : W p l e R s m args below meth c H locs cells slots Q (F0 m (pc + 1) ls (.long (jz (Int.tdiv a b)) :: rest))) : W p l e R s m args below meth c H locs cells slots Q (F0 m pc ls (.long (jz b) :: .long (jz a) :: rest)) := by
  refine lv_ldiv C.1.1 C.1.2.1 d (fun h => h0 ((jz_inj hb ⟨by omega, by omega⟩).mp (h.trans (rfl : (0 : Int64) = jz 0)))) ?_
  rw [show jz a / jz b = jz (Int.tdiv a b) from (Int64.ofInt_tdiv (by have := ha.1; exact this) (by have := ha.2; exact this) (by have := hb.1; exact this) (by have := hb.2; exact this)).symm]
  exact k
theorem g_lrem (C : gC p c cc nL s m args Ts own κ B n ad) {a b : Int} (ha : inJ a) (hb : inJ b) (h0 : b ≠ 0) (d : decode cc pc = .ok (.lrem, 1)) (k : W p l e R s m args below meth c H locs cells slots Q (F0 m (pc + 1) ls (.long (jz (Int.tmod a b)) :: rest))) : W p l e R s m args below meth c H locs cells slots Q (F0 m pc ls (.long (jz b) :: .long (jz a) :: rest)) := by
  refine lv_lrem C.1.1 C.1.2.1 d (fun h => h0 ((jz_inj hb ⟨by omega, by omega⟩).mp (h.trans (rfl : (0 : Int64) = jz 0)))) ?_
  rw [show jz a / jz b = jz (Int.tdiv a b) from (Int64.ofInt_tdiv (by have := ha.1; exact this) (by have := ha.2; exact this) (by have := hb.1; exact this) (by have := hb.2; exact this)).symm, show jz (Int.tdiv a b) * jz b = jz (Int.tdiv a b * b) from (Int64.ofInt_mul _ _).symm, show jz a - jz (Int.tdiv a b * b) = jz (a - Int.tdiv a b * b) from (Int64.ofInt_sub _ _).symm, show a - Int.tdiv a b * b = Int.tmod a b from by rw [Int.tmod_def, Int.mul_comm]]
  exact k
theorem g_i2l (C : gC p c cc nL s m args Ts own κ B n ad) {a : Int} (ha : inI a) (d : decode cc pc = .ok (.i2l, 1)) (k : W p l e R s m args below meth c H locs cells slots Q (F0 m (pc + 1) ls (.long (jz a) :: rest))) : W p l e R s m args below meth c H locs cells slots Q (F0 m pc ls (.int (iz a) :: rest)) :=
  lv_i2l C.1.1 C.1.2.1 d (Int32.toInt64_ofInt ha.1 ha.2) k
theorem g_l2i (C : gC p c cc nL s m args Ts own κ B n ad) {a : Int} (d : decode cc pc = .ok (.l2i, 1)) (k : W p l e R s m args below meth c H locs cells slots Q (F0 m (pc + 1) ls (.int (iz a) :: rest))) : W p l e R s m args below meth c H locs cells slots Q (F0 m pc ls (.long (jz a) :: rest)) :=
  lv_l2i C.1.1 C.1.2.1 d Int64.toInt32_ofInt k
theorem g_iconst (C : gC p c cc nL s m args Ts own κ B n ad) {i a : Int} (d : decode cc pc = .ok (.iconst i, 1)) (hi : i = a) (k : W p l e R s m args below meth c H locs cells slots Q (F0 m (pc + 1) ls (.int (iz a) :: rest))) : W p l e R s m args below meth c H locs cells slots Q (F0 m pc ls rest) := lv_iconst C.1.1 C.1.2.1 d (by rw [hi]; rfl) k
theorem g_bipush (C : gC p c cc nL s m args Ts own κ B n ad) {i a : Int} (d : decode cc pc = .ok (.bipush i, 2)) (hi : (Int8.ofInt i).toInt32 = iz a) (k : W p l e R s m args below meth c H locs cells slots Q (F0 m (pc + 2) ls (.int (iz a) :: rest))) : W p l e R s m args below meth c H locs cells slots Q (F0 m pc ls rest) := lv_bipush C.1.1 C.1.2.1 d hi k
theorem g_sipush (C : gC p c cc nL s m args Ts own κ B n ad) {i a : Int} (d : decode cc pc = .ok (.sipush i, 3)) (hi : (Int16.ofInt i).toInt32 = iz a) (k : W p l e R s m args below meth c H locs cells slots Q (F0 m (pc + 3) ls (.int (iz a) :: rest))) : W p l e R s m args below meth c H locs cells slots Q (F0 m pc ls rest) := lv_sipush C.1.1 C.1.2.1 d hi k
theorem g_lconst (C : gC p c cc nL s m args Ts own κ B n ad) {i : Fin 2} {a : Int} (d : decode cc pc = .ok (.lconst i, 1)) (hi : Int64.ofNat (i : Nat) = jz a) (k : W p l e R s m args below meth c H locs cells slots Q (F0 m (pc + 1) ls (.long (jz a) :: rest))) : W p l e R s m args below meth c H locs cells slots Q (F0 m pc ls rest) := lv_lconst C.1.1 C.1.2.1 d hi k
theorem g_ldc (C : gC p c cc nL s m args Ts own κ B n ad) {index : Nat} {a : Int} (hc : Jvm.Cond.constant own index (iz a) ∈ Ts) (d : decode cc pc = .ok (.ldc index, 2)) (k : W p l e R s m args below meth c H locs cells slots Q (F0 m (pc + 2) ls (.int (iz a) :: rest))) : W p l e R s m args below meth c H locs cells slots Q (F0 m pc ls rest) := lv_ldc C.1.1 C.1.2.1 C.1.2.2.2.1 (C.1.2.2.2.2 _ hc) d k
theorem g_ldcw (C : gC p c cc nL s m args Ts own κ B n ad) {index : Nat} {a : Int} (hc : Jvm.Cond.constant own index (iz a) ∈ Ts) (d : decode cc pc = .ok (.ldc_w index, 3)) (k : W p l e R s m args below meth c H locs cells slots Q (F0 m (pc + 3) ls (.int (iz a) :: rest))) : W p l e R s m args below meth c H locs cells slots Q (F0 m pc ls rest) := lv_ldcw C.1.1 C.1.2.1 C.1.2.2.2.1 (C.1.2.2.2.2 _ hc) d k
theorem g_ldc2 (C : gC p c cc nL s m args Ts own κ B n ad) {index : Nat} {a : Int} (hc : Jvm.Cond.constantLong own index (jz a) ∈ Ts) (d : decode cc pc = .ok (.ldc2_w index, 3)) (k : W p l e R s m args below meth c H locs cells slots Q (F0 m (pc + 3) ls (.long (jz a) :: rest))) : W p l e R s m args below meth c H locs cells slots Q (F0 m pc ls rest) := lv_ldc2 C.1.1 C.1.2.1 C.1.2.2.2.1 (C.1.2.2.2.2 _ hc) d k
theorem g_iload_n (C : gC p c cc nL s m args Ts own κ B n ad) {k : Fin 4} {i : Nat} {lv : List (Nat × Value)} {x : Int32} (d : decode cc pc = .ok (.iload_n k, 1)) (hi : (k : Nat) = i) (hl : lv_has ls nL lv) (q : Nat) (hk : lv[q]? = some (i, .int x)) (kk : W p l e R s m args below meth c H locs cells slots Q (F0 m (pc + 1) ls (.int x :: rest))) : W p l e R s m args below meth c H locs cells slots Q (F0 m pc ls rest) := lv_iload_n C.1.1 C.1.2.1 d hi (lv_at hl q hk) kk
theorem g_iload (C : gC p c cc nL s m args Ts own κ B n ad) {i : Nat} {lv : List (Nat × Value)} {x : Int32} (d : decode cc pc = .ok (.iload i, 2)) (hl : lv_has ls nL lv) (q : Nat) (hk : lv[q]? = some (i, .int x)) (kk : W p l e R s m args below meth c H locs cells slots Q (F0 m (pc + 2) ls (.int x :: rest))) : W p l e R s m args below meth c H locs cells slots Q (F0 m pc ls rest) := lv_iload C.1.1 C.1.2.1 d (lv_at hl q hk) kk
theorem g_lload_n (C : gC p c cc nL s m args Ts own κ B n ad) {k : Fin 4} {i : Nat} {lv : List (Nat × Value)} {x : Int64} (d : decode cc pc = .ok (.lload_n k, 1)) (hi : (k : Nat) = i) (hl : lv_has ls nL lv) (q : Nat) (hk : lv[q]? = some (i, .long x)) (kk : W p l e R s m args below meth c H locs cells slots Q (F0 m (pc + 1) ls (.long x :: rest))) : W p l e R s m args below meth c H locs cells slots Q (F0 m pc ls rest) := lv_lload_n C.1.1 C.1.2.1 d hi (lv_at hl q hk) kk
theorem g_lload (C : gC p c cc nL s m args Ts own κ B n ad) {i : Nat} {lv : List (Nat × Value)} {x : Int64} (d : decode cc pc = .ok (.lload i, 2)) (hl : lv_has ls nL lv) (q : Nat) (hk : lv[q]? = some (i, .long x)) (kk : W p l e R s m args below meth c H locs cells slots Q (F0 m (pc + 2) ls (.long x :: rest))) : W p l e R s m args below meth c H locs cells slots Q (F0 m pc ls rest) := lv_lload C.1.1 C.1.2.1 d (lv_at hl q hk) kk
theorem g_aload_n (C : gC p c cc nL s m args Ts own κ B n ad) {k : Fin 4} {i : Nat} {lv : List (Nat × Value)} {x : Nat} (d : decode cc pc = .ok (.aload_n k, 1)) (hi : (k : Nat) = i) (hl : lv_has ls nL lv) (q : Nat) (hk : lv[q]? = some (i, .ref x)) (kk : W p l e R s m args below meth c H locs cells slots Q (F0 m (pc + 1) ls (.ref x :: rest))) : W p l e R s m args below meth c H locs cells slots Q (F0 m pc ls rest) := lv_aload_n C.1.1 C.1.2.1 d hi (lv_at hl q hk) kk
theorem g_aload (C : gC p c cc nL s m args Ts own κ B n ad) {i : Nat} {lv : List (Nat × Value)} {x : Nat} (d : decode cc pc = .ok (.aload i, 2)) (hl : lv_has ls nL lv) (q : Nat) (hk : lv[q]? = some (i, .ref x)) (kk : W p l e R s m args below meth c H locs cells slots Q (F0 m (pc + 2) ls (.ref x :: rest))) : W p l e R s m args below meth c H locs cells slots Q (F0 m pc ls rest) := lv_aload C.1.1 C.1.2.1 d (lv_at hl q hk) kk
theorem g_icmp_eq (C : gC p c cc nL s m args Ts own κ B n ad) {a b : Int} {off : Int} {tgt : Nat} (ha : inI a) (hb : inI b) (d : decode cc pc = .ok (.if_icmp .eq off, 3)) (ht : (pc : Int) + off = (tgt : Int)) (kt : a = b → W p l e R s m args below meth c H locs cells slots Q (F0 m tgt ls rest)) (kf : a ≠ b → W p l e R s m args below meth c H locs cells slots Q (F0 m (pc + 3) ls rest)) : W p l e R s m args below meth c H locs cells slots Q (F0 m pc ls (.int (iz b) :: .int (iz a) :: rest)) :=
  lv_icmp_eq C.1.1 C.1.2.1 d ht (fun c => kt ((iz_inj ha hb).mp c)) (fun c => kf (fun q => c ((iz_inj ha hb).mpr q)))
theorem g_if_eq (C : gC p c cc nL s m args Ts own κ B n ad) {a : Int} {off : Int} {tgt : Nat} (ha : inI a) (d : decode cc pc = .ok (.ifCond .eq off, 3)) (ht : (pc : Int) + off = (tgt : Int)) (kt : a = 0 → W p l e R s m args below meth c H locs cells slots Q (F0 m tgt ls rest)) (kf : a ≠ 0 → W p l e R s m args below meth c H locs cells slots Q (F0 m (pc + 3) ls rest)) : W p l e R s m args below meth c H locs cells slots Q (F0 m pc ls (.int (iz a) :: rest)) := by
  have hb : inI 0 := ⟨by omega, by omega⟩
  exact lv_if_eq C.1.1 C.1.2.1 d ht (fun c => kt ((iz_inj ha hb).mp c)) (fun c => kf (fun q => c ((iz_inj ha hb).mpr q)))
theorem g_icmp_ne (C : gC p c cc nL s m args Ts own κ B n ad) {a b : Int} {off : Int} {tgt : Nat} (ha : inI a) (hb : inI b) (d : decode cc pc = .ok (.if_icmp .ne off, 3)) (ht : (pc : Int) + off = (tgt : Int)) (kt : a ≠ b → W p l e R s m args below meth c H locs cells slots Q (F0 m tgt ls rest)) (kf : a = b → W p l e R s m args below meth c H locs cells slots Q (F0 m (pc + 3) ls rest)) : W p l e R s m args below meth c H locs cells slots Q (F0 m pc ls (.int (iz b) :: .int (iz a) :: rest)) :=
  lv_icmp_ne C.1.1 C.1.2.1 d ht (fun c => kt (fun q => c ((iz_inj ha hb).mpr q))) (fun c => kf ((iz_inj ha hb).mp c))
theorem g_if_ne (C : gC p c cc nL s m args Ts own κ B n ad) {a : Int} {off : Int} {tgt : Nat} (ha : inI a) (d : decode cc pc = .ok (.ifCond .ne off, 3)) (ht : (pc : Int) + off = (tgt : Int)) (kt : a ≠ 0 → W p l e R s m args below meth c H locs cells slots Q (F0 m tgt ls rest)) (kf : a = 0 → W p l e R s m args below meth c H locs cells slots Q (F0 m (pc + 3) ls rest)) : W p l e R s m args below meth c H locs cells slots Q (F0 m pc ls (.int (iz a) :: rest)) := by
  have hb : inI 0 := ⟨by omega, by omega⟩
  exact lv_if_ne C.1.1 C.1.2.1 d ht (fun c => kt (fun q => c ((iz_inj ha hb).mpr q))) (fun c => kf ((iz_inj ha hb).mp c))
theorem g_icmp_lt (C : gC p c cc nL s m args Ts own κ B n ad) {a b : Int} {off : Int} {tgt : Nat} (ha : inI a) (hb : inI b) (d : decode cc pc = .ok (.if_icmp .lt off, 3)) (ht : (pc : Int) + off = (tgt : Int)) (kt : a < b → W p l e R s m args below meth c H locs cells slots Q (F0 m tgt ls rest)) (kf : b ≤ a → W p l e R s m args below meth c H locs cells slots Q (F0 m (pc + 3) ls rest)) : W p l e R s m args below meth c H locs cells slots Q (F0 m pc ls (.int (iz b) :: .int (iz a) :: rest)) :=
  lv_icmp_lt C.1.1 C.1.2.1 d ht (fun c => kt ((iz_lt ha hb).mp c)) (fun c => kf (Int.not_lt.mp (fun q => c ((iz_lt ha hb).mpr q))))
theorem g_if_lt (C : gC p c cc nL s m args Ts own κ B n ad) {a : Int} {off : Int} {tgt : Nat} (ha : inI a) (d : decode cc pc = .ok (.ifCond .lt off, 3)) (ht : (pc : Int) + off = (tgt : Int)) (kt : a < 0 → W p l e R s m args below meth c H locs cells slots Q (F0 m tgt ls rest)) (kf : 0 ≤ a → W p l e R s m args below meth c H locs cells slots Q (F0 m (pc + 3) ls rest)) : W p l e R s m args below meth c H locs cells slots Q (F0 m pc ls (.int (iz a) :: rest)) := by
  have hb : inI 0 := ⟨by omega, by omega⟩
  exact lv_if_lt C.1.1 C.1.2.1 d ht (fun c => kt ((iz_lt ha hb).mp c)) (fun c => kf (Int.not_lt.mp (fun q => c ((iz_lt ha hb).mpr q))))
theorem g_icmp_ge (C : gC p c cc nL s m args Ts own κ B n ad) {a b : Int} {off : Int} {tgt : Nat} (ha : inI a) (hb : inI b) (d : decode cc pc = .ok (.if_icmp .ge off, 3)) (ht : (pc : Int) + off = (tgt : Int)) (kt : b ≤ a → W p l e R s m args below meth c H locs cells slots Q (F0 m tgt ls rest)) (kf : a < b → W p l e R s m args below meth c H locs cells slots Q (F0 m (pc + 3) ls rest)) : W p l e R s m args below meth c H locs cells slots Q (F0 m pc ls (.int (iz b) :: .int (iz a) :: rest)) :=
  lv_icmp_ge C.1.1 C.1.2.1 d ht (fun c => kt ((iz_le hb ha).mp c)) (fun c => kf (Int.not_le.mp (fun q => c ((iz_le hb ha).mpr q))))
theorem g_if_ge (C : gC p c cc nL s m args Ts own κ B n ad) {a : Int} {off : Int} {tgt : Nat} (ha : inI a) (d : decode cc pc = .ok (.ifCond .ge off, 3)) (ht : (pc : Int) + off = (tgt : Int)) (kt : 0 ≤ a → W p l e R s m args below meth c H locs cells slots Q (F0 m tgt ls rest)) (kf : a < 0 → W p l e R s m args below meth c H locs cells slots Q (F0 m (pc + 3) ls rest)) : W p l e R s m args below meth c H locs cells slots Q (F0 m pc ls (.int (iz a) :: rest)) := by
  have hb : inI 0 := ⟨by omega, by omega⟩
  exact lv_if_ge C.1.1 C.1.2.1 d ht (fun c => kt ((iz_le hb ha).mp c)) (fun c => kf (Int.not_le.mp (fun q => c ((iz_le hb ha).mpr q))))
theorem g_icmp_gt (C : gC p c cc nL s m args Ts own κ B n ad) {a b : Int} {off : Int} {tgt : Nat} (ha : inI a) (hb : inI b) (d : decode cc pc = .ok (.if_icmp .gt off, 3)) (ht : (pc : Int) + off = (tgt : Int)) (kt : b < a → W p l e R s m args below meth c H locs cells slots Q (F0 m tgt ls rest)) (kf : a ≤ b → W p l e R s m args below meth c H locs cells slots Q (F0 m (pc + 3) ls rest)) : W p l e R s m args below meth c H locs cells slots Q (F0 m pc ls (.int (iz b) :: .int (iz a) :: rest)) :=
  lv_icmp_gt C.1.1 C.1.2.1 d ht (fun c => kt ((iz_lt hb ha).mp c)) (fun c => kf (Int.not_lt.mp (fun q => c ((iz_lt hb ha).mpr q))))
theorem g_if_gt (C : gC p c cc nL s m args Ts own κ B n ad) {a : Int} {off : Int} {tgt : Nat} (ha : inI a) (d : decode cc pc = .ok (.ifCond .gt off, 3)) (ht : (pc : Int) + off = (tgt : Int)) (kt : 0 < a → W p l e R s m args below meth c H locs cells slots Q (F0 m tgt ls rest)) (kf : a ≤ 0 → W p l e R s m args below meth c H locs cells slots Q (F0 m (pc + 3) ls rest)) : W p l e R s m args below meth c H locs cells slots Q (F0 m pc ls (.int (iz a) :: rest)) := by
  have hb : inI 0 := ⟨by omega, by omega⟩
  exact lv_if_gt C.1.1 C.1.2.1 d ht (fun c => kt ((iz_lt hb ha).mp c)) (fun c => kf (Int.not_lt.mp (fun q => c ((iz_lt hb ha).mpr q))))
theorem g_icmp_le (C : gC p c cc nL s m args Ts own κ B n ad) {a b : Int} {off : Int} {tgt : Nat} (ha : inI a) (hb : inI b) (d : decode cc pc = .ok (.if_icmp .le off, 3)) (ht : (pc : Int) + off = (tgt : Int)) (kt : a ≤ b → W p l e R s m args below meth c H locs cells slots Q (F0 m tgt ls rest)) (kf : b < a → W p l e R s m args below meth c H locs cells slots Q (F0 m (pc + 3) ls rest)) : W p l e R s m args below meth c H locs cells slots Q (F0 m pc ls (.int (iz b) :: .int (iz a) :: rest)) :=
  lv_icmp_le C.1.1 C.1.2.1 d ht (fun c => kt ((iz_le ha hb).mp c)) (fun c => kf (Int.not_le.mp (fun q => c ((iz_le ha hb).mpr q))))
theorem g_if_le (C : gC p c cc nL s m args Ts own κ B n ad) {a : Int} {off : Int} {tgt : Nat} (ha : inI a) (d : decode cc pc = .ok (.ifCond .le off, 3)) (ht : (pc : Int) + off = (tgt : Int)) (kt : a ≤ 0 → W p l e R s m args below meth c H locs cells slots Q (F0 m tgt ls rest)) (kf : 0 < a → W p l e R s m args below meth c H locs cells slots Q (F0 m (pc + 3) ls rest)) : W p l e R s m args below meth c H locs cells slots Q (F0 m pc ls (.int (iz a) :: rest)) := by
  have hb : inI 0 := ⟨by omega, by omega⟩
  exact lv_if_le C.1.1 C.1.2.1 d ht (fun c => kt ((iz_le ha hb).mp c)) (fun c => kf (Int.not_le.mp (fun q => c ((iz_le ha hb).mpr q))))
theorem g_goto (C : gC p c cc nL s m args Ts own κ B n ad) {off : Int} {tgt : Nat} (d : decode cc pc = .ok (.goto off, 3)) (ht : (pc : Int) + off = (tgt : Int)) (k : W p l e R s m args below meth c H locs cells slots Q (F0 m tgt ls rest)) : W p l e R s m args below meth c H locs cells slots Q (F0 m pc ls rest) := lv_goto C.1.1 C.1.2.1 d ht k
theorem g_lcmp (C : gC p c cc nL s m args Ts own κ B n ad) {a b : Int} (ha : inJ a) (hb : inJ b) (d : decode cc pc = .ok (.lcmp, 1)) (k : ∀ z : Int, ((a < b ∧ z = -1) ∨ (a = b ∧ z = 0) ∨ (b < a ∧ z = 1)) → W p l e R s m args below meth c H locs cells slots Q (F0 m (pc + 1) ls (.int (iz z) :: rest))) : W p l e R s m args below meth c H locs cells slots Q (F0 m pc ls (.long (jz b) :: .long (jz a) :: rest)) := by
  refine W.lcmp C.1.1 C.1.2.1 d ?_
  by_cases h1 : a < b
  · have h2 : jz a < jz b := (jz_lt ha hb).mpr h1
    have h3 : ¬ jz b < jz a := fun q => by have := (jz_lt hb ha).mp q; omega
    have h4 : jz a ≠ jz b := fun q => by have := (jz_inj ha hb).mp q; omega
    have k := k (-1) (Or.inl ⟨h1, rfl⟩)
    have h6 : lg_cmp (jz a) (jz b) = iz (-1) := by unfold lg_cmp; rw [if_neg h3, if_neg h4]; rfl
    rw [h6]
    exact k
  · by_cases h5 : a = b
    · subst h5
      have h2 : ¬ jz a < jz a := fun q => by have := (jz_lt ha ha).mp q; omega
      have k := k 0 (Or.inr (Or.inl ⟨rfl, rfl⟩))
      have h6 : lg_cmp (jz a) (jz a) = iz 0 := by unfold lg_cmp; rw [if_neg h2, if_pos rfl]; rfl
      rw [h6]
      exact k
    · have h2 : jz b < jz a := (jz_lt hb ha).mpr (by omega)
      have h3 : ¬ jz a < jz b := fun q => by have := (jz_lt ha hb).mp q; omega
      have h4 : jz a ≠ jz b := fun q => h5 ((jz_inj ha hb).mp q)
      have k := k 1 (Or.inr (Or.inr ⟨by omega, rfl⟩))
      have h6 : lg_cmp (jz a) (jz b) = iz 1 := by unfold lg_cmp; rw [if_pos h2]; rfl
      rw [h6]
      exact k
theorem g_get (C : gC p c cc nL s m args Ts own κ B n ad) (G : gG κ B n ad s g H locs) {pos ci k index : Nat} {fs : List Value} {v : Value} (F : gFld Ts own index ci k) (hp : pos < n) (he : g pos = .inr (ci, fs)) (hv : fs[k]? = some v) (d : decode cc pc = .ok (.getfield index, 3)) (kk : W p l e R s m args below meth c H locs cells slots Q (F0 m (pc + 3) ls (v :: rest))) : W p l e R s m args below meth c H locs cells slots Q (F0 m pc ls (.ref (ad pos) :: rest)) := by
  obtain ⟨C0, T, N, h1, h2, h3, h4⟩ := F
  obtain ⟨⟨hx, hb, hml, hown, hts⟩, hK, hD, hB⟩ := C
  exact va_get hx hb hts h3 hown hK.1 G.1 pos (by rw [gW_at hp, he]) h1 k h2 (hts _ h4) (fun _ h9 => h9) hv d kk
theorem g_put (C : gC p c cc nL s m args Ts own κ B n ad) (G : gG κ B n ad s g H locs) {pos ci k index : Nat} {fs fs' : List Value} {v : Value} {ty : FieldType} (F : gFldW Ts own index ci k ty false) (hp : pos < n) (he : g pos = .inr (ci, fs)) (hl : k < fs.length) (hf : fs.set k v = fs') (hn : narrow ty v = v) (hfit : fits ty v = true) (d : decode cc pc = .ok (.putfield index, 3))
    (kk : ∀ (H : Heap) (locs : List Loc), gG κ B n ad s (va_up g pos (.inr (ci, fs'))) H locs → W p l e R s m args below meth c H locs cells slots Q (F0 m (pc + 3) ls rest)) : W p l e R s m args below meth c H locs cells slots Q (F0 m pc ls (v :: .ref (ad pos) :: rest)) := by
  subst hf
  obtain ⟨C0, T, N, t0, h1, h2, h3, h4, h5, h6, h7, h8, h9⟩ := F
  obtain ⟨⟨hx, hb, hml, hown, hts⟩, hK, hD, hB⟩ := C
  refine va_put hx hb hts h3 t0 h5 h6 hown hK.1 G.1 (hD.to g) G.2 pos (by rw [gW_at hp, he]) h1 k h2 (hts _ h4) (fun _ h9 => h9) h7 h8 hn hfit hl d (fun H1 l1 P1 _ S1 => ?_)
  rw [gW_set] at P1
  exact kk H1 l1 ⟨P1, S1⟩
theorem g_putF (C : gC p c cc nL s m args Ts own κ B n ad) (G : gG κ B n ad s g H locs) (hin : meth.name = "<init>") {pos ci k index : Nat} {fs fs' : List Value} {v : Value} {ty : FieldType} (F : gFldW Ts own index ci k ty true) (hp : pos < n) (he : g pos = .inr (ci, fs)) (hl : k < fs.length) (hf : fs.set k v = fs') (hn : narrow ty v = v) (hfit : fits ty v = true) (d : decode cc pc = .ok (.putfield index, 3))
    (kk : ∀ (H : Heap) (locs : List Loc), gG κ B n ad s (va_up g pos (.inr (ci, fs'))) H locs → W p l e R s m args below meth c H locs cells slots Q (F0 m (pc + 3) ls rest)) : W p l e R s m args below meth c H locs cells slots Q (F0 m pc ls (v :: .ref (ad pos) :: rest)) := by
  subst hf
  obtain ⟨C0, T, N, t0, h1, h2, h3, h4, h5, h6, h7, h8, h9⟩ := F
  obtain ⟨⟨hx, hb, hml, hown, hts⟩, hK, hD, hB⟩ := C
  refine va_putF hx hb hts h3 t0 h5 h6 hown hK.1 G.1 (hD.to g) G.2 pos (by rw [gW_at hp, he]) h1 k h2 (hts _ h4) (fun _ h9 => h9) h7 hin (h9 rfl) h8 hn hfit hl d (fun H1 l1 P1 _ S1 => ?_)
  rw [gW_set] at P1
  exact kk H1 l1 ⟨P1, S1⟩
theorem g_iaload (C : gC p c cc nL s m args Ts own κ B n ad) (G : gG κ B n ad s g H locs) {pos len : Nat} {z : Int} {v : Int → Int} (hp : pos < n) (he : g pos = aI κ len v) (h0 : 0 ≤ z) (h1 : z < (len : Int)) (h2 : z ≤ 2147483647) (d : decode cc pc = .ok (.iaload, 1)) (kk : W p l e R s m args below meth c H locs cells slots Q (F0 m (pc + 1) ls (.int (iz (v z)) :: rest))) : W p l e R s m args below meth c H locs cells slots Q (F0 m pc ls (.int (iz z) :: .ref (ad pos) :: rest)) := by
  obtain ⟨⟨hx, hb, hml, hown, hts⟩, hK, hD, hB⟩ := C
  refine va_iald hx hb hK.1 G.1 pos 0 (by rw [gW_at hp, he]) rfl (iz_in h0 h1 h2) d ?_
  rw [iz_clamp h0 h2, Int.toNat_of_nonneg h0]
  exact kk
theorem g_caload (C : gC p c cc nL s m args Ts own κ B n ad) (G : gG κ B n ad s g H locs) {pos len : Nat} {z : Int} {v : Int → Int} (hp : pos < n) (he : g pos = aCh κ len v) (h0 : 0 ≤ z) (h1 : z < (len : Int)) (h2 : z ≤ 2147483647) (d : decode cc pc = .ok (.caload, 1)) (kk : W p l e R s m args below meth c H locs cells slots Q (F0 m (pc + 1) ls (.int (iz (v z)) :: rest))) : W p l e R s m args below meth c H locs cells slots Q (F0 m pc ls (.int (iz z) :: .ref (ad pos) :: rest)) := by
  obtain ⟨⟨hx, hb, hml, hown, hts⟩, hK, hD, hB⟩ := C
  refine va_cald hx hb hK.1 G.1 pos 2 (by rw [gW_at hp, he]) rfl (iz_in h0 h1 h2) d ?_
  rw [iz_clamp h0 h2, Int.toNat_of_nonneg h0]
  exact kk
theorem g_baload (C : gC p c cc nL s m args Ts own κ B n ad) (G : gG κ B n ad s g H locs) {pos len : Nat} {z : Int} {v : Int → Int} (hp : pos < n) (he : g pos = aZ κ len v) (h0 : 0 ≤ z) (h1 : z < (len : Int)) (h2 : z ≤ 2147483647) (d : decode cc pc = .ok (.baload, 1)) (kk : W p l e R s m args below meth c H locs cells slots Q (F0 m (pc + 1) ls (.int (iz (v z)) :: rest))) : W p l e R s m args below meth c H locs cells slots Q (F0 m pc ls (.int (iz z) :: .ref (ad pos) :: rest)) := by
  obtain ⟨⟨hx, hb, hml, hown, hts⟩, hK, hD, hB⟩ := C
  refine va_zald hx hb hK.1 G.1 pos 3 (by rw [gW_at hp, he]) rfl (iz_in h0 h1 h2) d ?_
  rw [iz_clamp h0 h2, Int.toNat_of_nonneg h0]
  exact kk
theorem g_laload (C : gC p c cc nL s m args Ts own κ B n ad) (G : gG κ B n ad s g H locs) {pos len : Nat} {z : Int} {v : Int → Int64} (hp : pos < n) (he : g pos = aJ κ len v) (h0 : 0 ≤ z) (h1 : z < (len : Int)) (h2 : z ≤ 2147483647) (d : decode cc pc = .ok (.laload, 1)) (kk : W p l e R s m args below meth c H locs cells slots Q (F0 m (pc + 1) ls (.long (v z) :: rest))) : W p l e R s m args below meth c H locs cells slots Q (F0 m pc ls (.int (iz z) :: .ref (ad pos) :: rest)) := by
  obtain ⟨⟨hx, hb, hml, hown, hts⟩, hK, hD, hB⟩ := C
  refine va_lald hx hb hK.1 G.1 pos 1 (by rw [gW_at hp, he]) rfl (iz_in h0 h1 h2) d ?_
  rw [iz_clamp h0 h2, Int.toNat_of_nonneg h0]
  exact kk
theorem g_aaloadL (C : gC p c cc nL s m args Ts own κ B n ad) (G : gG κ B n ad s g H locs) {pos len : Nat} {z : Int} {f : Nat → Option Nat} {q : Nat} (hp : pos < n) (he : g pos = aL κ len f) (h0 : 0 ≤ z) (h1 : z < (len : Int)) (h2 : z ≤ 2147483647) (hq : f z.toNat = some q) (d : decode cc pc = .ok (.aaload, 1)) (kk : W p l e R s m args below meth c H locs cells slots Q (F0 m (pc + 1) ls (.ref q :: rest))) : W p l e R s m args below meth c H locs cells slots Q (F0 m pc ls (.int (iz z) :: .ref (ad pos) :: rest)) := by
  obtain ⟨⟨hx, hb, hml, hown, hts⟩, hK, hD, hB⟩ := C
  refine va_aldq hx hb hK.1 G.1 pos 4 (by rw [gW_at hp, he]) rfl (iz_in h0 h1 h2) d ?_
  rw [iz_clamp h0 h2, hq]
  exact kk
theorem g_aaloadPl (C : gC p c cc nL s m args Ts own κ B n ad) (G : gG κ B n ad s g H locs) {pos len : Nat} {z : Int} {f : Nat → Option Nat} {q : Nat} (hp : pos < n) (he : g pos = aPl κ len f) (h0 : 0 ≤ z) (h1 : z < (len : Int)) (h2 : z ≤ 2147483647) (hq : f z.toNat = some q) (d : decode cc pc = .ok (.aaload, 1)) (kk : W p l e R s m args below meth c H locs cells slots Q (F0 m (pc + 1) ls (.ref q :: rest))) : W p l e R s m args below meth c H locs cells slots Q (F0 m pc ls (.int (iz z) :: .ref (ad pos) :: rest)) := by
  obtain ⟨⟨hx, hb, hml, hown, hts⟩, hK, hD, hB⟩ := C
  refine va_aldq hx hb hK.1 G.1 pos 5 (by rw [gW_at hp, he]) rfl (iz_in h0 h1 h2) d ?_
  rw [iz_clamp h0 h2, hq]
  exact kk
theorem g_iastore (C : gC p c cc nL s m args Ts own κ B n ad) (G : gG κ B n ad s g H locs) {pos len : Nat} {z x : Int} {v : Int → Int} (hp : pos < n) (he : g pos = aI κ len v) (h0 : 0 ≤ z) (h1 : z < (len : Int)) (h2 : z ≤ 2147483647) (d : decode cc pc = .ok (.iastore, 1)) (kk : ∀ (H : Heap) (locs : List Loc), gG κ B n ad s (va_up g pos (aI κ len (vu v z x))) H locs → W p l e R s m args below meth c H locs cells slots Q (F0 m (pc + 1) ls rest)) : W p l e R s m args below meth c H locs cells slots Q (F0 m pc ls (.int (iz x) :: .int (iz z) :: .ref (ad pos) :: rest)) := by
  obtain ⟨⟨hx, hb, hml, hown, hts⟩, hK, hD, hB⟩ := C
  refine va_iast hx hb hK.1 G.1 (hD.to g) G.2 pos 0 (by rw [gW_at hp, he]) rfl (iz_in h0 h1 h2) d (fun H1 l1 P1 _ S1 => ?_)
  rw [vu_upd h0 h2, gW_set] at P1
  exact kk H1 l1 ⟨P1, S1⟩
theorem g_castore (C : gC p c cc nL s m args Ts own κ B n ad) (G : gG κ B n ad s g H locs) {pos len : Nat} {z x : Int} {v : Int → Int} (hp : pos < n) (he : g pos = aCh κ len v) (h0 : 0 ≤ z) (h1 : z < (len : Int)) (h2 : z ≤ 2147483647) (x0 : 0 ≤ x) (x1 : x ≤ 65535) (d : decode cc pc = .ok (.castore, 1)) (kk : ∀ (H : Heap) (locs : List Loc), gG κ B n ad s (va_up g pos (aCh κ len (vu v z x))) H locs → W p l e R s m args below meth c H locs cells slots Q (F0 m (pc + 1) ls rest)) : W p l e R s m args below meth c H locs cells slots Q (F0 m pc ls (.int (iz x) :: .int (iz z) :: .ref (ad pos) :: rest)) := by
  obtain ⟨⟨hx, hb, hml, hown, hts⟩, hK, hD, hB⟩ := C
  refine va_cast hx hb hK.1 G.1 (hD.to g) G.2 pos 2 (by rw [gW_at hp, he]) rfl (iz_in h0 h1 h2) d (fun H1 l1 P1 _ S1 => ?_)
  rw [gnar_char x0 x1, vu_upd h0 h2, gW_set] at P1
  exact kk H1 l1 ⟨P1, S1⟩
theorem g_bastore (C : gC p c cc nL s m args Ts own κ B n ad) (G : gG κ B n ad s g H locs) {pos len : Nat} {z x : Int} {v : Int → Int} (hp : pos < n) (he : g pos = aZ κ len v) (h0 : 0 ≤ z) (h1 : z < (len : Int)) (h2 : z ≤ 2147483647) (hx01 : x = 0 ∨ x = 1) (d : decode cc pc = .ok (.bastore, 1)) (kk : ∀ (H : Heap) (locs : List Loc), gG κ B n ad s (va_up g pos (aZ κ len (vu v z x))) H locs → W p l e R s m args below meth c H locs cells slots Q (F0 m (pc + 1) ls rest)) : W p l e R s m args below meth c H locs cells slots Q (F0 m pc ls (.int (iz x) :: .int (iz z) :: .ref (ad pos) :: rest)) := by
  obtain ⟨⟨hx, hb, hml, hown, hts⟩, hK, hD, hB⟩ := C
  refine va_zast hx hb hK.1 G.1 (hD.to g) G.2 pos 3 (by rw [gW_at hp, he]) rfl (iz_in h0 h1 h2) d (fun H1 l1 P1 _ S1 => ?_)
  rw [gnar_bool hx01, vu_upd h0 h2, gW_set] at P1
  exact kk H1 l1 ⟨P1, S1⟩
theorem g_lastore (C : gC p c cc nL s m args Ts own κ B n ad) (G : gG κ B n ad s g H locs) {pos len : Nat} {z : Int} {x : Int64} {v : Int → Int64} (hp : pos < n) (he : g pos = aJ κ len v) (h0 : 0 ≤ z) (h1 : z < (len : Int)) (h2 : z ≤ 2147483647) (d : decode cc pc = .ok (.lastore, 1)) (kk : ∀ (H : Heap) (locs : List Loc), gG κ B n ad s (va_up g pos (aJ κ len (vuJ v z x))) H locs → W p l e R s m args below meth c H locs cells slots Q (F0 m (pc + 1) ls rest)) : W p l e R s m args below meth c H locs cells slots Q (F0 m pc ls (.long x :: .int (iz z) :: .ref (ad pos) :: rest)) := by
  obtain ⟨⟨hx, hb, hml, hown, hts⟩, hK, hD, hB⟩ := C
  refine va_last hx hb hK.1 G.1 (hD.to g) G.2 pos 1 (by rw [gW_at hp, he]) rfl (iz_in h0 h1 h2) d (fun H1 l1 P1 _ S1 => ?_)
  rw [vuJ_upd h0 h2, gW_set] at P1
  exact kk H1 l1 ⟨P1, S1⟩
theorem g_aastoreL (C : gC p c cc nL s m args Ts own κ B n ad) (G : gG κ B n ad s g H locs) {pos len qk : Nat} {z : Int} {f : Nat → Option Nat} {vs : List Value} (hp : pos < n) (he : g pos = aL κ len f) (hq : qk < n) (hv : g qk = .inr (3, vs)) (h0 : 0 ≤ z) (h1 : z < (len : Int)) (h2 : z ≤ 2147483647) (d : decode cc pc = .ok (.aastore, 1)) (kk : ∀ (H : Heap) (locs : List Loc), gG κ B n ad s (va_up g pos (aL κ len (va_up f z.toNat (some (ad qk))))) H locs → W p l e R s m args below meth c H locs cells slots Q (F0 m (pc + 1) ls rest)) : W p l e R s m args below meth c H locs cells slots Q (F0 m pc ls (.ref (ad qk) :: .int (iz z) :: .ref (ad pos) :: rest)) := by
  obtain ⟨⟨hx, hb, hml, hown, hts⟩, hK, hD, hB⟩ := C
  refine va_astq hx hb hK.1 G.1 (hD.to g) G.2 pos 4 qk 3 (by rw [gW_at hp, he]) (r := (RX3, TX3, 4)) rfl (by rw [gW_at hq, hv]) rfl (iz_in h0 h1 h2) d (fun H1 l1 P1 _ S1 => ?_)
  rw [iz_clamp h0 h2, gW_set] at P1
  exact kk H1 l1 ⟨P1, S1⟩
theorem g_aastorePl (C : gC p c cc nL s m args Ts own κ B n ad) (G : gG κ B n ad s g H locs) {pos len qk : Nat} {z : Int} {f : Nat → Option Nat} {vs : List Value} (hp : pos < n) (he : g pos = aPl κ len f) (hq : qk < n) (hv : g qk = .inr (4, vs)) (h0 : 0 ≤ z) (h1 : z < (len : Int)) (h2 : z ≤ 2147483647) (d : decode cc pc = .ok (.aastore, 1)) (kk : ∀ (H : Heap) (locs : List Loc), gG κ B n ad s (va_up g pos (aPl κ len (va_up f z.toNat (some (ad qk))))) H locs → W p l e R s m args below meth c H locs cells slots Q (F0 m (pc + 1) ls rest)) : W p l e R s m args below meth c H locs cells slots Q (F0 m pc ls (.ref (ad qk) :: .int (iz z) :: .ref (ad pos) :: rest)) := by
  obtain ⟨⟨hx, hb, hml, hown, hts⟩, hK, hD, hB⟩ := C
  refine va_astq hx hb hK.1 G.1 (hD.to g) G.2 pos 5 qk 4 (by rw [gW_at hp, he]) (r := (RX4, TX4, 6)) rfl (by rw [gW_at hq, hv]) rfl (iz_in h0 h1 h2) d (fun H1 l1 P1 _ S1 => ?_)
  rw [iz_clamp h0 h2, gW_set] at P1
  exact kk H1 l1 ⟨P1, S1⟩
theorem g_alenI (C : gC p c cc nL s m args Ts own κ B n ad) (G : gG κ B n ad s g H locs) {pos len : Nat} {v : Int → Int} (hp : pos < n) (he : g pos = aI κ len v) (d : decode cc pc = .ok (.arraylength, 1)) (kk : W p l e R s m args below meth c H locs cells slots Q (F0 m (pc + 1) ls (.int (iz (len : Int)) :: rest))) : W p l e R s m args below meth c H locs cells slots Q (F0 m pc ls (.ref (ad pos) :: rest)) := by
  obtain ⟨⟨hx, hb, hml, hown, hts⟩, hK, hD, hB⟩ := C
  exact va_alen hx hb hK.1 G.1 pos 0 (x := (len, .inl (fun k : Nat => iz (v (k : Int)))))  (by rw [gW_at hp, he]) rfl (v := iz (len : Int)) (iz_nI len).symm d kk
theorem g_alenJ (C : gC p c cc nL s m args Ts own κ B n ad) (G : gG κ B n ad s g H locs) {pos len : Nat} {v : Int → Int64} (hp : pos < n) (he : g pos = aJ κ len v) (d : decode cc pc = .ok (.arraylength, 1)) (kk : W p l e R s m args below meth c H locs cells slots Q (F0 m (pc + 1) ls (.int (iz (len : Int)) :: rest))) : W p l e R s m args below meth c H locs cells slots Q (F0 m pc ls (.ref (ad pos) :: rest)) := by
  obtain ⟨⟨hx, hb, hml, hown, hts⟩, hK, hD, hB⟩ := C
  exact va_alen hx hb hK.1 G.1 pos 1 (x := (len, .inr (.inl (fun k : Nat => v (k : Int)))))  (by rw [gW_at hp, he]) rfl (v := iz (len : Int)) (iz_nI len).symm d kk
theorem g_alenCh (C : gC p c cc nL s m args Ts own κ B n ad) (G : gG κ B n ad s g H locs) {pos len : Nat} {v : Int → Int} (hp : pos < n) (he : g pos = aCh κ len v) (d : decode cc pc = .ok (.arraylength, 1)) (kk : W p l e R s m args below meth c H locs cells slots Q (F0 m (pc + 1) ls (.int (iz (len : Int)) :: rest))) : W p l e R s m args below meth c H locs cells slots Q (F0 m pc ls (.ref (ad pos) :: rest)) := by
  obtain ⟨⟨hx, hb, hml, hown, hts⟩, hK, hD, hB⟩ := C
  exact va_alen hx hb hK.1 G.1 pos 2 (x := (len, .inl (fun k : Nat => iz (v (k : Int)))))  (by rw [gW_at hp, he]) rfl (v := iz (len : Int)) (iz_nI len).symm d kk
theorem g_alenZ (C : gC p c cc nL s m args Ts own κ B n ad) (G : gG κ B n ad s g H locs) {pos len : Nat} {v : Int → Int} (hp : pos < n) (he : g pos = aZ κ len v) (d : decode cc pc = .ok (.arraylength, 1)) (kk : W p l e R s m args below meth c H locs cells slots Q (F0 m (pc + 1) ls (.int (iz (len : Int)) :: rest))) : W p l e R s m args below meth c H locs cells slots Q (F0 m pc ls (.ref (ad pos) :: rest)) := by
  obtain ⟨⟨hx, hb, hml, hown, hts⟩, hK, hD, hB⟩ := C
  exact va_alen hx hb hK.1 G.1 pos 3 (x := (len, .inl (fun k : Nat => iz (v (k : Int)))))  (by rw [gW_at hp, he]) rfl (v := iz (len : Int)) (iz_nI len).symm d kk
theorem g_alenL (C : gC p c cc nL s m args Ts own κ B n ad) (G : gG κ B n ad s g H locs) {pos len : Nat} {v : Nat → Option Nat} (hp : pos < n) (he : g pos = aL κ len v) (d : decode cc pc = .ok (.arraylength, 1)) (kk : W p l e R s m args below meth c H locs cells slots Q (F0 m (pc + 1) ls (.int (iz (len : Int)) :: rest))) : W p l e R s m args below meth c H locs cells slots Q (F0 m pc ls (.ref (ad pos) :: rest)) := by
  obtain ⟨⟨hx, hb, hml, hown, hts⟩, hK, hD, hB⟩ := C
  exact va_alen hx hb hK.1 G.1 pos 4 (x := (len, .inr (.inr (.inr (.inr v)))))  (by rw [gW_at hp, he]) rfl (v := iz (len : Int)) (iz_nI len).symm d kk
theorem g_alenPl (C : gC p c cc nL s m args Ts own κ B n ad) (G : gG κ B n ad s g H locs) {pos len : Nat} {v : Nat → Option Nat} (hp : pos < n) (he : g pos = aPl κ len v) (d : decode cc pc = .ok (.arraylength, 1)) (kk : W p l e R s m args below meth c H locs cells slots Q (F0 m (pc + 1) ls (.int (iz (len : Int)) :: rest))) : W p l e R s m args below meth c H locs cells slots Q (F0 m pc ls (.ref (ad pos) :: rest)) := by
  obtain ⟨⟨hx, hb, hml, hown, hts⟩, hK, hD, hB⟩ := C
  exact va_alen hx hb hK.1 G.1 pos 5 (x := (len, .inr (.inr (.inr (.inr v)))))  (by rw [gW_at hp, he]) rfl (v := iz (len : Int)) (iz_nI len).symm d kk
end GR
