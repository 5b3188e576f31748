/-! MORE ROWS -/
theorem g_inc {x n y : Int} (h : x + n = y) : iz x + Int32.ofInt n = iz y := by
  rw [← h]
  exact (Int32.ofInt_add x n).symm
theorem gnar_z {z : Int} (h : z = 0 ∨ z = 1) : narrow .boolean (.int (iz z)) = .int (iz z) := by
  rcases h with rfl | rfl <;> rfl
section GT
variable {p : Program} {l : Launch} {e : Env} {R : Room} {s : State} {m : MethodId} {args : Array Value} {below : List Frame} {meth : Method} {c : Code} {H : Heap} {locs : List Loc} {cells slots : Nat} {Q : State → Prop}
variable {cc : ByteArray} {nL pc : Nat} {ls : Array Slot} {rest : List Value} {Ts : List Cond} {own : String} {κ : gKap} {B n : Nat} {ad : Nat → Nat} {g : Nat → va_E}
theorem g_tswIn (C : gC p c cc nL s m args Ts own κ B n ad) {dflt lo hi a v off : Int} {offs : Array Int} {len tgt : Nat} (d : decode cc pc = .ok (.tableswitch dflt lo hi offs, len)) (hv : a = v) (hi1 : inI v) (h1 : lo ≤ v) (h2 : v ≤ hi) (ho : offs[(v - lo).toNat]? = some off) (ht : (pc : Int) + off = (tgt : Int)) (k : W p l e R s m args below meth c H locs cells slots Q (F0 m tgt ls rest)) : W p l e R s m args below meth c H locs cells slots Q (F0 m pc ls (.int (iz a) :: rest)) := by
  subst hv
  refine lv_tableIn C.1.1 C.1.2.1 d ?_ ?_ (off := off) ?_ ht k
  · rw [iz_toInt hi1]; omega
  · rw [iz_toInt hi1]; omega
  · rw [iz_toInt hi1]; exact ho
theorem g_tswOut (C : gC p c cc nL s m args Ts own κ B n ad) {dflt lo hi a : Int} {offs : Array Int} {len tgt : Nat} (ha : inI a) (d : decode cc pc = .ok (.tableswitch dflt lo hi offs, len)) (h : a < lo ∨ hi < a) (ht : (pc : Int) + dflt = (tgt : Int)) (k : W p l e R s m args below meth c H locs cells slots Q (F0 m tgt ls rest)) : W p l e R s m args below meth c H locs cells slots Q (F0 m pc ls (.int (iz a) :: rest)) :=
  lv_tableOut C.1.1 C.1.2.1 d (by rw [iz_toInt ha]; exact h) ht k
theorem g_i2c (C : gC p c cc nL s m args Ts own κ B n ad) {a : Int} (h0 : 0 ≤ a) (h1 : a ≤ 65535) (d : decode cc pc = .ok (.i2c, 1)) (k : W p l e R s m args below meth c H locs cells slots Q (F0 m (pc + 1) ls (.int (iz a) :: rest))) : W p l e R s m args below meth c H locs cells slots Q (F0 m pc ls (.int (iz a) :: rest)) :=
  lv_i2c C.1.1 C.1.2.1 d (gnar_char h0 h1) k
end GT
/-! numbers -/
theorem tdiv_pos {a b : Int} (ha : 0 ≤ a) : Int.tdiv a b = a / b := Int.tdiv_eq_ediv_of_nonneg ha
theorem tmod_pos {a b : Int} (ha : 0 ≤ a) : Int.tmod a b = a % b := Int.tmod_eq_emod_of_nonneg ha
