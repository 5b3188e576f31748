/-! BASE: ints by Int, a ghost heap by positions, rows over it -/
def iz (z : Int) : Int32 := Int32.ofInt z
def jz (z : Int) : Int64 := Int64.ofInt z
abbrev inI (z : Int) : Prop := -2147483648 ≤ z ∧ z ≤ 2147483647
abbrev inJ (z : Int) : Prop := -9223372036854775808 ≤ z ∧ z ≤ 9223372036854775807
theorem iz_toInt {z : Int} (h : inI z) : (iz z).toInt = z := Int32.toInt_ofInt_of_le (by have := h.1; omega) (by have := h.2; omega)
theorem jz_toInt {z : Int} (h : inJ z) : (jz z).toInt = z := Int64.toInt_ofInt_of_le (by have := h.1; omega) (by have := h.2; omega)
theorem iz_of (x : Int32) : x = iz x.toInt := (Int32.ofInt_toInt x).symm
theorem jz_of (x : Int64) : x = jz x.toInt := (Int64.ofInt_toInt x).symm
theorem inI_of (x : Int32) : inI x.toInt := ⟨by have := Int32.le_toInt x; omega, by have := Int32.toInt_lt x; omega⟩
theorem inJ_of (x : Int64) : inJ x.toInt := ⟨by have := Int64.le_toInt x; omega, by have := Int64.toInt_lt x; omega⟩
theorem iz_nI (n : Nat) : iz (n : Int) = nI n := Int32.ofInt_eq_ofNat
theorem iz_clamp {z : Int} (h0 : 0 ≤ z) (h : z ≤ 2147483647) : (iz z).toNatClampNeg = z.toNat := by
  obtain ⟨n, rfl⟩ := Int.eq_ofNat_of_zero_le h0
  rw [iz_nI, nI_clamp (by omega)]
  rfl
theorem iz_inj {a b : Int} (ha : inI a) (hb : inI b) : iz a = iz b ↔ a = b := by
  constructor
  · intro h
    rw [← iz_toInt ha, ← iz_toInt hb, h]
  · intro h
    rw [h]
theorem iz_lt {a b : Int} (ha : inI a) (hb : inI b) : iz a < iz b ↔ a < b := by rw [Int32.lt_iff_toInt_lt, iz_toInt ha, iz_toInt hb]
theorem iz_le {a b : Int} (ha : inI a) (hb : inI b) : iz a ≤ iz b ↔ a ≤ b := by rw [Int32.le_iff_toInt_le, iz_toInt ha, iz_toInt hb]
theorem iz_0 : iz 0 = 0 := rfl
theorem jz_inj {a b : Int} (ha : inJ a) (hb : inJ b) : jz a = jz b ↔ a = b := by
  constructor
  · intro h
    rw [← jz_toInt ha, ← jz_toInt hb, h]
  · intro h
    rw [h]
theorem jz_lt {a b : Int} (ha : inJ a) (hb : inJ b) : jz a < jz b ↔ a < b := by rw [Int64.lt_iff_toInt_lt, jz_toInt ha, jz_toInt hb]
theorem iz_in {z : Int} {n : Nat} (h0 : 0 ≤ z) (h : z < (n : Int)) (hm : z ≤ 2147483647) : vp_in (iz z) n := by
  intro q
  rcases q with q | q
  · rw [← iz_0, iz_lt ⟨by omega, hm⟩ ⟨by omega, by omega⟩] at q
    omega
  · rw [iz_clamp h0 hm] at q
    omega
/-! the ghost heap: n positions, their addresses ad, their contents g -/
def gW (n : Nat) (ad : Nat → Nat) (g : Nat → va_E) : va_W := (List.range n).map (fun k => (ad k, g k))
theorem gW_at {n : Nat} {ad : Nat → Nat} {g : Nat → va_E} {k : Nat} (h : k < n) : (gW n ad g)[k]? = some (ad k, g k) := by
  simp [gW, h]
theorem gW_of {n : Nat} {ad : Nat → Nat} {g : Nat → va_E} {k : Nat} {q : Nat × va_E} (h : (gW n ad g)[k]? = some q) : k < n ∧ q = (ad k, g k) := by
  have hk : k < n := by
    have := (List.getElem?_eq_some_iff.mp h).1
    simpa [gW] using this
  rw [gW_at hk] at h
  exact ⟨hk, (Option.some.inj h).symm⟩
theorem gW_set {n : Nat} {ad : Nat → Nat} {g : Nat → va_E} {k : Nat} {x : va_E} : (gW n ad g).set k (ad k, x) = gW n ad (va_up g k x) := by
  apply List.ext_getElem?
  intro i
  by_cases hi : i < n
  · rw [gW_at hi, List.getElem?_set]
    by_cases hk : k = i
    · subst hk
      have : k < (gW n ad g).length := by simpa [gW] using hi
      simp [this, va_up]
    · rw [if_neg hk, gW_at hi]
      simp [va_up, Ne.symm hk]
  · have h1 : (gW n ad (va_up g k x))[i]? = none := by
      rw [List.getElem?_eq_none_iff]
      simpa [gW] using hi
    rw [h1, List.getElem?_eq_none_iff]
    simpa [gW] using hi
theorem gW_push {n : Nat} {ad : Nat → Nat} {g : Nat → va_E} {q : Nat} {x : va_E} : gW n ad g ++ [(q, x)] = gW (n + 1) (va_up ad n q) (va_up g n x) := by
  have h : (List.range n).map (fun k => (ad k, g k)) = (List.range n).map (fun k => (va_up ad n q k, va_up g n x k)) := by
    apply List.map_congr_left
    intro k hk
    have hk := List.mem_range.mp hk
    have hne : k ≠ n := by omega
    simp [va_up, hne]
  show (List.range n).map (fun k => (ad k, g k)) ++ [(q, x)] = (List.range (n + 1)).map (fun k => (va_up ad n q k, va_up g n x k))
  rw [h, List.range_succ, List.map_append]
  simp [va_up]
theorem gu_self {α : Type} (g : Nat → α) (k : Nat) (x : α) : va_up g k x k = x := by simp [va_up]
theorem gu_ne {α : Type} {g : Nat → α} {k j : Nat} {x : α} (h : j ≠ k) : va_up g k x j = g j := by simp [va_up, h]
abbrev gKap : Type := va_G × (Nat → ClassId)
def gT (κ : gKap) : List (ClassId × FieldType) := [(κ.2 0, .int), (κ.2 1, .long), (κ.2 2, .char), (κ.2 3, .boolean), (κ.2 4, .object RX3), (κ.2 5, .object RX4)]
def gNs : List (String × Nat × MethodName) := [(RX3, 56, yX7_commonDivisor), (RX3, 38, yX7_quotient), (RX3, 28, yX7_remainder), (RX3, 59, yX7_commonMultiple), (RX0, 55, yX7_commonDivisor), (RX4, 70, yX7_isWheel), (RX4, 74, yX7_isSide), (RX4, 77, yX7_isHole), (RX1, 78, yX7_isRing), (RX1, 87, yX7_isSide), (RX1, 90, yX7_isWheel), (RX1, 93, yX7_isHole)]
/-- what the tables say: the classes, the arrays' classes, the links between nest mates -/
def gK (κ : gKap) (U : State) : Prop := va_K κ.1 vwCl (gT κ) U ∧ ∀ q ∈ gNs, va_Nw (.methodLinkNest q.1 q.2.1 q.2.2 RX7) U
theorem gK.warm {κ : gKap} {s U : State} (hW : s.WarmedH U.vm) (h : gK κ s) : gK κ U := ⟨va_K.moved hW.alike h.1, fun q hq => va_Nw.warmM hW (h.2 q hq)⟩
theorem gK.same {κ : gKap} {s U : State} (hv : s.vm = U.vm) (h : gK κ s) : gK κ U := ⟨va_K.moved (by rw [hv]; exact Vm.Alike.refl _) h.1, fun q hq => va_Nw.same rfl hv (h.2 q hq)⟩
def gD (B n : Nat) (ad : Nat → Nat) : Prop := (∀ i j : Nat, i < n → j < n → ad i = ad j → i = j) ∧ ∀ i : Nat, i < n → B ≤ ad i
theorem gD.to {B n : Nat} {ad : Nat → Nat} (h : gD B n ad) (g : Nat → va_E) : va_D (fun q => B ≤ q) (gW n ad g) := by
  refine ⟨fun i j p q hp hq he => ?_, fun k q hq => ?_⟩
  · obtain ⟨hi, rfl⟩ := gW_of hp
    obtain ⟨hj, rfl⟩ := gW_of hq
    exact h.1 i j hi hj he
  · obtain ⟨hk, rfl⟩ := gW_of hq
    exact h.2 k hk
theorem gD.of {B n : Nat} {ad : Nat → Nat} {g : Nat → va_E} (h : va_D (fun q => B ≤ q) (gW n ad g)) : gD B n ad :=
  ⟨fun i j hi hj he => h.1 i j _ _ (gW_at hi) (gW_at hj) he, fun i hi => h.2 i _ (gW_at hi)⟩
abbrev gP (κ : gKap) (n : Nat) (ad : Nat → Nat) (g : Nat → va_E) (H : Heap) : Prop := va_P κ.1 vwCl (gW n ad g) H
/-- a state as a contract sees it -/
def gS (κ : gKap) (B n : Nat) (ad : Nat → Nat) (g : Nat → va_E) (U : State) : Prop := B ≤ U.heap.size ∧ gP κ n ad g U.heap ∧ gK κ U ∧ gD B n ad
def gPre (κ : gKap) (B n : Nat) (ad : Nat → Nat) (g : Nat → va_E) (As : List Value) : Array Value → State → Prop := va_Pc As (gS κ B n ad g)
theorem gPre.blind {κ : gKap} {B n : Nat} {ad : Nat → Nat} {g : Nat → va_E} {As : List Value} : FrameBlind (gPre κ B n ad g As) := fun _ U _ _ h => ⟨h.1, h.2.1, h.2.2.1, gK.same (s := U) rfl h.2.2.2.1, h.2.2.2.2⟩
def gFree (B : Nat) : Addr → Prop := fun q => B ≤ q
def gQi (κ : gKap) (B n : Nat) (ad : Nat → Nat) (post : Int → (Nat → va_E) → Prop) : Array Value → State → Outcome → State → Prop := va_Qi (S := Nat → va_E) (fun r g => ∃ z : Int, r = iz z ∧ post z g) (fun g t => gP κ n ad g t.heap) (gFree B)
def gQl (κ : gKap) (B n : Nat) (ad : Nat → Nat) (post : Int → (Nat → va_E) → Prop) : Array Value → State → Outcome → State → Prop := va_Ql (S := Nat → va_E) (fun r g => ∃ z : Int, r = jz z ∧ post z g) (fun g t => gP κ n ad g t.heap) (gFree B)
def gQv (κ : gKap) (B n : Nat) (ad : Nat → Nat) (post : (Nat → va_E) → Prop) : Array Value → State → Outcome → State → Prop := va_Qv (S := Nat → va_E) post (fun g t => gP κ n ad g t.heap) (gFree B)
def gQo (κ : gKap) (B n : Nat) (ad : Nat → Nat) (post : Option Nat → (Nat → va_E) → Prop) : Array Value → State → Outcome → State → Prop := va_Qq (S := Nat → va_E) (fun r g => ∃ o : Option Nat, r = o.map ad ∧ post o g) (fun g t => gP κ n ad g t.heap) (gFree B)
/-- what stands still in a method's body -/
def gC (p : Program) (c : Code) (cc : ByteArray) (nL : Nat) (s : State) (m : MethodId) (args : Array Value) (Ts : List Cond) (own : String) (κ : gKap) (B n : Nat) (ad : Nat → Nat) : Prop :=
  CallFix p m c cc nL s args Ts own ∧ gK κ s ∧ gD B n ad ∧ B ≤ s.heap.size
/-- the heap now -/
def gG (κ : gKap) (B n : Nat) (ad : Nat → Nat) (s : State) (g : Nat → va_E) (H : Heap) (locs : List Loc) : Prop := gP κ n ad g H ∧ va_S (gFree B) s.heap H locs
/-! fields -/
def gFld (Ts : List Cond) (own : String) (index ci k : Nat) : Prop := ∃ (C : String) (T : u_T) (N : Nat), vwCl[ci]? = some (C, T, N) ∧ k < N ∧ (∀ w ∈ u_ws C T N, w ∈ Ts) ∧ Cond.fieldLink own index (T k).1 (T k).2.1 (T k).2.2.1 ∈ Ts
def gFldW (Ts : List Cond) (own : String) (index ci k : Nat) (ty : FieldType) (fin : Bool) : Prop := ∃ (C : String) (T : u_T) (N : Nat) (t0 : Nat → FieldType), vwCl[ci]? = some (C, T, N) ∧ k < N ∧ (∀ w ∈ u_ws C T N, w ∈ Ts) ∧ Cond.fieldLink own index (T k).1 (T k).2.1 (T k).2.2.1 ∈ Ts ∧
  (∀ k, k < N → parseFieldDescriptor (T k).2.2.1 = some (t0 k)) ∧ (∀ a, a < N → ∀ b, b < N → a ≠ b → (T a).2.1 ≠ (T b).2.1) ∧ (T k).2.2.2 = fin ∧ parseFieldDescriptor (T k).2.2.1 = some ty ∧ (fin = true → (T k).1 = own)
/-! arrays -/
def vu (v : Int → Int) (z x : Int) : Int → Int := fun i => if i = z then x else v i
abbrev aI (κ : gKap) (len : Nat) (v : Int → Int) : va_E := .inl (κ.2 0, len, .inl (fun k : Nat => iz (v (k : Int))))
abbrev aCh (κ : gKap) (len : Nat) (v : Int → Int) : va_E := .inl (κ.2 2, len, .inl (fun k : Nat => iz (v (k : Int))))
abbrev aZ (κ : gKap) (len : Nat) (v : Int → Int) : va_E := .inl (κ.2 3, len, .inl (fun k : Nat => iz (v (k : Int))))
abbrev aJ (κ : gKap) (len : Nat) (f : Int → Int64) : va_E := .inl (κ.2 1, len, .inr (.inl (fun k : Nat => f (k : Int))))
abbrev aL (κ : gKap) (len : Nat) (f : Nat → Option Nat) : va_E := .inl (κ.2 4, len, .inr (.inr (.inr (.inr f))))
abbrev aPl (κ : gKap) (len : Nat) (f : Nat → Option Nat) : va_E := .inl (κ.2 5, len, .inr (.inr (.inr (.inr f))))
theorem vu_upd {v : Int → Int} {z x : Int} (h0 : 0 ≤ z) (h1 : z ≤ 2147483647) : upd (fun k : Nat => iz (v (k : Int))) (iz z).toNatClampNeg (iz x) = fun k : Nat => iz (vu v z x (k : Int)) := by
  funext k
  rw [iz_clamp h0 h1]
  by_cases hk : k = z.toNat
  · subst hk
    have h2 : ((z.toNat : Nat) : Int) = z := Int.toNat_of_nonneg h0
    simp [upd, vu, h2]
  · have : (k : Int) ≠ z := by omega
    simp [upd, vu, hk, this]
def vuJ (f : Int → Int64) (z : Int) (x : Int64) : Int → Int64 := fun i => if i = z then x else f i
theorem vuJ_upd {f : Int → Int64} {z : Int} {x : Int64} (h0 : 0 ≤ z) (h1 : z ≤ 2147483647) : vp_updL (fun k : Nat => f (k : Int)) (iz z).toNatClampNeg x = fun k : Nat => vuJ f z x (k : Int) := by
  funext k
  rw [iz_clamp h0 h1]
  by_cases hk : k = z.toNat
  · subst hk
    have h2 : ((z.toNat : Nat) : Int) = z := Int.toNat_of_nonneg h0
    simp [vp_updL, vuJ, h2]
  · have : (k : Int) ≠ z := by omega
    simp [vp_updL, vuJ, hk, this]
theorem gnar_char {x : Int} (h0 : 0 ≤ x) (h1 : x ≤ 65535) : vp_nar .char (iz x) = iz x := by
  obtain ⟨n, rfl⟩ := Int.eq_ofNat_of_zero_le h0
  show ((iz n).toUInt32 % 65536).toInt32 = iz n
  have h2 : (iz n).toUInt32 = UInt32.ofNat n := rfl
  have h3 : (iz n) = (UInt32.ofNat n).toInt32 := rfl
  rw [h2, h3]
  congr 1
  apply UInt32.toNat_inj.mp
  have h4 : (UInt32.ofNat n).toNat = n := UInt32.toNat_ofNat_of_lt (by show n < 4294967296; omega)
  rw [UInt32.toNat_mod, h4]
  show n % 65536 = n
  omega
theorem gnar_bool {x : Int} (h : x = 0 ∨ x = 1) : vp_nar .boolean (iz x) = iz x := by
  rcases h with rfl | rfl <;> rfl
