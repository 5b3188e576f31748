/-! TEXTREADER (X6) -/
theorem g_look {p : Program} {l : Launch} {e : Env} {R : Room} {s : State} {m : MethodId} {args : Array Value} {below : List Frame} {meth : Method} {c : Code} {H : Heap} {locs : List Loc} {cells slots : Nat} {Q : State → Prop} {cc : ByteArray} {nL pc : Nat} {ls : Array Slot} {rest : List Value} {Ts : List Cond} {own : String} {κ : gKap} {B n : Nat} {ad : Nat → Nat} (C : gC p c cc nL s m args Ts own κ B n ad) {dflt a off : Int} {ps : Array (Int × Int)} {len tgt : Nat} (ha : inI a) (d : decode cc pc = .ok (.lookupswitch dflt ps, len)) (hp : (ps.toList.zip (ps.toList.drop 1)).all (fun (a, next) => a.1 < next.1) = true) (ho : Op.lookupswitch.offset ps.toList dflt a = off) (ht : (pc : Int) + off = (tgt : Int)) (k : W p l e R s m args below meth c H locs cells slots Q (F0 m tgt ls rest)) : W p l e R s m args below meth c H locs cells slots Q (F0 m pc ls (.int (iz a) :: rest)) :=
  lv_lookup C.1.1 C.1.2.1 d hp (by rw [iz_toInt ha]; exact ho) ht k
theorem rdS_on {T9 : Int → Int} {L9 k q nl : Int} {v : Int → Int} (hk : 0 ≤ k ∧ k < 100) (hq : q < L9) (h : (rpS T9 L9 q nl v).1 = true) : rdS T9 L9 (100 - k).toNat q nl v = rdS T9 L9 (100 - (k + 1)).toNat (rpS T9 L9 q nl v).2.1 (rpS T9 L9 q nl v).2.2.1 (rpS T9 L9 q nl v).2.2.2 := by
  have h1 : (100 - k).toNat = (100 - (k + 1)).toNat + 1 := by omega
  rw [h1]
  exact (if_pos hq).trans (if_pos h)
theorem rdS_bad {T9 : Int → Int} {L9 k q nl : Int} {v : Int → Int} (hk : 0 ≤ k ∧ k < 100) (hq : q < L9) (h : ¬ (rpS T9 L9 q nl v).1 = true) : rdS T9 L9 (100 - k).toNat q nl v = ((rpS T9 L9 q nl v).2.1, (rpS T9 L9 q nl v).2.2.1, (rpS T9 L9 q nl v).2.2.2) := by
  have h1 : (100 - k).toNat = (100 - (k + 1)).toNat + 1 := by omega
  rw [h1]
  exact (if_pos hq).trans (if_neg h)
theorem rdS_end {T9 : Int → Int} {L9 k q nl : Int} {v : Int → Int} (h : k ≥ 100 ∨ q ≥ L9) : rdS T9 L9 (100 - k).toNat q nl v = (-9, nl, v) := by
  by_cases hk : k ≥ 100
  · have h1 : (100 - k).toNat = 0 := by omega
    rw [h1]
    rfl
  · have h1 : (100 - k).toNat = (100 - (k + 1)).toNat + 1 := by omega
    rw [h1]
    exact if_neg (by omega)
theorem fX6_next_23 : gFld wsX6_next RX6 23 6 2 := ⟨RX6, TX6, 3, rfl, by decide, by decide +kernel, by decide +kernel⟩
theorem fX6_next_15 : gFld wsX6_next RX6 15 6 1 := ⟨RX6, TX6, 3, rfl, by decide, by decide +kernel, by decide +kernel⟩
theorem fX6_next_9 : gFld wsX6_next RX6 9 6 0 := ⟨RX6, TX6, 3, rfl, by decide, by decide +kernel, by decide +kernel⟩
set_option maxHeartbeats 4000000 in
set_option maxRecDepth 100000 in
theorem c_X6_next (l : Launch) (κ : gKap) (B n : Nat) (ad : Nat → Nat) (g : Nat → va_E) (tr : Nat) (tx : Nat) (T9 : Int → Int) (L9 : Int) (q : Int) (htr : tr < n) (htx : tx < n) (hne : tx ≠ tr) (hrd : g tr = .inr (6, [.ref (ad tx), .int (iz L9), .int (iz q)])) (htt : g tx = aCh κ 100 T9) (hq : 0 ≤ q ∧ q ≤ L9) (hL : L9 ≤ 100) (hT : ∀ i, 0 ≤ i → i < 100 → 0 ≤ T9 i ∧ T9 i ≤ 255) : Met l yX6_next wsX6_next ({ frames := 0, cells := 0, slots := 0, locals := 0 }) (gPre κ B n ad g [.ref (ad tr)]) (gQi κ B n ad (fun z g' => g' = g ∧ ((q < L9 ∧ z = T9 q) ∨ (L9 ≤ q ∧ z = -9)))) 0 0 (gFree B) := by
  refine g_met RX6 (cc := cX6_next) (maxL := 1) (ret := (some .int)) (by decide) rfl rfl (Nat.le_of_ble_eq_true rfl) ?_
  intro p e s m args below meth c C hr hlk hnm G ls hl
  have hl : lv_has ls 1 [(0, .ref (ad tr))] := hl
  refine g_aload_n C dX6_next_0 rfl hl 0 rfl ?_
  refine g_get C G (pos := tr) fX6_next_23 (by omega) hrd rfl dX6_next_1 ?_
  refine g_if_lt (tgt := 42) C (by omega) dX6_next_4 (by decide) (fun c_1 => ?_) (fun c_1 => ?_)
  · refine g_bipush (a := (-9)) C dX6_next_42 (by decide) ?_
    refine g_iret C G hr hlk (Nat.le_of_ble_eq_true rfl) (Nat.le_of_ble_eq_true rfl) dX6_next_44 ?_
    exact ⟨rfl, Or.inr ⟨by omega, rfl⟩⟩
  · refine g_aload_n C dX6_next_7 rfl hl 0 rfl ?_
    refine g_get C G (pos := tr) fX6_next_23 (by omega) hrd rfl dX6_next_8 ?_
    refine g_aload_n C dX6_next_11 rfl hl 0 rfl ?_
    refine g_get C G (pos := tr) fX6_next_15 (by omega) hrd rfl dX6_next_12 ?_
    refine g_icmp_ge (tgt := 42) C (by omega) (by omega) dX6_next_15 (by decide) (fun c_2 => ?_) (fun c_2 => ?_)
    · refine g_bipush (a := (-9)) C dX6_next_42 (by decide) ?_
      refine g_iret C G hr hlk (Nat.le_of_ble_eq_true rfl) (Nat.le_of_ble_eq_true rfl) dX6_next_44 ?_
      exact ⟨rfl, Or.inr ⟨by omega, rfl⟩⟩
    · refine g_aload_n C dX6_next_18 rfl hl 0 rfl ?_
      refine g_get C G (pos := tr) fX6_next_23 (by omega) hrd rfl dX6_next_19 ?_
      refine g_aload_n C dX6_next_22 rfl hl 0 rfl ?_
      refine g_get C G (pos := tr) fX6_next_9 (by omega) hrd rfl dX6_next_23 ?_
      refine g_alenCh C G (pos := tx) (by omega) htt dX6_next_26 ?_
      show W p l e _ s m args below meth c _ _ _ _ _ (F0 m _ ls (.int (iz 100) :: _))
      refine g_icmp_ge (tgt := 42) C (by omega) (by decide) dX6_next_27 (by decide) (fun c_3 => ?_) (fun c_3 => ?_)
      · refine g_bipush (a := (-9)) C dX6_next_42 (by decide) ?_
        refine g_iret C G hr hlk (Nat.le_of_ble_eq_true rfl) (Nat.le_of_ble_eq_true rfl) dX6_next_44 ?_
        exact ⟨rfl, Or.inr ⟨by omega, rfl⟩⟩
      · refine g_aload_n C dX6_next_30 rfl hl 0 rfl ?_
        refine g_get C G (pos := tr) fX6_next_9 (by omega) hrd rfl dX6_next_31 ?_
        refine g_aload_n C dX6_next_34 rfl hl 0 rfl ?_
        refine g_get C G (pos := tr) fX6_next_23 (by omega) hrd rfl dX6_next_35 ?_
        refine g_caload C G (pos := tx) (by omega) htt (by omega) (by omega) (by omega) dX6_next_38 ?_
        refine g_goto (tgt := 44) C dX6_next_39 (by decide) ?_
        refine g_iret C G hr hlk (Nat.le_of_ble_eq_true rfl) (Nat.le_of_ble_eq_true rfl) dX6_next_44 ?_
        exact ⟨rfl, Or.inl ⟨by omega, rfl⟩⟩
theorem fX6_readNumber_23 : gFld wsX6_readNumber RX6 23 6 2 := ⟨RX6, TX6, 3, rfl, by decide, by decide +kernel, by decide +kernel⟩
theorem fwX6_readNumber_23 : gFldW wsX6_readNumber RX6 23 6 2 .int false := ⟨RX6, TX6, 3, tyX6, rfl, by decide, by decide +kernel, by decide +kernel, tyX6_ok, nmX6, rfl, by decide +kernel, by decide +kernel⟩
set_option maxHeartbeats 4000000 in
set_option maxRecDepth 100000 in
theorem c_X6_readNumber (l : Launch) (κ : gKap) (B n : Nat) (ad : Nat → Nat) (g : Nat → va_E) (tr : Nat) (tx : Nat) (T9 : Int → Int) (L9 : Int) (q : Int) (dg : Int) (lo : Int) (hi : Int) (htr : tr < n) (htx : tx < n) (hne : tx ≠ tr) (hrd : g tr = .inr (6, [.ref (ad tx), .int (iz L9), .int (iz q)])) (htt : g tx = aCh κ 100 T9) (hq : 0 ≤ q ∧ q ≤ L9) (hL : L9 ≤ 100) (hT : ∀ i, 0 ≤ i → i < 100 → 0 ≤ T9 i ∧ T9 i ≤ 255) (hdg : dg = 2 ∨ dg = 3) (hlo : 0 ≤ lo ∧ lo ≤ hi ∧ hi ≤ 300) : Met l yX6_readNumber wsX6_readNumber ({ frames := 1, cells := 0, slots := 0, locals := 20 }) (gPre κ B n ad g [.ref (ad tr), .int (iz dg), .int (iz lo), .int (iz hi)]) (gQi κ B n ad (fun z g' => g' = va_up g tr (.inr (6, [.ref (ad tx), .int (iz L9), .int (iz ((rd T9 L9 lo hi dg q).2))])) ∧ z = (rd T9 L9 lo hi dg q).1 ∧ (z = -1 ∨ (lo ≤ z ∧ z ≤ hi)) ∧ (q ≤ (rd T9 L9 lo hi dg q).2 ∧ (rd T9 L9 lo hi dg q).2 ≤ L9))) 0 0 (gFree B) := by
  refine g_met RX6 (cc := cX6_readNumber) (maxL := 8) (ret := (some .int)) (by decide) rfl rfl (Nat.le_of_ble_eq_true rfl) ?_
  intro p e s m args below meth c C hr hlk hnm G ls hl
  have hl : lv_has ls 8 [(0, .ref (ad tr)), (1, .int (iz dg)), (2, .int (iz lo)), (3, .int (iz hi))] := hl
  refine g_iconst (a := 0) C dX6_readNumber_0 rfl ?_
  refine lv_istore (lv' := [(4, .int (iz 0)), (0, .ref (ad tr)), (1, .int (iz dg)), (2, .int (iz lo)), (3, .int (iz hi))]) C.1.1 C.1.2.1 dX6_readNumber_1 hl (by decide) rfl (fun ls hl => ?_)
  refine g_iconst (a := 1) C dX6_readNumber_3 rfl ?_
  refine lv_istore (lv' := [(5, .int (iz 1)), (4, .int (iz 0)), (0, .ref (ad tr)), (1, .int (iz dg)), (2, .int (iz lo)), (3, .int (iz hi))]) C.1.1 C.1.2.1 dX6_readNumber_4 hl (by decide) rfl (fun ls hl => ?_)
  refine g_iconst (a := 0) C dX6_readNumber_6 rfl ?_
  refine lv_istore (lv' := [(6, .int (iz 0)), (5, .int (iz 1)), (4, .int (iz 0)), (0, .ref (ad tr)), (1, .int (iz dg)), (2, .int (iz lo)), (3, .int (iz hi))]) C.1.1 C.1.2.1 dX6_readNumber_7 hl (by decide) rfl (fun ls hl => ?_)
  have lp_9_n_2 : ∀ (k_1 : Nat) (u : Int) (i : Int), (dg - i).toNat < k_1 → (0 ≤ i) → (i ≤ dg) → ((i = 0 ∧ u = 1) ∨ (i = 1 ∧ u = 10) ∨ (i = 2 ∧ u = 100) ∨ (i = 3 ∧ u = 1000)) → ∀ (H : Heap) (locs : List Loc), gG κ B n ad s g H locs → ∀ (ls : Array Slot), lv_has ls 8 [(0, .ref (ad tr)), (1, .int (iz dg)), (2, .int (iz lo)), (3, .int (iz hi)), (4, .int (iz 0)), (5, .int (iz u)), (6, .int (iz i))] → W p l e ({ frames := 1, cells := 0, slots := 0, locals := 20 }) s m args below meth c H locs 0 0 (MQ below (gQi κ B n ad (fun z g' => g' = va_up g tr (.inr (6, [.ref (ad tx), .int (iz L9), .int (iz ((rd T9 L9 lo hi dg q).2))])) ∧ z = (rd T9 L9 lo hi dg q).1 ∧ (z = -1 ∨ (lo ≤ z ∧ z ≤ hi)) ∧ (q ≤ (rd T9 L9 lo hi dg q).2 ∧ (rd T9 L9 lo hi dg q).2 ≤ L9))) args s 0 0 (gFree B)) (F0 m 9 ls []) := by
    intro k_1
    induction k_1 with
    | zero => intro u i hm; exact absurd hm (Nat.not_lt_zero _)
    | succ k_1 ih_lp_9_n_2 =>
      intro u i hm hi0 hi1 hu H locs G ls hl
      refine g_iload C dX6_readNumber_9 hl 6 rfl ?_
      refine g_iload_n C dX6_readNumber_11 rfl hl 1 rfl ?_
      refine g_icmp_ge (tgt := 28) C (by omega) (by omega) dX6_readNumber_12 (by decide) (fun c_3 => ?_) (fun c_3 => ?_)
      · refine g_iconst (a := 0) C dX6_readNumber_28 rfl ?_
        refine lv_istore (lv' := [(6, .int (iz 0)), (0, .ref (ad tr)), (1, .int (iz dg)), (2, .int (iz lo)), (3, .int (iz hi)), (4, .int (iz 0)), (5, .int (iz u))]) C.1.1 C.1.2.1 dX6_readNumber_29 hl (by decide) rfl (fun ls hl => ?_)
        have lp_31_n_5 : ∀ (k_4 : Nat) (fr : Int) (un : Int) (k : Int) (p9 : Int) (gv : Nat → va_E), (dg - k).toNat < k_4 → (0 ≤ k) → (k ≤ dg) → ((dg - k = 0 ∧ un = 1) ∨ (dg - k = 1 ∧ un = 10) ∨ (dg - k = 2 ∧ un = 100) ∨ (dg - k = 3 ∧ un = 1000)) → (0 ≤ fr ∧ fr ≤ 300) → (q ≤ p9 ∧ p9 ≤ L9) → (gv = va_up g tr (.inr (6, [.ref (ad tx), .int (iz L9), .int (iz p9)]))) → (rdN T9 L9 lo hi (dg - k).toNat fr un p9 = rd T9 L9 lo hi dg q) → (dg - k = 0 → lo ≤ fr ∧ fr ≤ hi) → ∀ (H : Heap) (locs : List Loc), gG κ B n ad s gv H locs → ∀ (ls : Array Slot), lv_has ls 8 [(0, .ref (ad tr)), (1, .int (iz dg)), (2, .int (iz lo)), (3, .int (iz hi)), (4, .int (iz fr)), (5, .int (iz un)), (6, .int (iz k))] → W p l e ({ frames := 1, cells := 0, slots := 0, locals := 20 }) s m args below meth c H locs 0 0 (MQ below (gQi κ B n ad (fun z g' => g' = va_up g tr (.inr (6, [.ref (ad tx), .int (iz L9), .int (iz ((rd T9 L9 lo hi dg q).2))])) ∧ z = (rd T9 L9 lo hi dg q).1 ∧ (z = -1 ∨ (lo ≤ z ∧ z ≤ hi)) ∧ (q ≤ (rd T9 L9 lo hi dg q).2 ∧ (rd T9 L9 lo hi dg q).2 ≤ L9))) args s 0 0 (gFree B)) (F0 m 31 ls []) := by
          intro k_4
          induction k_4 with
          | zero => intro fr un k p9 gv hm; exact absurd hm (Nat.not_lt_zero _)
          | succ k_4 ih_lp_31_n_5 =>
            intro fr un k p9 gv hm hk0 hk1 hun hfr hp0 hgv hR hfv H locs G ls hl
            have hr9 : gv tr = .inr (6, [.ref (ad tx), .int (iz L9), .int (iz p9)]) := by rw [hgv]; exact gu_self _ _ _
            have ht9 : gv tx = aCh κ 100 T9 := by rw [hgv, gu_ne hne]; exact htt
            refine g_iload C dX6_readNumber_31 hl 6 rfl ?_
            refine g_iload_n C dX6_readNumber_33 rfl hl 1 rfl ?_
            refine g_icmp_ge (tgt := 112) C (by omega) (by omega) dX6_readNumber_34 (by decide) (fun c_6 => ?_) (fun c_6 => ?_)
            · refine g_iload C dX6_readNumber_112 hl 4 rfl ?_
              refine g_iret C G hr hlk (Nat.le_of_ble_eq_true rfl) (Nat.le_of_ble_eq_true rfl) dX6_readNumber_114 ?_
              have hn9 : rd T9 L9 lo hi dg q = (fr, p9) := by rw [← hR, show dg - k = 0 by omega]; rfl
              exact ⟨by rw [hgv, hn9], by rw [hn9], by omega, by rw [hn9]; dsimp only; omega⟩
            · refine g_aload_n C dX6_readNumber_37 rfl hl 0 rfl ?_
              refine g_ci C G (g_runV (As := []) (rest := []) (pos := tr) C G (c_X6_next l κ B n ad gv tr tx T9 L9 p9 (by omega) (by omega) (by omega) hr9 ht9 (by omega) hL hT) (cwV 0 C.1.2.2.2.2 gX6_readNumber_X6_next rfl rfl rfl (by decide +kernel) ⟨Nat.le_of_ble_eq_true rfl, Nat.le_of_ble_eq_true rfl⟩) (by omega) hr9 (T := TX6) (N := 3) rfl rfl hl rfl (Nat.le_of_ble_eq_true rfl) dX6_readNumber_38 ⟨Nat.le_of_ble_eq_true rfl, Nat.le_of_ble_eq_true rfl⟩) (fun z_7 g9 H locs hw G => ?_)
              obtain ⟨hg9, h_8⟩ := hw
              replace hg9 := hg9.symm
              subst hg9
              have hTb : -9 ≤ z_7 ∧ z_7 ≤ 255 := by
                rcases h_8 with ⟨c8, c9⟩ | ⟨c8, c9⟩
                · have := hT p9 (by omega) (by omega)
                  omega
                · omega
              refine g_bipush (a := 48) C dX6_readNumber_41 (by decide) ?_
              refine g_isub C dX6_readNumber_43 ?_
              refine lv_istore (lv' := [(7, .int (iz (z_7 - 48))), (0, .ref (ad tr)), (1, .int (iz dg)), (2, .int (iz lo)), (3, .int (iz hi)), (4, .int (iz fr)), (5, .int (iz un)), (6, .int (iz k))]) C.1.1 C.1.2.1 dX6_readNumber_44 hl (by decide) rfl (fun ls hl => ?_)
              refine g_iload C dX6_readNumber_46 hl 0 rfl ?_
              refine g_if_lt (tgt := 58) C (by omega) dX6_readNumber_48 (by decide) (fun c_9 => ?_) (fun c_9 => ?_)
              · refine g_iconst (a := (-1)) C dX6_readNumber_58 rfl ?_
                refine g_iret C G hr hlk (Nat.le_of_ble_eq_true rfl) (Nat.le_of_ble_eq_true rfl) dX6_readNumber_59 ?_
                have hn9 := rdN_no (T9 := T9) (L9 := L9) (lo := lo) (hi := hi) (fr := fr) (u := un) (q := p9) (k := dg - k) (by omega) (fun c9 => by omega)
                rw [hR] at hn9
                exact ⟨by rw [hgv, hn9], by rw [hn9], by omega, by rw [hn9]; dsimp only; omega⟩
              · refine g_iload C dX6_readNumber_51 hl 0 rfl ?_
                refine g_bipush (a := 9) C dX6_readNumber_53 (by decide) ?_
                refine g_icmp_le (tgt := 60) C (by omega) (by decide) dX6_readNumber_55 (by decide) (fun c_10 => ?_) (fun c_10 => ?_)
                · have ez_11 : z_7 = T9 p9 := by omega
                  refine g_iload C dX6_readNumber_60 hl 6 rfl ?_
                  refine g_bipush (a := 10) C dX6_readNumber_62 (by decide) ?_
                  refine g_idiv C (by omega) (by decide) (by decide) dX6_readNumber_64 ?_
                  rw [show (Int.tdiv un 10 : Int) = un / 10 from (tdiv_pos (by omega))]
                  refine lv_istore (lv' := [(5, .int (iz (un / 10))), (7, .int (iz (z_7 - 48))), (0, .ref (ad tr)), (1, .int (iz dg)), (2, .int (iz lo)), (3, .int (iz hi)), (4, .int (iz fr)), (6, .int (iz k))]) C.1.1 C.1.2.1 dX6_readNumber_65 hl (by decide) rfl (fun ls hl => ?_)
                  refine g_iload C dX6_readNumber_67 hl 6 rfl ?_
                  refine g_iload C dX6_readNumber_69 hl 1 rfl ?_
                  refine g_iload C dX6_readNumber_71 hl 0 rfl ?_
                  have hmr := mul_r (a := z_7 - 48) (b := un / 10) (x := 9) (y := 100) (by omega) (by omega) (by omega) (by omega)
                  refine g_imul C dX6_readNumber_73 ?_
                  refine g_iadd C dX6_readNumber_74 ?_
                  refine lv_istore (lv' := [(4, .int (iz (fr + ((z_7 - 48) * (un / 10))))), (5, .int (iz (un / 10))), (7, .int (iz (z_7 - 48))), (0, .ref (ad tr)), (1, .int (iz dg)), (2, .int (iz lo)), (3, .int (iz hi)), (6, .int (iz k))]) C.1.1 C.1.2.1 dX6_readNumber_75 hl (by decide) rfl (fun ls hl => ?_)
                  refine g_iload C dX6_readNumber_77 hl 0 rfl ?_
                  refine g_iload_n C dX6_readNumber_79 rfl hl 6 rfl ?_
                  refine g_icmp_gt (tgt := 94) C (by omega) (by omega) dX6_readNumber_80 (by decide) (fun c_12 => ?_) (fun c_12 => ?_)
                  · refine g_iconst (a := (-1)) C dX6_readNumber_94 rfl ?_
                    refine g_iret C G hr hlk (Nat.le_of_ble_eq_true rfl) (Nat.le_of_ble_eq_true rfl) dX6_readNumber_95 ?_
                    have hn9 := rdN_no (T9 := T9) (L9 := L9) (lo := lo) (hi := hi) (fr := fr) (u := un) (q := p9) (k := dg - k) (by omega) (fun c9 => by have c8 := c9.2.2.2; rw [← ez_11] at c8; omega)
                    rw [hR] at hn9
                    exact ⟨by rw [hgv, hn9], by rw [hn9], by omega, by rw [hn9]; dsimp only; omega⟩
                  · refine g_iload C dX6_readNumber_83 hl 0 rfl ?_
                    refine g_iload C dX6_readNumber_85 hl 1 rfl ?_
                    refine g_iadd C dX6_readNumber_87 ?_
                    refine g_iconst (a := 1) C dX6_readNumber_88 rfl ?_
                    refine g_isub C dX6_readNumber_89 ?_
                    refine g_iload_n C dX6_readNumber_90 rfl hl 5 rfl ?_
                    refine g_icmp_ge (tgt := 96) C (by omega) (by omega) dX6_readNumber_91 (by decide) (fun c_13 => ?_) (fun c_13 => ?_)
                    · refine g_aload_n C dX6_readNumber_96 rfl hl 3 rfl ?_
                      refine lv_dup C.1.1 C.1.2.1 dX6_readNumber_97 rfl ?_
                      refine g_get C G (pos := tr) fX6_readNumber_23 (by omega) hr9 rfl dX6_readNumber_98 ?_
                      refine g_iconst (a := 1) C dX6_readNumber_101 rfl ?_
                      refine g_iadd C dX6_readNumber_102 ?_
                      refine g_put C G (pos := tr) (fs' := [.ref (ad tx), .int (iz L9), .int (iz (p9 + 1))]) fwX6_readNumber_23 (by omega) hr9 (Nat.le_of_ble_eq_true rfl) rfl rfl rfl dX6_readNumber_103 (fun H locs G => ?_)
                      obtain ⟨g_14, hg_15⟩ : ∃ g9, g9 = va_up gv tr (.inr (6, [.ref (ad tx), .int (iz L9), .int (iz (p9 + 1))])) := ⟨_, rfl⟩
                      rw [← hg_15] at G
                      have hc_16 : g_14 tr = .inr (6, [.ref (ad tx), .int (iz L9), .int (iz (p9 + 1))]) := by rw [hg_15]; exact gu_self _ _ _
                      have hc_17 : g_14 tx = aCh κ 100 T9 := by rw [hg_15, gu_ne (by omega)]; exact ht9
                      refine lv_iinc (v := iz (k + 1)) (lv' := [(6, .int (iz (k + 1))), (4, .int (iz (fr + ((z_7 - 48) * (un / 10))))), (5, .int (iz (un / 10))), (7, .int (iz (z_7 - 48))), (0, .ref (ad tr)), (1, .int (iz dg)), (2, .int (iz lo)), (3, .int (iz hi))]) C.1.1 C.1.2.1 dX6_readNumber_106 hl (k := 7) rfl (g_inc (by omega)) (by decide) rfl (fun ls hl => ?_)
                      refine g_goto (tgt := 31) C dX6_readNumber_109 (by decide) ?_
                      exact ih_lp_31_n_5 (fr + ((z_7 - 48) * (un / 10))) (un / 10) (k + 1) (p9 + 1) g_14 (by omega) (by omega) (by omega) (by omega) (by omega) (by omega) (by rw [hg_15, hgv, gu_up]) (by rw [show dg - (k + 1) = dg - k - 1 by omega, ez_11, ← rdN_yes (by omega) ⟨by omega, by omega, by omega, by rw [← ez_11]; omega, by rw [← ez_11]; omega⟩]; exact hR) (fun z => by omega) _ _ G _ (lv_sub hl [4, 5, 6, 7, 1, 2, 0] rfl)
                    · refine g_iconst (a := (-1)) C dX6_readNumber_94 rfl ?_
                      refine g_iret C G hr hlk (Nat.le_of_ble_eq_true rfl) (Nat.le_of_ble_eq_true rfl) dX6_readNumber_95 ?_
                      have hn9 := rdN_no (T9 := T9) (L9 := L9) (lo := lo) (hi := hi) (fr := fr) (u := un) (q := p9) (k := dg - k) (by omega) (fun c9 => by have c8 := c9.2.2.2; rw [← ez_11] at c8; omega)
                      rw [hR] at hn9
                      exact ⟨by rw [hgv, hn9], by rw [hn9], by omega, by rw [hn9]; dsimp only; omega⟩
                · refine g_iconst (a := (-1)) C dX6_readNumber_58 rfl ?_
                  refine g_iret C G hr hlk (Nat.le_of_ble_eq_true rfl) (Nat.le_of_ble_eq_true rfl) dX6_readNumber_59 ?_
                  have hn9 := rdN_no (T9 := T9) (L9 := L9) (lo := lo) (hi := hi) (fr := fr) (u := un) (q := p9) (k := dg - k) (by omega) (fun c9 => by omega)
                  rw [hR] at hn9
                  exact ⟨by rw [hgv, hn9], by rw [hn9], by omega, by rw [hn9]; dsimp only; omega⟩
        exact lp_31_n_5 _ 0 u 0 q g (Nat.lt_succ_self _) (by omega) (by omega) (by omega) (by omega) (by omega) (by funext x; by_cases hx : x = tr <;> simp [va_up, hx, hrd]) (rd_start (i := i) (u := u) hdg (by omega) hu) (fun z => by omega) _ _ G _ (lv_sub hl [1, 2, 3, 4, 5, 6, 0] rfl)
      · refine g_iload C dX6_readNumber_15 hl 5 rfl ?_
        refine g_bipush (a := 10) C dX6_readNumber_17 (by decide) ?_
        refine g_imul C dX6_readNumber_19 ?_
        refine lv_istore (lv' := [(5, .int (iz (u * 10))), (0, .ref (ad tr)), (1, .int (iz dg)), (2, .int (iz lo)), (3, .int (iz hi)), (4, .int (iz 0)), (6, .int (iz i))]) C.1.1 C.1.2.1 dX6_readNumber_20 hl (by decide) rfl (fun ls hl => ?_)
        refine lv_iinc (v := iz (i + 1)) (lv' := [(6, .int (iz (i + 1))), (5, .int (iz (u * 10))), (0, .ref (ad tr)), (1, .int (iz dg)), (2, .int (iz lo)), (3, .int (iz hi)), (4, .int (iz 0))]) C.1.1 C.1.2.1 dX6_readNumber_22 hl (k := 6) rfl (g_inc (by omega)) (by decide) rfl (fun ls hl => ?_)
        refine g_goto (tgt := 9) C dX6_readNumber_25 (by decide) ?_
        exact ih_lp_9_n_2 (u * 10) (i + 1) (by omega) (by omega) (by omega) (by omega) _ _ G _ (lv_sub hl [2, 3, 4, 5, 6, 1, 0] rfl)
  exact lp_9_n_2 _ 1 0 (Nat.lt_succ_self _) (by omega) (by omega) (by omega) _ _ G _ (lv_sub hl [3, 4, 5, 6, 2, 1, 0] rfl)
theorem fX6_readRing_23 : gFld wsX6_readRing RX6 23 6 2 := ⟨RX6, TX6, 3, rfl, by decide, by decide +kernel, by decide +kernel⟩
theorem fwX6_readRing_23 : gFldW wsX6_readRing RX6 23 6 2 .int false := ⟨RX6, TX6, 3, tyX6, rfl, by decide, by decide +kernel, by decide +kernel, tyX6_ok, nmX6, rfl, by decide +kernel, by decide +kernel⟩
set_option maxHeartbeats 4000000 in
set_option maxRecDepth 100000 in
theorem c_X6_readRing (l : Launch) (κ : gKap) (B n : Nat) (ad : Nat → Nat) (g : Nat → va_E) (tr : Nat) (tx : Nat) (T9 : Int → Int) (L9 : Int) (po : Nat) (nl : Int) (v : Int → Int) (htr : tr < n) (htx : tx < n) (hne : tx ≠ tr) (hrd : g tr = .inr (6, [.ref (ad tx), .int (iz L9), .int (iz 0)])) (htt : g tx = aCh κ 100 T9) (hL : L9 ≤ 100) (hT : ∀ i, 0 ≤ i → i < 100 → 0 ≤ T9 i ∧ T9 i ≤ 255) (hL0 : 0 ≤ L9) (hpn : po + 10 ≤ n) (hpl : isPl κ ad g po nl v) (hdt : tr < po ∨ po + 10 ≤ tr) (hdx : tx < po ∨ po + 10 ≤ tx) : Met l yX6_readRing wsX6_readRing ({ frames := 2, cells := 0, slots := 0, locals := 47 }) (gPre κ B n ad g [.ref (ad tr), .ref (ad po)]) (gQi κ B n ad (fun z g' => z = (if (rgS T9 L9 nl v).1 = true then 1 else 0) ∧ g' tr = .inr (6, [.ref (ad tx), .int (iz L9), .int (iz ((rgS T9 L9 nl v).2.1))]) ∧ isPl κ ad g' po (rgS T9 L9 nl v).2.2.1 (rgS T9 L9 nl v).2.2.2 ∧ ∀ x, x ≠ tr → (x < po ∨ po + 10 ≤ x) → g' x = g x)) 0 0 (gFree B) := by
  refine g_met RX6 (cc := cX6_readRing) (maxL := 3) (ret := (some .boolean)) (by decide) rfl rfl (Nat.le_of_ble_eq_true rfl) ?_
  intro p e s m args below meth c C hr hlk hnm G ls hl
  have hl : lv_has ls 3 [(0, .ref (ad tr)), (1, .ref (ad po))] := hl
  refine g_aload_n C dX6_readRing_0 rfl hl 0 rfl ?_
  refine g_ci C G (g_runV (As := []) (rest := []) (pos := tr) C G (c_X6_next l κ B n ad g tr tx T9 L9 0 (by omega) (by omega) (by omega) hrd htt (by omega) hL hT) (cwV 0 C.1.2.2.2.2 gX6_readRing_X6_next rfl rfl rfl (by decide +kernel) ⟨Nat.le_of_ble_eq_true rfl, Nat.le_of_ble_eq_true rfl⟩) (by omega) hrd (T := TX6) (N := 3) rfl rfl hl rfl (Nat.le_of_ble_eq_true rfl) dX6_readRing_1 ⟨Nat.le_of_ble_eq_true rfl, Nat.le_of_ble_eq_true rfl⟩) (fun z_1 g9 H locs hw G => ?_)
  obtain ⟨hg9, h_2⟩ := hw
  replace hg9 := hg9.symm
  subst hg9
  have hTb : -9 ≤ z_1 ∧ z_1 ≤ 255 := by
    rcases h_2 with ⟨c8, c9⟩ | ⟨c8, c9⟩
    · have := hT 0 (by omega) (by omega)
      omega
    · omega
  refine g_bipush (a := 69) C dX6_readRing_4 (by decide) ?_
  refine g_icmp_eq (tgt := 11) C (by omega) (by decide) dX6_readRing_6 (by decide) (fun c_3 => ?_) (fun c_3 => ?_)
  · refine g_aload_n C dX6_readRing_11 rfl hl 0 rfl ?_
    refine lv_dup C.1.1 C.1.2.1 dX6_readRing_12 rfl ?_
    refine g_get C G (pos := tr) fX6_readRing_23 (by omega) hrd rfl dX6_readRing_13 ?_
    refine g_iconst (a := 1) C dX6_readRing_16 rfl ?_
    refine g_iadd C dX6_readRing_17 ?_
    rw [show (0 + 1 : Int) = 1 from (by decide)]
    refine g_put C G (pos := tr) (fs' := [.ref (ad tx), .int (iz L9), .int (iz 1)]) fwX6_readRing_23 (by omega) hrd (Nat.le_of_ble_eq_true rfl) rfl rfl rfl dX6_readRing_18 (fun H locs G => ?_)
    obtain ⟨g_4, hg_5⟩ : ∃ g9, g9 = va_up g tr (.inr (6, [.ref (ad tx), .int (iz L9), .int (iz 1)])) := ⟨_, rfl⟩
    rw [← hg_5] at G
    have hc_6 : g_4 tr = .inr (6, [.ref (ad tx), .int (iz L9), .int (iz 1)]) := by rw [hg_5]; exact gu_self _ _ _
    have hc_7 : g_4 tx = aCh κ 100 T9 := by rw [hg_5, gu_ne (by omega)]; exact htt
    have hpl_8 : isPl κ ad g_4 po nl v := by rw [hg_5]; exact hpl.out (by omega)
    refine g_aload_n C dX6_readRing_21 rfl hl 0 rfl ?_
    refine g_iconst (a := 2) C dX6_readRing_22 rfl ?_
    refine g_bipush (a := 12) C dX6_readRing_23 (by decide) ?_
    refine g_bipush (a := 96) C dX6_readRing_25 (by decide) ?_
    refine g_ci C G (g_runV (As := [.int (iz 2), .int (iz 12), .int (iz 96)]) (rest := []) (pos := tr) C G (c_X6_readNumber l κ B n ad g_4 tr tx T9 L9 1 2 12 96 (by omega) (by omega) (by omega) hc_6 hc_7 (by omega) hL hT (by omega) (by omega)) (cwV 3 C.1.2.2.2.2 gX6_readRing_X6_readNumber rfl rfl rfl (by decide +kernel) ⟨Nat.le_of_ble_eq_true rfl, Nat.le_of_ble_eq_true rfl⟩) (by omega) hc_6 (T := TX6) (N := 3) rfl rfl hl rfl (Nat.le_of_ble_eq_true rfl) dX6_readRing_27 ⟨Nat.le_of_ble_eq_true rfl, Nat.le_of_ble_eq_true rfl⟩) (fun z_9 g9 H locs hw G => ?_)
    obtain ⟨hw, h_10⟩ := hw
    subst hw
    obtain ⟨g_11, hg_12⟩ : ∃ g9, g9 = va_up g_4 tr (.inr (6, [.ref (ad tx), .int (iz L9), .int (iz ((rd T9 L9 12 96 2 1).2))])) := ⟨_, rfl⟩
    rw [← hg_12] at G
    have hc_13 : g_11 tr = .inr (6, [.ref (ad tx), .int (iz L9), .int (iz ((rd T9 L9 12 96 2 1).2))]) := by rw [hg_12]; exact gu_self _ _ _
    have hc_14 : g_11 tx = aCh κ 100 T9 := by rw [hg_12, gu_ne (by omega)]; exact hc_7
    have hpl_15 : isPl κ ad g_11 po nl v := by rw [hg_12]; exact hpl_8.out (by omega)
    refine lv_istore_n (lv' := [(2, .int (iz z_9)), (0, .ref (ad tr)), (1, .ref (ad po))]) C.1.1 C.1.2.1 dX6_readRing_30 rfl hl (by decide) rfl (fun ls hl => ?_)
    refine g_iload_n C dX6_readRing_31 rfl hl 0 rfl ?_
    refine g_iconst (a := (-1)) C dX6_readRing_32 rfl ?_
    refine g_icmp_ne (tgt := 38) C (by omega) (by omega) dX6_readRing_33 (by decide) (fun c_16 => ?_) (fun c_16 => ?_)
    · refine g_aload_n C dX6_readRing_38 rfl hl 2 rfl ?_
      refine g_iload_n C dX6_readRing_39 rfl hl 0 rfl ?_
      refine g_cv C G (g_runV (As := [.int (iz z_9)]) (rest := []) (pos := po) C G (c_X4_empty l κ B n ad g_11 po nl v z_9 (by omega) hpl_15) (cwV 1 C.1.2.2.2.2 gX6_readRing_X4_empty rfl rfl rfl (by decide +kernel) ⟨Nat.le_of_ble_eq_true rfl, Nat.le_of_ble_eq_true rfl⟩) (by omega) hpl_15.1 (T := TX4) (N := 6) rfl rfl hl rfl (Nat.le_of_ble_eq_true rfl) dX6_readRing_40 ⟨Nat.le_of_ble_eq_true rfl, Nat.le_of_ble_eq_true rfl⟩) (fun g_17 H locs hw9 G => ?_)
      obtain ⟨hpl_18, hfr_19⟩ := hw9
      have hc_21 : g_17 tr = .inr (6, [.ref (ad tx), .int (iz L9), .int (iz ((rd T9 L9 12 96 2 1).2))]) := (hfr_19 _ (by omega)).trans hc_13
      have hc_22 : g_17 tx = aCh κ 100 T9 := (hfr_19 _ (by omega)).trans hc_14
      refine g_iconst (a := 1) C dX6_readRing_43 rfl ?_
      refine g_zret C G hr hlk (by decide) (Nat.le_of_ble_eq_true rfl) (Nat.le_of_ble_eq_true rfl) dX6_readRing_44 ?_
      have hfn : rgS T9 L9 nl v = (true, (rd T9 L9 12 96 2 1).2, 0, vu (vu v 0 (rd T9 L9 12 96 2 1).1) 25 0) := by
        unfold rgS
        rw [if_pos ⟨by omega, by omega⟩, if_neg (by rw [← h_10.1]; omega)]
      rw [hfn]
      refine ⟨rfl, hc_21, by rw [← h_10.1]; exact hpl_18, fun x hx1 hx2 => by
          refine (hfr_19 _ hx2).trans ?_
          rw [hg_12, gu_ne (by omega)]
          rw [hg_5, gu_ne (by omega)]
          try rfl⟩
    · refine g_iconst (a := 0) C dX6_readRing_36 rfl ?_
      refine g_zret C G hr hlk (by decide) (Nat.le_of_ble_eq_true rfl) (Nat.le_of_ble_eq_true rfl) dX6_readRing_37 ?_
      have hfn : rgS T9 L9 nl v = (false, (rd T9 L9 12 96 2 1).2, nl, v) := by
        unfold rgS
        rw [if_pos ⟨by omega, by omega⟩, if_pos (by rw [← h_10.1]; omega)]
      rw [hfn]
      refine ⟨rfl, hc_13, hpl_15, fun x hx1 hx2 => by
          rw [hg_12, gu_ne (by omega)]
          rw [hg_5, gu_ne (by omega)]
          try rfl⟩
  · refine g_iconst (a := 0) C dX6_readRing_9 rfl ?_
    refine g_zret C G hr hlk (by decide) (Nat.le_of_ble_eq_true rfl) (Nat.le_of_ble_eq_true rfl) dX6_readRing_10 ?_
    have hfn : rgS T9 L9 nl v = (false, 0, nl, v) := if_neg (fun c9 => by omega)
    rw [hfn]
    refine ⟨rfl, hrd, hpl, fun x hx1 hx2 => by
        rfl⟩
theorem fX6_readLayer_23 : gFld wsX6_readLayer RX6 23 6 2 := ⟨RX6, TX6, 3, rfl, by decide, by decide +kernel, by decide +kernel⟩
theorem fwX6_readLayer_23 : gFldW wsX6_readLayer RX6 23 6 2 .int false := ⟨RX6, TX6, 3, tyX6, rfl, by decide, by decide +kernel, by decide +kernel, tyX6_ok, nmX6, rfl, by decide +kernel, by decide +kernel⟩
theorem fX6_readLayer_57 : gFld wsX6_readLayer RX6 57 4 0 := ⟨RX4, TX4, 6, rfl, by decide, by decide +kernel, by decide +kernel⟩
set_option maxHeartbeats 4000000 in
set_option maxRecDepth 100000 in
theorem c_X6_readLayer (l : Launch) (κ : gKap) (B n : Nat) (ad : Nat → Nat) (g : Nat → va_E) (tr : Nat) (tx : Nat) (T9 : Int → Int) (L9 : Int) (q : Int) (po : Nat) (nl : Int) (v : Int → Int) (sd : Int) (htr : tr < n) (htx : tx < n) (hne : tx ≠ tr) (hrd : g tr = .inr (6, [.ref (ad tx), .int (iz L9), .int (iz q)])) (htt : g tx = aCh κ 100 T9) (hq : 0 ≤ q ∧ q ≤ L9) (hL : L9 ≤ 100) (hT : ∀ i, 0 ≤ i → i < 100 → 0 ≤ T9 i ∧ T9 i ≤ 255) (hpn : po + 10 ≤ n) (hpl : isPl κ ad g po nl v) (hdt : tr < po ∨ po + 10 ≤ tr) (hdx : tx < po ∨ po + 10 ≤ tx) (hok : okR nl v) (hqL : q < L9) (hn6 : nl < 6) (hsd : 0 ≤ sd ∧ sd ≤ 1) : Met l yX6_readLayer wsX6_readLayer ({ frames := 2, cells := 0, slots := 0, locals := 49 }) (gPre κ B n ad g [.ref (ad tr), .ref (ad po), .int (iz sd)]) (gQi κ B n ad (fun z g' => z = (if (rlS T9 L9 sd q nl v).1 = true then 1 else 0) ∧ g' tr = .inr (6, [.ref (ad tx), .int (iz L9), .int (iz ((rlS T9 L9 sd q nl v).2.1))]) ∧ isPl κ ad g' po (rlS T9 L9 sd q nl v).2.2.1 (rlS T9 L9 sd q nl v).2.2.2 ∧ ∀ x, x ≠ tr → (x < po ∨ po + 10 ≤ x) → g' x = g x)) 0 0 (gFree B) := by
  refine g_met RX6 (cc := cX6_readLayer) (maxL := 6) (ret := (some .boolean)) (by decide) rfl rfl (Nat.le_of_ble_eq_true rfl) ?_
  intro p e s m args below meth c C hr hlk hnm G ls hl
  have hl : lv_has ls 6 [(0, .ref (ad tr)), (1, .ref (ad po)), (2, .int (iz sd))] := hl
  have hokp := hok.1
  have hv09 := hokp.2.1
  have hn69 := hokp.1
  have h259 := hokp.2.2.1
  refine g_aload_n C dX6_readLayer_0 rfl hl 0 rfl ?_
  refine lv_dup C.1.1 C.1.2.1 dX6_readLayer_1 rfl ?_
  refine g_get C G (pos := tr) fX6_readLayer_23 (by omega) hrd rfl dX6_readLayer_2 ?_
  refine g_iconst (a := 1) C dX6_readLayer_5 rfl ?_
  refine g_iadd C dX6_readLayer_6 ?_
  refine g_put C G (pos := tr) (fs' := [.ref (ad tx), .int (iz L9), .int (iz (q + 1))]) fwX6_readLayer_23 (by omega) hrd (Nat.le_of_ble_eq_true rfl) rfl rfl rfl dX6_readLayer_7 (fun H locs G => ?_)
  obtain ⟨g_1, hg_2⟩ : ∃ g9, g9 = va_up g tr (.inr (6, [.ref (ad tx), .int (iz L9), .int (iz (q + 1))])) := ⟨_, rfl⟩
  rw [← hg_2] at G
  have hc_3 : g_1 tr = .inr (6, [.ref (ad tx), .int (iz L9), .int (iz (q + 1))]) := by rw [hg_2]; exact gu_self _ _ _
  have hc_4 : g_1 tx = aCh κ 100 T9 := by rw [hg_2, gu_ne (by omega)]; exact htt
  have hpl_5 : isPl κ ad g_1 po nl v := by rw [hg_2]; exact hpl.out (by omega)
  refine g_aload_n C dX6_readLayer_10 rfl hl 0 rfl ?_
  refine g_iconst (a := 2) C dX6_readLayer_11 rfl ?_
  refine g_iconst (a := 5) C dX6_readLayer_12 rfl ?_
  refine g_bipush (a := 60) C dX6_readLayer_13 (by decide) ?_
  refine g_ci C G (g_runV (As := [.int (iz 2), .int (iz 5), .int (iz 60)]) (rest := []) (pos := tr) C G (c_X6_readNumber l κ B n ad g_1 tr tx T9 L9 (q + 1) 2 5 60 (by omega) (by omega) (by omega) hc_3 hc_4 (by omega) hL hT (by omega) (by omega)) (cwV 3 C.1.2.2.2.2 gX6_readLayer_X6_readNumber rfl rfl rfl (by decide +kernel) ⟨Nat.le_of_ble_eq_true rfl, Nat.le_of_ble_eq_true rfl⟩) (by omega) hc_3 (T := TX6) (N := 3) rfl rfl hl rfl (Nat.le_of_ble_eq_true rfl) dX6_readLayer_15 ⟨Nat.le_of_ble_eq_true rfl, Nat.le_of_ble_eq_true rfl⟩) (fun z_6 g9 H locs hw G => ?_)
  obtain ⟨hw, h_7⟩ := hw
  subst hw
  obtain ⟨g_8, hg_9⟩ : ∃ g9, g9 = va_up g_1 tr (.inr (6, [.ref (ad tx), .int (iz L9), .int (iz ((rd T9 L9 5 60 2 (q + 1)).2))])) := ⟨_, rfl⟩
  rw [← hg_9] at G
  have hc_10 : g_8 tr = .inr (6, [.ref (ad tx), .int (iz L9), .int (iz ((rd T9 L9 5 60 2 (q + 1)).2))]) := by rw [hg_9]; exact gu_self _ _ _
  have hc_11 : g_8 tx = aCh κ 100 T9 := by rw [hg_9, gu_ne (by omega)]; exact hc_4
  have hpl_12 : isPl κ ad g_8 po nl v := by rw [hg_9]; exact hpl_5.out (by omega)
  refine lv_istore_n (lv' := [(3, .int (iz z_6)), (0, .ref (ad tr)), (1, .ref (ad po)), (2, .int (iz sd))]) C.1.1 C.1.2.1 dX6_readLayer_18 rfl hl (by decide) rfl (fun ls hl => ?_)
  refine g_iload_n C dX6_readLayer_19 rfl hl 0 rfl ?_
  refine g_iconst (a := (-1)) C dX6_readLayer_20 rfl ?_
  refine g_icmp_ne (tgt := 26) C (by omega) (by omega) dX6_readLayer_21 (by decide) (fun c_13 => ?_) (fun c_13 => ?_)
  · refine g_aload_n C dX6_readLayer_26 rfl hl 1 rfl ?_
    refine g_iconst (a := 2) C dX6_readLayer_27 rfl ?_
    refine g_iconst (a := 0) C dX6_readLayer_28 rfl ?_
    refine g_bipush (a := 20) C dX6_readLayer_29 (by decide) ?_
    refine g_ci C G (g_runV (As := [.int (iz 2), .int (iz 0), .int (iz 20)]) (rest := []) (pos := tr) C G (c_X6_readNumber l κ B n ad g_8 tr tx T9 L9 ((rd T9 L9 5 60 2 (q + 1)).2) 2 0 20 (by omega) (by omega) (by omega) hc_10 hc_11 (by omega) hL hT (by omega) (by omega)) (cwV 3 C.1.2.2.2.2 gX6_readLayer_X6_readNumber rfl rfl rfl (by decide +kernel) ⟨Nat.le_of_ble_eq_true rfl, Nat.le_of_ble_eq_true rfl⟩) (by omega) hc_10 (T := TX6) (N := 3) rfl rfl hl rfl (Nat.le_of_ble_eq_true rfl) dX6_readLayer_31 ⟨Nat.le_of_ble_eq_true rfl, Nat.le_of_ble_eq_true rfl⟩) (fun z_14 g9 H locs hw G => ?_)
    obtain ⟨hw, h_15⟩ := hw
    subst hw
    obtain ⟨g_16, hg_17⟩ : ∃ g9, g9 = va_up g_8 tr (.inr (6, [.ref (ad tx), .int (iz L9), .int (iz ((rd T9 L9 0 20 2 ((rd T9 L9 5 60 2 (q + 1)).2)).2))])) := ⟨_, rfl⟩
    rw [← hg_17] at G
    have hc_18 : g_16 tr = .inr (6, [.ref (ad tx), .int (iz L9), .int (iz ((rd T9 L9 0 20 2 ((rd T9 L9 5 60 2 (q + 1)).2)).2))]) := by rw [hg_17]; exact gu_self _ _ _
    have hc_19 : g_16 tx = aCh κ 100 T9 := by rw [hg_17, gu_ne (by omega)]; exact hc_11
    have hpl_20 : isPl κ ad g_16 po nl v := by rw [hg_17]; exact hpl_12.out (by omega)
    refine lv_istore (lv' := [(4, .int (iz z_14)), (3, .int (iz z_6)), (0, .ref (ad tr)), (1, .ref (ad po)), (2, .int (iz sd))]) C.1.1 C.1.2.1 dX6_readLayer_34 hl (by decide) rfl (fun ls hl => ?_)
    refine g_iload C dX6_readLayer_36 hl 0 rfl ?_
    refine g_iconst (a := (-1)) C dX6_readLayer_38 rfl ?_
    refine g_icmp_ne (tgt := 44) C (by omega) (by omega) dX6_readLayer_39 (by decide) (fun c_21 => ?_) (fun c_21 => ?_)
    · refine g_aload_n C dX6_readLayer_44 rfl hl 2 rfl ?_
      refine g_iconst (a := 2) C dX6_readLayer_45 rfl ?_
      refine g_iconst (a := 0) C dX6_readLayer_46 rfl ?_
      refine g_aload_n C dX6_readLayer_47 rfl hl 3 rfl ?_
      refine g_get C G (pos := po) fX6_readLayer_57 (by omega) hpl_20.1 rfl dX6_readLayer_48 ?_
      refine g_iconst (a := 1) C dX6_readLayer_51 rfl ?_
      refine g_isub C dX6_readLayer_52 ?_
      refine g_ci C G (g_runV (As := [.int (iz 2), .int (iz 0), .int (iz ((v 0) - 1))]) (rest := []) (pos := tr) C G (c_X6_readNumber l κ B n ad g_16 tr tx T9 L9 ((rd T9 L9 0 20 2 ((rd T9 L9 5 60 2 (q + 1)).2)).2) 2 0 ((v 0) - 1) (by omega) (by omega) (by omega) hc_18 hc_19 (by omega) hL hT (by omega) (by omega)) (cwV 3 C.1.2.2.2.2 gX6_readLayer_X6_readNumber rfl rfl rfl (by decide +kernel) ⟨Nat.le_of_ble_eq_true rfl, Nat.le_of_ble_eq_true rfl⟩) (by omega) hc_18 (T := TX6) (N := 3) rfl rfl hl rfl (Nat.le_of_ble_eq_true rfl) dX6_readLayer_53 ⟨Nat.le_of_ble_eq_true rfl, Nat.le_of_ble_eq_true rfl⟩) (fun z_22 g9 H locs hw G => ?_)
      obtain ⟨hw, h_23⟩ := hw
      subst hw
      obtain ⟨g_24, hg_25⟩ : ∃ g9, g9 = va_up g_16 tr (.inr (6, [.ref (ad tx), .int (iz L9), .int (iz ((rd T9 L9 0 ((v 0) - 1) 2 ((rd T9 L9 0 20 2 ((rd T9 L9 5 60 2 (q + 1)).2)).2)).2))])) := ⟨_, rfl⟩
      rw [← hg_25] at G
      have hc_26 : g_24 tr = .inr (6, [.ref (ad tx), .int (iz L9), .int (iz ((rd T9 L9 0 ((v 0) - 1) 2 ((rd T9 L9 0 20 2 ((rd T9 L9 5 60 2 (q + 1)).2)).2)).2))]) := by rw [hg_25]; exact gu_self _ _ _
      have hc_27 : g_24 tx = aCh κ 100 T9 := by rw [hg_25, gu_ne (by omega)]; exact hc_19
      have hpl_28 : isPl κ ad g_24 po nl v := by rw [hg_25]; exact hpl_20.out (by omega)
      refine lv_istore (lv' := [(5, .int (iz z_22)), (4, .int (iz z_14)), (3, .int (iz z_6)), (0, .ref (ad tr)), (1, .ref (ad po)), (2, .int (iz sd))]) C.1.1 C.1.2.1 dX6_readLayer_56 hl (by decide) rfl (fun ls hl => ?_)
      refine g_iload C dX6_readLayer_58 hl 0 rfl ?_
      refine g_iconst (a := (-1)) C dX6_readLayer_60 rfl ?_
      refine g_icmp_ne (tgt := 66) C (by omega) (by omega) dX6_readLayer_61 (by decide) (fun c_29 => ?_) (fun c_29 => ?_)
      · refine g_aload_n C dX6_readLayer_66 rfl hl 4 rfl ?_
        refine g_iload_n C dX6_readLayer_67 rfl hl 2 rfl ?_
        refine g_iload_n C dX6_readLayer_68 rfl hl 5 rfl ?_
        refine g_iload C dX6_readLayer_69 hl 1 rfl ?_
        refine g_iload C dX6_readLayer_71 hl 0 rfl ?_
        refine g_cv C G (g_runV (As := [.int (iz z_6), .int (iz sd), .int (iz z_14), .int (iz z_22)]) (rest := []) (pos := po) C G (c_X4_putLayer l κ B n ad g_24 po nl v z_6 sd z_14 z_22 (by omega) hpl_28 (by omega)) (cwV 4 C.1.2.2.2.2 gX6_readLayer_X4_putLayer rfl rfl rfl (by decide +kernel) ⟨Nat.le_of_ble_eq_true rfl, Nat.le_of_ble_eq_true rfl⟩) (by omega) hpl_28.1 (T := TX4) (N := 6) rfl rfl hl rfl (Nat.le_of_ble_eq_true rfl) dX6_readLayer_73 ⟨Nat.le_of_ble_eq_true rfl, Nat.le_of_ble_eq_true rfl⟩) (fun g_30 H locs hw9 G => ?_)
        obtain ⟨hpl_31, hfr_32⟩ := hw9
        have hc_34 : g_30 tr = .inr (6, [.ref (ad tx), .int (iz L9), .int (iz ((rd T9 L9 0 ((v 0) - 1) 2 ((rd T9 L9 0 20 2 ((rd T9 L9 5 60 2 (q + 1)).2)).2)).2))]) := (hfr_32 _ (by omega)).trans hc_26
        have hc_35 : g_30 tx = aCh κ 100 T9 := (hfr_32 _ (by omega)).trans hc_27
        refine g_iconst (a := 1) C dX6_readLayer_76 rfl ?_
        refine g_zret C G hr hlk (by decide) (Nat.le_of_ble_eq_true rfl) (Nat.le_of_ble_eq_true rfl) dX6_readLayer_77 ?_
        have hfn : rlS T9 L9 sd q nl v = (true, (rd T9 L9 0 (v 0 - 1) 2 (rd T9 L9 0 20 2 (rd T9 L9 5 60 2 (q + 1)).2).2).2, nl + 1, v4 v nl (rd T9 L9 5 60 2 (q + 1)).1 sd (rd T9 L9 0 20 2 (rd T9 L9 5 60 2 (q + 1)).2).1 (rd T9 L9 0 (v 0 - 1) 2 (rd T9 L9 0 20 2 (rd T9 L9 5 60 2 (q + 1)).2).2).1) := by
          unfold rlS
          rw [if_neg (show ¬ (rd T9 L9 5 60 2 (q + 1)).1 = -1 by rw [← h_7.1]; omega), if_neg (show ¬ (rd T9 L9 0 20 2 (rd T9 L9 5 60 2 (q + 1)).2).1 = -1 by rw [← h_15.1]; omega), if_neg (show ¬ (rd T9 L9 0 (v 0 - 1) 2 (rd T9 L9 0 20 2 (rd T9 L9 5 60 2 (q + 1)).2).2).1 = -1 by rw [← h_23.1]; omega)]
        rw [hfn]
        refine ⟨rfl, hc_34, by rw [← h_7.1, ← h_15.1, ← h_23.1]; exact hpl_31, fun x hx1 hx2 => by
            refine (hfr_32 _ hx2).trans ?_
            rw [hg_25, gu_ne (by omega)]
            rw [hg_17, gu_ne (by omega)]
            rw [hg_9, gu_ne (by omega)]
            rw [hg_2, gu_ne (by omega)]
            try rfl⟩
      · refine g_iconst (a := 0) C dX6_readLayer_64 rfl ?_
        refine g_zret C G hr hlk (by decide) (Nat.le_of_ble_eq_true rfl) (Nat.le_of_ble_eq_true rfl) dX6_readLayer_65 ?_
        have hfn : rlS T9 L9 sd q nl v = (false, (rd T9 L9 0 (v 0 - 1) 2 (rd T9 L9 0 20 2 (rd T9 L9 5 60 2 (q + 1)).2).2).2, nl, v) := by
          unfold rlS
          rw [if_neg (show ¬ (rd T9 L9 5 60 2 (q + 1)).1 = -1 by rw [← h_7.1]; omega), if_neg (show ¬ (rd T9 L9 0 20 2 (rd T9 L9 5 60 2 (q + 1)).2).1 = -1 by rw [← h_15.1]; omega), if_pos (show (rd T9 L9 0 (v 0 - 1) 2 (rd T9 L9 0 20 2 (rd T9 L9 5 60 2 (q + 1)).2).2).1 = -1 by rw [← h_23.1]; omega)]
        rw [hfn]
        refine ⟨rfl, hc_26, hpl_28, fun x hx1 hx2 => by
            rw [hg_25, gu_ne (by omega)]
            rw [hg_17, gu_ne (by omega)]
            rw [hg_9, gu_ne (by omega)]
            rw [hg_2, gu_ne (by omega)]
            try rfl⟩
    · refine g_iconst (a := 0) C dX6_readLayer_42 rfl ?_
      refine g_zret C G hr hlk (by decide) (Nat.le_of_ble_eq_true rfl) (Nat.le_of_ble_eq_true rfl) dX6_readLayer_43 ?_
      have hfn : rlS T9 L9 sd q nl v = (false, (rd T9 L9 0 20 2 (rd T9 L9 5 60 2 (q + 1)).2).2, nl, v) := by
        unfold rlS
        rw [if_neg (show ¬ (rd T9 L9 5 60 2 (q + 1)).1 = -1 by rw [← h_7.1]; omega), if_pos (show (rd T9 L9 0 20 2 (rd T9 L9 5 60 2 (q + 1)).2).1 = -1 by rw [← h_15.1]; omega)]
      rw [hfn]
      refine ⟨rfl, hc_18, hpl_20, fun x hx1 hx2 => by
          rw [hg_17, gu_ne (by omega)]
          rw [hg_9, gu_ne (by omega)]
          rw [hg_2, gu_ne (by omega)]
          try rfl⟩
  · refine g_iconst (a := 0) C dX6_readLayer_24 rfl ?_
    refine g_zret C G hr hlk (by decide) (Nat.le_of_ble_eq_true rfl) (Nat.le_of_ble_eq_true rfl) dX6_readLayer_25 ?_
    have hfn : rlS T9 L9 sd q nl v = (false, (rd T9 L9 5 60 2 (q + 1)).2, nl, v) := by
      unfold rlS
      rw [if_pos (show (rd T9 L9 5 60 2 (q + 1)).1 = -1 by rw [← h_7.1]; omega)]
    rw [hfn]
    refine ⟨rfl, hc_10, hpl_12, fun x hx1 hx2 => by
        rw [hg_9, gu_ne (by omega)]
        rw [hg_2, gu_ne (by omega)]
        try rfl⟩
theorem fX6_readSighting_23 : gFld wsX6_readSighting RX6 23 6 2 := ⟨RX6, TX6, 3, rfl, by decide, by decide +kernel, by decide +kernel⟩
theorem fwX6_readSighting_23 : gFldW wsX6_readSighting RX6 23 6 2 .int false := ⟨RX6, TX6, 3, tyX6, rfl, by decide, by decide +kernel, by decide +kernel, tyX6_ok, nmX6, rfl, by decide +kernel, by decide +kernel⟩
theorem fX6_readSighting_57 : gFld wsX6_readSighting RX6 57 4 0 := ⟨RX4, TX4, 6, rfl, by decide, by decide +kernel, by decide +kernel⟩
set_option maxHeartbeats 4000000 in
set_option maxRecDepth 100000 in
theorem c_X6_readSighting (l : Launch) (κ : gKap) (B n : Nat) (ad : Nat → Nat) (g : Nat → va_E) (tr : Nat) (tx : Nat) (T9 : Int → Int) (L9 : Int) (q : Int) (po : Nat) (nl : Int) (v : Int → Int) (htr : tr < n) (htx : tx < n) (hne : tx ≠ tr) (hrd : g tr = .inr (6, [.ref (ad tx), .int (iz L9), .int (iz q)])) (htt : g tx = aCh κ 100 T9) (hq : 0 ≤ q ∧ q ≤ L9) (hL : L9 ≤ 100) (hT : ∀ i, 0 ≤ i → i < 100 → 0 ≤ T9 i ∧ T9 i ≤ 255) (hpn : po + 10 ≤ n) (hpl : isPl κ ad g po nl v) (hdt : tr < po ∨ po + 10 ≤ tr) (hdx : tx < po ∨ po + 10 ≤ tx) (hok : okR nl v) (hqL : q < L9) : Met l yX6_readSighting wsX6_readSighting ({ frames := 2, cells := 0, slots := 0, locals := 47 }) (gPre κ B n ad g [.ref (ad tr), .ref (ad po)]) (gQi κ B n ad (fun z g' => z = (if (rsS T9 L9 q nl v).1 = true then 1 else 0) ∧ g' tr = .inr (6, [.ref (ad tx), .int (iz L9), .int (iz ((rsS T9 L9 q nl v).2.1))]) ∧ isPl κ ad g' po (rsS T9 L9 q nl v).2.2.1 (rsS T9 L9 q nl v).2.2.2 ∧ ∀ x, x ≠ tr → (x < po ∨ po + 10 ≤ x) → g' x = g x)) 0 0 (gFree B) := by
  refine g_met RX6 (cc := cX6_readSighting) (maxL := 4) (ret := (some .boolean)) (by decide) rfl rfl (Nat.le_of_ble_eq_true rfl) ?_
  intro p e s m args below meth c C hr hlk hnm G ls hl
  have hl : lv_has ls 4 [(0, .ref (ad tr)), (1, .ref (ad po))] := hl
  have hokp := hok.1
  have hv09 := hokp.2.1
  have hn69 := hokp.1
  have h259 := hokp.2.2.1
  refine g_aload_n C dX6_readSighting_0 rfl hl 0 rfl ?_
  refine lv_dup C.1.1 C.1.2.1 dX6_readSighting_1 rfl ?_
  refine g_get C G (pos := tr) fX6_readSighting_23 (by omega) hrd rfl dX6_readSighting_2 ?_
  refine g_iconst (a := 1) C dX6_readSighting_5 rfl ?_
  refine g_iadd C dX6_readSighting_6 ?_
  refine g_put C G (pos := tr) (fs' := [.ref (ad tx), .int (iz L9), .int (iz (q + 1))]) fwX6_readSighting_23 (by omega) hrd (Nat.le_of_ble_eq_true rfl) rfl rfl rfl dX6_readSighting_7 (fun H locs G => ?_)
  obtain ⟨g_1, hg_2⟩ : ∃ g9, g9 = va_up g tr (.inr (6, [.ref (ad tx), .int (iz L9), .int (iz (q + 1))])) := ⟨_, rfl⟩
  rw [← hg_2] at G
  have hc_3 : g_1 tr = .inr (6, [.ref (ad tx), .int (iz L9), .int (iz (q + 1))]) := by rw [hg_2]; exact gu_self _ _ _
  have hc_4 : g_1 tx = aCh κ 100 T9 := by rw [hg_2, gu_ne (by omega)]; exact htt
  have hpl_5 : isPl κ ad g_1 po nl v := by rw [hg_2]; exact hpl.out (by omega)
  refine g_aload_n C dX6_readSighting_10 rfl hl 0 rfl ?_
  refine g_iconst (a := 2) C dX6_readSighting_11 rfl ?_
  refine g_iconst (a := 0) C dX6_readSighting_12 rfl ?_
  refine g_aload_n C dX6_readSighting_13 rfl hl 1 rfl ?_
  refine g_get C G (pos := po) fX6_readSighting_57 (by omega) hpl_5.1 rfl dX6_readSighting_14 ?_
  refine g_iconst (a := 1) C dX6_readSighting_17 rfl ?_
  refine g_isub C dX6_readSighting_18 ?_
  refine g_ci C G (g_runV (As := [.int (iz 2), .int (iz 0), .int (iz ((v 0) - 1))]) (rest := []) (pos := tr) C G (c_X6_readNumber l κ B n ad g_1 tr tx T9 L9 (q + 1) 2 0 ((v 0) - 1) (by omega) (by omega) (by omega) hc_3 hc_4 (by omega) hL hT (by omega) (by omega)) (cwV 3 C.1.2.2.2.2 gX6_readSighting_X6_readNumber rfl rfl rfl (by decide +kernel) ⟨Nat.le_of_ble_eq_true rfl, Nat.le_of_ble_eq_true rfl⟩) (by omega) hc_3 (T := TX6) (N := 3) rfl rfl hl rfl (Nat.le_of_ble_eq_true rfl) dX6_readSighting_19 ⟨Nat.le_of_ble_eq_true rfl, Nat.le_of_ble_eq_true rfl⟩) (fun z_6 g9 H locs hw G => ?_)
  obtain ⟨hw, h_7⟩ := hw
  subst hw
  obtain ⟨g_8, hg_9⟩ : ∃ g9, g9 = va_up g_1 tr (.inr (6, [.ref (ad tx), .int (iz L9), .int (iz ((rd T9 L9 0 ((v 0) - 1) 2 (q + 1)).2))])) := ⟨_, rfl⟩
  rw [← hg_9] at G
  have hc_10 : g_8 tr = .inr (6, [.ref (ad tx), .int (iz L9), .int (iz ((rd T9 L9 0 ((v 0) - 1) 2 (q + 1)).2))]) := by rw [hg_9]; exact gu_self _ _ _
  have hc_11 : g_8 tx = aCh κ 100 T9 := by rw [hg_9, gu_ne (by omega)]; exact hc_4
  have hpl_12 : isPl κ ad g_8 po nl v := by rw [hg_9]; exact hpl_5.out (by omega)
  refine lv_istore_n (lv' := [(2, .int (iz z_6)), (0, .ref (ad tr)), (1, .ref (ad po))]) C.1.1 C.1.2.1 dX6_readSighting_22 rfl hl (by decide) rfl (fun ls hl => ?_)
  refine g_iload_n C dX6_readSighting_23 rfl hl 0 rfl ?_
  refine g_iconst (a := (-1)) C dX6_readSighting_24 rfl ?_
  refine g_icmp_ne (tgt := 30) C (by omega) (by omega) dX6_readSighting_25 (by decide) (fun c_13 => ?_) (fun c_13 => ?_)
  · refine g_aload_n C dX6_readSighting_30 rfl hl 1 rfl ?_
    refine g_iconst (a := 3) C dX6_readSighting_31 rfl ?_
    refine g_iconst (a := 0) C dX6_readSighting_32 rfl ?_
    refine g_sipush (a := 300) C dX6_readSighting_33 (by decide) ?_
    refine g_ci C G (g_runV (As := [.int (iz 3), .int (iz 0), .int (iz 300)]) (rest := []) (pos := tr) C G (c_X6_readNumber l κ B n ad g_8 tr tx T9 L9 ((rd T9 L9 0 ((v 0) - 1) 2 (q + 1)).2) 3 0 300 (by omega) (by omega) (by omega) hc_10 hc_11 (by omega) hL hT (by omega) (by omega)) (cwV 3 C.1.2.2.2.2 gX6_readSighting_X6_readNumber rfl rfl rfl (by decide +kernel) ⟨Nat.le_of_ble_eq_true rfl, Nat.le_of_ble_eq_true rfl⟩) (by omega) hc_10 (T := TX6) (N := 3) rfl rfl hl rfl (Nat.le_of_ble_eq_true rfl) dX6_readSighting_36 ⟨Nat.le_of_ble_eq_true rfl, Nat.le_of_ble_eq_true rfl⟩) (fun z_14 g9 H locs hw G => ?_)
    obtain ⟨hw, h_15⟩ := hw
    subst hw
    obtain ⟨g_16, hg_17⟩ : ∃ g9, g9 = va_up g_8 tr (.inr (6, [.ref (ad tx), .int (iz L9), .int (iz ((rd T9 L9 0 300 3 ((rd T9 L9 0 ((v 0) - 1) 2 (q + 1)).2)).2))])) := ⟨_, rfl⟩
    rw [← hg_17] at G
    have hc_18 : g_16 tr = .inr (6, [.ref (ad tx), .int (iz L9), .int (iz ((rd T9 L9 0 300 3 ((rd T9 L9 0 ((v 0) - 1) 2 (q + 1)).2)).2))]) := by rw [hg_17]; exact gu_self _ _ _
    have hc_19 : g_16 tx = aCh κ 100 T9 := by rw [hg_17, gu_ne (by omega)]; exact hc_11
    have hpl_20 : isPl κ ad g_16 po nl v := by rw [hg_17]; exact hpl_12.out (by omega)
    refine lv_istore_n (lv' := [(3, .int (iz z_14)), (2, .int (iz z_6)), (0, .ref (ad tr)), (1, .ref (ad po))]) C.1.1 C.1.2.1 dX6_readSighting_39 rfl hl (by decide) rfl (fun ls hl => ?_)
    refine g_iload_n C dX6_readSighting_40 rfl hl 0 rfl ?_
    refine g_iconst (a := (-1)) C dX6_readSighting_41 rfl ?_
    refine g_icmp_ne (tgt := 47) C (by omega) (by omega) dX6_readSighting_42 (by decide) (fun c_21 => ?_) (fun c_21 => ?_)
    · refine g_aload_n C dX6_readSighting_47 rfl hl 3 rfl ?_
      refine g_iload_n C dX6_readSighting_48 rfl hl 1 rfl ?_
      refine g_iload_n C dX6_readSighting_49 rfl hl 0 rfl ?_
      refine g_cv C G (g_runV (As := [.int (iz z_6), .int (iz z_14)]) (rest := []) (pos := po) C G (c_X4_note l κ B n ad g_16 po nl v z_6 z_14 (by omega) hpl_20 (by omega)) (cwV 2 C.1.2.2.2.2 gX6_readSighting_X4_note rfl rfl rfl (by decide +kernel) ⟨Nat.le_of_ble_eq_true rfl, Nat.le_of_ble_eq_true rfl⟩) (by omega) hpl_20.1 (T := TX4) (N := 6) rfl rfl hl rfl (Nat.le_of_ble_eq_true rfl) dX6_readSighting_50 ⟨Nat.le_of_ble_eq_true rfl, Nat.le_of_ble_eq_true rfl⟩) (fun g_22 H locs hw9 G => ?_)
      obtain ⟨hpl_23, hfr_24⟩ := hw9
      have hc_26 : g_22 tr = .inr (6, [.ref (ad tx), .int (iz L9), .int (iz ((rd T9 L9 0 300 3 ((rd T9 L9 0 ((v 0) - 1) 2 (q + 1)).2)).2))]) := (hfr_24 _ (by omega)).trans hc_18
      have hc_27 : g_22 tx = aCh κ 100 T9 := (hfr_24 _ (by omega)).trans hc_19
      refine g_iconst (a := 1) C dX6_readSighting_53 rfl ?_
      refine g_zret C G hr hlk (by decide) (Nat.le_of_ble_eq_true rfl) (Nat.le_of_ble_eq_true rfl) dX6_readSighting_54 ?_
      have hfn : rsS T9 L9 q nl v = (true, (rd T9 L9 0 300 3 (rd T9 L9 0 (v 0 - 1) 2 (q + 1)).2).2, nl, ntv v (rd T9 L9 0 (v 0 - 1) 2 (q + 1)).1 (rd T9 L9 0 300 3 (rd T9 L9 0 (v 0 - 1) 2 (q + 1)).2).1) := by
        unfold rsS
        rw [if_neg (show ¬ (rd T9 L9 0 (v 0 - 1) 2 (q + 1)).1 = -1 by rw [← h_7.1]; omega), if_neg (show ¬ (rd T9 L9 0 300 3 (rd T9 L9 0 (v 0 - 1) 2 (q + 1)).2).1 = -1 by rw [← h_15.1]; omega)]
      rw [hfn]
      refine ⟨rfl, hc_26, by rw [← h_7.1, ← h_15.1]; exact hpl_23, fun x hx1 hx2 => by
          refine (hfr_24 _ hx2).trans ?_
          rw [hg_17, gu_ne (by omega)]
          rw [hg_9, gu_ne (by omega)]
          rw [hg_2, gu_ne (by omega)]
          try rfl⟩
    · refine g_iconst (a := 0) C dX6_readSighting_45 rfl ?_
      refine g_zret C G hr hlk (by decide) (Nat.le_of_ble_eq_true rfl) (Nat.le_of_ble_eq_true rfl) dX6_readSighting_46 ?_
      have hfn : rsS T9 L9 q nl v = (false, (rd T9 L9 0 300 3 (rd T9 L9 0 (v 0 - 1) 2 (q + 1)).2).2, nl, v) := by
        unfold rsS
        rw [if_neg (show ¬ (rd T9 L9 0 (v 0 - 1) 2 (q + 1)).1 = -1 by rw [← h_7.1]; omega), if_pos (show (rd T9 L9 0 300 3 (rd T9 L9 0 (v 0 - 1) 2 (q + 1)).2).1 = -1 by rw [← h_15.1]; omega)]
      rw [hfn]
      refine ⟨rfl, hc_18, hpl_20, fun x hx1 hx2 => by
          rw [hg_17, gu_ne (by omega)]
          rw [hg_9, gu_ne (by omega)]
          rw [hg_2, gu_ne (by omega)]
          try rfl⟩
  · refine g_iconst (a := 0) C dX6_readSighting_28 rfl ?_
    refine g_zret C G hr hlk (by decide) (Nat.le_of_ble_eq_true rfl) (Nat.le_of_ble_eq_true rfl) dX6_readSighting_29 ?_
    have hfn : rsS T9 L9 q nl v = (false, (rd T9 L9 0 (v 0 - 1) 2 (q + 1)).2, nl, v) := by
      unfold rsS
      rw [if_pos (show (rd T9 L9 0 (v 0 - 1) 2 (q + 1)).1 = -1 by rw [← h_7.1]; omega)]
    rw [hfn]
    refine ⟨rfl, hc_10, hpl_12, fun x hx1 hx2 => by
        rw [hg_9, gu_ne (by omega)]
        rw [hg_2, gu_ne (by omega)]
        try rfl⟩
theorem fX6_readPart_51 : gFld wsX6_readPart RX6 51 4 2 := ⟨RX4, TX4, 6, rfl, by decide, by decide +kernel, by decide +kernel⟩
set_option maxHeartbeats 4000000 in
set_option maxRecDepth 100000 in
theorem c_X6_readPart (l : Launch) (κ : gKap) (B n : Nat) (ad : Nat → Nat) (g : Nat → va_E) (tr : Nat) (tx : Nat) (T9 : Int → Int) (L9 : Int) (q : Int) (po : Nat) (nl : Int) (v : Int → Int) (htr : tr < n) (htx : tx < n) (hne : tx ≠ tr) (hrd : g tr = .inr (6, [.ref (ad tx), .int (iz L9), .int (iz q)])) (htt : g tx = aCh κ 100 T9) (hq : 0 ≤ q ∧ q ≤ L9) (hL : L9 ≤ 100) (hT : ∀ i, 0 ≤ i → i < 100 → 0 ≤ T9 i ∧ T9 i ≤ 255) (hpn : po + 10 ≤ n) (hpl : isPl κ ad g po nl v) (hdt : tr < po ∨ po + 10 ≤ tr) (hdx : tx < po ∨ po + 10 ≤ tx) (hok : okR nl v) (hqL : q < L9) : Met l yX6_readPart wsX6_readPart ({ frames := 3, cells := 0, slots := 0, locals := 74 }) (gPre κ B n ad g [.ref (ad tr), .ref (ad po)]) (gQi κ B n ad (fun z g' => z = (if (rpS T9 L9 q nl v).1 = true then 1 else 0) ∧ g' tr = .inr (6, [.ref (ad tx), .int (iz L9), .int (iz ((rpS T9 L9 q nl v).2.1))]) ∧ isPl κ ad g' po (rpS T9 L9 q nl v).2.2.1 (rpS T9 L9 q nl v).2.2.2 ∧ ∀ x, x ≠ tr → (x < po ∨ po + 10 ≤ x) → g' x = g x)) 0 0 (gFree B) := by
  refine g_met RX6 (cc := cX6_readPart) (maxL := 2) (ret := (some .boolean)) (by decide) rfl rfl (Nat.le_of_ble_eq_true rfl) ?_
  intro p e s m args below meth c C hr hlk hnm G ls hl
  have hl : lv_has ls 2 [(0, .ref (ad tr)), (1, .ref (ad po))] := hl
  have hokp := hok.1
  have hv09 := hokp.2.1
  have hn69 := hokp.1
  have h259 := hokp.2.2.1
  refine g_aload_n C dX6_readPart_0 rfl hl 0 rfl ?_
  refine g_ci C G (g_runV (As := []) (rest := []) (pos := tr) C G (c_X6_next l κ B n ad g tr tx T9 L9 q (by omega) (by omega) (by omega) hrd htt (by omega) hL hT) (cwV 0 C.1.2.2.2.2 gX6_readPart_X6_next rfl rfl rfl (by decide +kernel) ⟨Nat.le_of_ble_eq_true rfl, Nat.le_of_ble_eq_true rfl⟩) (by omega) hrd (T := TX6) (N := 3) rfl rfl hl rfl (Nat.le_of_ble_eq_true rfl) dX6_readPart_1 ⟨Nat.le_of_ble_eq_true rfl, Nat.le_of_ble_eq_true rfl⟩) (fun z_1 g9 H locs hw G => ?_)
  obtain ⟨hg9, h_2⟩ := hw
  replace hg9 := hg9.symm
  subst hg9
  have ez9 : z_1 = T9 q := by omega
  have hTb : 0 ≤ T9 q ∧ T9 q ≤ 255 := hT q (by omega) (by omega)
  by_cases e_3 : z_1 = 105
  · refine g_look (off := 36) (tgt := 40) C (by omega) dX6_readPart_4 rfl (by rw [e_3]; rfl) (by decide) ?_
    refine g_aload_n C dX6_readPart_40 rfl hl 1 rfl ?_
    refine g_ci C G (g_runV (As := []) (rest := []) (pos := po) C G (c_X4_isFull l κ B n ad g po nl v (by omega) hpl (by omega)) (cwV 0 C.1.2.2.2.2 gX6_readPart_X4_isFull rfl rfl rfl (by decide +kernel) ⟨Nat.le_of_ble_eq_true rfl, Nat.le_of_ble_eq_true rfl⟩) (by omega) hpl.1 (T := TX4) (N := 6) rfl rfl hl rfl (Nat.le_of_ble_eq_true rfl) dX6_readPart_41 ⟨Nat.le_of_ble_eq_true rfl, Nat.le_of_ble_eq_true rfl⟩) (fun z_5 g9 H locs hw G => ?_)
    obtain ⟨hg9, hw⟩ := hw
    replace hg9 := hg9.symm
    subst hg9
    rcases hw with ⟨b_4, rfl⟩ | ⟨b_4, rfl⟩
    · refine g_if_ne (tgt := 60) C (by decide) dX6_readPart_44 (by decide) (fun _ => ?_) (fun c9 => absurd c9 (by decide))
      refine g_iconst (a := 0) C dX6_readPart_60 rfl ?_
      refine g_zret C G hr hlk (by decide) (Nat.le_of_ble_eq_true rfl) (Nat.le_of_ble_eq_true rfl) dX6_readPart_61 ?_
      have hfn : rpS T9 L9 q nl v = (false, q, nl, v) := by
        unfold rpS
        rw [if_pos (show T9 q = 105 by omega), if_pos (by omega)]
      rw [hfn]
      refine ⟨rfl, hrd, hpl, fun x hx1 hx2 => by
          rfl⟩
    · refine g_if_ne (tgt := 60) C (by decide) dX6_readPart_44 (by decide) (fun c9 => absurd c9 (by decide)) (fun _ => ?_)
      refine g_aload_n C dX6_readPart_47 rfl hl 0 rfl ?_
      refine g_aload_n C dX6_readPart_48 rfl hl 1 rfl ?_
      refine g_iconst (a := 0) C dX6_readPart_49 rfl ?_
      refine g_ci C G (g_runV (As := [.ref (ad po), .int (iz 0)]) (rest := []) (pos := tr) C G (c_X6_readLayer l κ B n ad g tr tx T9 L9 q po nl v 0 (by omega) (by omega) (by omega) hrd htt (by omega) hL hT (by omega) hpl (by omega) (by omega) hok (by omega) (by omega) (by omega)) (cwV 2 C.1.2.2.2.2 gX6_readPart_X6_readLayer rfl rfl rfl (by decide +kernel) ⟨Nat.le_of_ble_eq_true rfl, Nat.le_of_ble_eq_true rfl⟩) (by omega) hrd (T := TX6) (N := 3) rfl rfl hl rfl (Nat.le_of_ble_eq_true rfl) dX6_readPart_50 ⟨Nat.le_of_ble_eq_true rfl, Nat.le_of_ble_eq_true rfl⟩) (fun z_6 g_7 H locs hw9 G => ?_)
      obtain ⟨h_8z, h_8r, h_8p, h_8f⟩ := hw9
      have hc_9 : g_7 tx = aCh κ 100 T9 := (h_8f _ (by omega) (by omega)).trans htt
      by_cases hb_10 : (rlS T9 L9 0 q nl v).1 = true
      · rw [if_pos hb_10] at h_8z
        subst h_8z
        refine g_if_eq (tgt := 60) C (by decide) dX6_readPart_53 (by decide) (fun c9 => absurd c9 (by decide)) (fun _ => ?_)
        refine g_iconst (a := 1) C dX6_readPart_56 rfl ?_
        refine g_goto (tgt := 61) C dX6_readPart_57 (by decide) ?_
        refine g_zret C G hr hlk (by decide) (Nat.le_of_ble_eq_true rfl) (Nat.le_of_ble_eq_true rfl) dX6_readPart_61 ?_
        have hfn : rpS T9 L9 q nl v = rlS T9 L9 0 q nl v := by
          unfold rpS
          rw [if_pos (show T9 q = 105 by omega), if_neg (by omega)]
        rw [hfn]
        refine ⟨(if_pos hb_10).symm, h_8r, h_8p, fun x hx1 hx2 => by
            refine (h_8f _ hx1 hx2).trans ?_
            try rfl⟩
      · rw [if_neg hb_10] at h_8z
        subst h_8z
        refine g_if_eq (tgt := 60) C (by decide) dX6_readPart_53 (by decide) (fun _ => ?_) (fun c9 => absurd c9 (by decide))
        refine g_iconst (a := 0) C dX6_readPart_60 rfl ?_
        refine g_zret C G hr hlk (by decide) (Nat.le_of_ble_eq_true rfl) (Nat.le_of_ble_eq_true rfl) dX6_readPart_61 ?_
        have hfn : rpS T9 L9 q nl v = rlS T9 L9 0 q nl v := by
          unfold rpS
          rw [if_pos (show T9 q = 105 by omega), if_neg (by omega)]
        rw [hfn]
        refine ⟨(if_neg hb_10).symm, h_8r, h_8p, fun x hx1 hx2 => by
            refine (h_8f _ hx1 hx2).trans ?_
            try rfl⟩
  by_cases e_11 : z_1 = 111
  · refine g_look (off := 58) (tgt := 62) C (by omega) dX6_readPart_4 rfl (by rw [e_11]; rfl) (by decide) ?_
    refine g_aload_n C dX6_readPart_62 rfl hl 1 rfl ?_
    refine g_ci C G (g_runV (As := []) (rest := []) (pos := po) C G (c_X4_isFull l κ B n ad g po nl v (by omega) hpl (by omega)) (cwV 0 C.1.2.2.2.2 gX6_readPart_X4_isFull rfl rfl rfl (by decide +kernel) ⟨Nat.le_of_ble_eq_true rfl, Nat.le_of_ble_eq_true rfl⟩) (by omega) hpl.1 (T := TX4) (N := 6) rfl rfl hl rfl (Nat.le_of_ble_eq_true rfl) dX6_readPart_63 ⟨Nat.le_of_ble_eq_true rfl, Nat.le_of_ble_eq_true rfl⟩) (fun z_13 g9 H locs hw G => ?_)
    obtain ⟨hg9, hw⟩ := hw
    replace hg9 := hg9.symm
    subst hg9
    rcases hw with ⟨b_12, rfl⟩ | ⟨b_12, rfl⟩
    · refine g_if_ne (tgt := 82) C (by decide) dX6_readPart_66 (by decide) (fun _ => ?_) (fun c9 => absurd c9 (by decide))
      refine g_iconst (a := 0) C dX6_readPart_82 rfl ?_
      refine g_zret C G hr hlk (by decide) (Nat.le_of_ble_eq_true rfl) (Nat.le_of_ble_eq_true rfl) dX6_readPart_83 ?_
      have hfn : rpS T9 L9 q nl v = (false, q, nl, v) := by
        unfold rpS
        rw [if_neg (show ¬ T9 q = 105 by omega), if_pos (show T9 q = 111 by omega), if_pos (by omega)]
      rw [hfn]
      refine ⟨rfl, hrd, hpl, fun x hx1 hx2 => by
          rfl⟩
    · refine g_if_ne (tgt := 82) C (by decide) dX6_readPart_66 (by decide) (fun c9 => absurd c9 (by decide)) (fun _ => ?_)
      refine g_aload_n C dX6_readPart_69 rfl hl 0 rfl ?_
      refine g_aload_n C dX6_readPart_70 rfl hl 1 rfl ?_
      refine g_iconst (a := 1) C dX6_readPart_71 rfl ?_
      refine g_ci C G (g_runV (As := [.ref (ad po), .int (iz 1)]) (rest := []) (pos := tr) C G (c_X6_readLayer l κ B n ad g tr tx T9 L9 q po nl v 1 (by omega) (by omega) (by omega) hrd htt (by omega) hL hT (by omega) hpl (by omega) (by omega) hok (by omega) (by omega) (by omega)) (cwV 2 C.1.2.2.2.2 gX6_readPart_X6_readLayer rfl rfl rfl (by decide +kernel) ⟨Nat.le_of_ble_eq_true rfl, Nat.le_of_ble_eq_true rfl⟩) (by omega) hrd (T := TX6) (N := 3) rfl rfl hl rfl (Nat.le_of_ble_eq_true rfl) dX6_readPart_72 ⟨Nat.le_of_ble_eq_true rfl, Nat.le_of_ble_eq_true rfl⟩) (fun z_14 g_15 H locs hw9 G => ?_)
      obtain ⟨h_16z, h_16r, h_16p, h_16f⟩ := hw9
      have hc_17 : g_15 tx = aCh κ 100 T9 := (h_16f _ (by omega) (by omega)).trans htt
      by_cases hb_18 : (rlS T9 L9 1 q nl v).1 = true
      · rw [if_pos hb_18] at h_16z
        subst h_16z
        refine g_if_eq (tgt := 82) C (by decide) dX6_readPart_75 (by decide) (fun c9 => absurd c9 (by decide)) (fun _ => ?_)
        refine g_iconst (a := 1) C dX6_readPart_78 rfl ?_
        refine g_goto (tgt := 83) C dX6_readPart_79 (by decide) ?_
        refine g_zret C G hr hlk (by decide) (Nat.le_of_ble_eq_true rfl) (Nat.le_of_ble_eq_true rfl) dX6_readPart_83 ?_
        have hfn : rpS T9 L9 q nl v = rlS T9 L9 1 q nl v := by
          unfold rpS
          rw [if_neg (show ¬ T9 q = 105 by omega), if_pos (show T9 q = 111 by omega), if_neg (by omega)]
        rw [hfn]
        refine ⟨(if_pos hb_18).symm, h_16r, h_16p, fun x hx1 hx2 => by
            refine (h_16f _ hx1 hx2).trans ?_
            try rfl⟩
      · rw [if_neg hb_18] at h_16z
        subst h_16z
        refine g_if_eq (tgt := 82) C (by decide) dX6_readPart_75 (by decide) (fun _ => ?_) (fun c9 => absurd c9 (by decide))
        refine g_iconst (a := 0) C dX6_readPart_82 rfl ?_
        refine g_zret C G hr hlk (by decide) (Nat.le_of_ble_eq_true rfl) (Nat.le_of_ble_eq_true rfl) dX6_readPart_83 ?_
        have hfn : rpS T9 L9 q nl v = rlS T9 L9 1 q nl v := by
          unfold rpS
          rw [if_neg (show ¬ T9 q = 105 by omega), if_pos (show T9 q = 111 by omega), if_neg (by omega)]
        rw [hfn]
        refine ⟨(if_neg hb_18).symm, h_16r, h_16p, fun x hx1 hx2 => by
            refine (h_16f _ hx1 hx2).trans ?_
            try rfl⟩
  by_cases e_19 : z_1 = 115
  · refine g_look (off := 80) (tgt := 84) C (by omega) dX6_readPart_4 rfl (by rw [e_19]; rfl) (by decide) ?_
    refine g_aload_n C dX6_readPart_84 rfl hl 1 rfl ?_
    refine g_get C G (pos := po) fX6_readPart_51 (by omega) hpl.1 rfl dX6_readPart_85 ?_
    refine g_bipush (a := 8) C dX6_readPart_88 (by decide) ?_
    refine g_icmp_ge (tgt := 105) C (by omega) (by decide) dX6_readPart_90 (by decide) (fun c_20 => ?_) (fun c_20 => ?_)
    · refine g_iconst (a := 0) C dX6_readPart_105 rfl ?_
      refine g_zret C G hr hlk (by decide) (Nat.le_of_ble_eq_true rfl) (Nat.le_of_ble_eq_true rfl) dX6_readPart_106 ?_
      have hfn : rpS T9 L9 q nl v = (false, q, nl, v) := by
        unfold rpS
        rw [if_neg (show ¬ T9 q = 105 by omega), if_neg (show ¬ T9 q = 111 by omega), if_pos (show T9 q = 115 by omega), if_pos (by omega)]
      rw [hfn]
      refine ⟨rfl, hrd, hpl, fun x hx1 hx2 => by
          rfl⟩
    · refine g_aload_n C dX6_readPart_93 rfl hl 0 rfl ?_
      refine g_aload_n C dX6_readPart_94 rfl hl 1 rfl ?_
      refine g_ci C G (g_runV (As := [.ref (ad po)]) (rest := []) (pos := tr) C G (c_X6_readSighting l κ B n ad g tr tx T9 L9 q po nl v (by omega) (by omega) (by omega) hrd htt (by omega) hL hT (by omega) hpl (by omega) (by omega) hok (by omega)) (cwV 1 C.1.2.2.2.2 gX6_readPart_X6_readSighting rfl rfl rfl (by decide +kernel) ⟨Nat.le_of_ble_eq_true rfl, Nat.le_of_ble_eq_true rfl⟩) (by omega) hrd (T := TX6) (N := 3) rfl rfl hl rfl (Nat.le_of_ble_eq_true rfl) dX6_readPart_95 ⟨Nat.le_of_ble_eq_true rfl, Nat.le_of_ble_eq_true rfl⟩) (fun z_21 g_22 H locs hw9 G => ?_)
      obtain ⟨h_23z, h_23r, h_23p, h_23f⟩ := hw9
      have hc_24 : g_22 tx = aCh κ 100 T9 := (h_23f _ (by omega) (by omega)).trans htt
      by_cases hb_25 : (rsS T9 L9 q nl v).1 = true
      · rw [if_pos hb_25] at h_23z
        subst h_23z
        refine g_if_eq (tgt := 105) C (by decide) dX6_readPart_98 (by decide) (fun c9 => absurd c9 (by decide)) (fun _ => ?_)
        refine g_iconst (a := 1) C dX6_readPart_101 rfl ?_
        refine g_goto (tgt := 106) C dX6_readPart_102 (by decide) ?_
        refine g_zret C G hr hlk (by decide) (Nat.le_of_ble_eq_true rfl) (Nat.le_of_ble_eq_true rfl) dX6_readPart_106 ?_
        have hfn : rpS T9 L9 q nl v = rsS T9 L9 q nl v := by
          unfold rpS
          rw [if_neg (show ¬ T9 q = 105 by omega), if_neg (show ¬ T9 q = 111 by omega), if_pos (show T9 q = 115 by omega), if_neg (by omega)]
        rw [hfn]
        refine ⟨(if_pos hb_25).symm, h_23r, h_23p, fun x hx1 hx2 => by
            refine (h_23f _ hx1 hx2).trans ?_
            try rfl⟩
      · rw [if_neg hb_25] at h_23z
        subst h_23z
        refine g_if_eq (tgt := 105) C (by decide) dX6_readPart_98 (by decide) (fun _ => ?_) (fun c9 => absurd c9 (by decide))
        refine g_iconst (a := 0) C dX6_readPart_105 rfl ?_
        refine g_zret C G hr hlk (by decide) (Nat.le_of_ble_eq_true rfl) (Nat.le_of_ble_eq_true rfl) dX6_readPart_106 ?_
        have hfn : rpS T9 L9 q nl v = rsS T9 L9 q nl v := by
          unfold rpS
          rw [if_neg (show ¬ T9 q = 105 by omega), if_neg (show ¬ T9 q = 111 by omega), if_pos (show T9 q = 115 by omega), if_neg (by omega)]
        rw [hfn]
        refine ⟨(if_neg hb_25).symm, h_23r, h_23p, fun x hx1 hx2 => by
            refine (h_23f _ hx1 hx2).trans ?_
            try rfl⟩
  refine g_look (off := 103) (tgt := 107) C (by omega) dX6_readPart_4 rfl (by simp only [Op.lookupswitch.offset]; rw [if_neg (by omega)]; rw [if_neg (by omega)]; rw [if_neg (by omega)]) (by decide) ?_
  refine g_iconst (a := 0) C dX6_readPart_107 rfl ?_
  refine g_zret C G hr hlk (by decide) (Nat.le_of_ble_eq_true rfl) (Nat.le_of_ble_eq_true rfl) dX6_readPart_108 ?_
  have hfn : rpS T9 L9 q nl v = (false, q, nl, v) := by
    unfold rpS
    rw [if_neg (show ¬ T9 q = 105 by omega), if_neg (show ¬ T9 q = 111 by omega), if_neg (show ¬ T9 q = 115 by omega)]
  rw [hfn]
  refine ⟨rfl, hrd, hpl, fun x hx1 hx2 => by
      rfl⟩
theorem fX6_readInto_23 : gFld wsX6_readInto RX6 23 6 2 := ⟨RX6, TX6, 3, rfl, by decide, by decide +kernel, by decide +kernel⟩
theorem fX6_readInto_15 : gFld wsX6_readInto RX6 15 6 1 := ⟨RX6, TX6, 3, rfl, by decide, by decide +kernel, by decide +kernel⟩
set_option maxHeartbeats 4000000 in
set_option maxRecDepth 100000 in
theorem c_X6_readInto (l : Launch) (κ : gKap) (B n : Nat) (ad : Nat → Nat) (g : Nat → va_E) (tr : Nat) (tx : Nat) (T9 : Int → Int) (L9 : Int) (po : Nat) (nl : Int) (v : Int → Int) (htr : tr < n) (htx : tx < n) (hne : tx ≠ tr) (hrd : g tr = .inr (6, [.ref (ad tx), .int (iz L9), .int (iz 0)])) (htt : g tx = aCh κ 100 T9) (hL : L9 ≤ 100) (hT : ∀ i, 0 ≤ i → i < 100 → 0 ≤ T9 i ∧ T9 i ≤ 255) (hL0 : 0 ≤ L9) (hpn : po + 10 ≤ n) (hpl : isPl κ ad g po nl v) (hdt : tr < po ∨ po + 10 ≤ tr) (hdx : tx < po ∨ po + 10 ≤ tx) (hiv : inV v) : Met l yX6_readInto wsX6_readInto ({ frames := 4, cells := 0, slots := 0, locals := 95 }) (gPre κ B n ad g [.ref (ad tr), .ref (ad po)]) (gQi κ B n ad (fun z g' => z = (rtS T9 L9 nl v).1 ∧ isPl κ ad g' po (rtS T9 L9 nl v).2.1 (rtS T9 L9 nl v).2.2 ∧ ∀ x, x ≠ tr → (x < po ∨ po + 10 ≤ x) → g' x = g x)) 0 0 (gFree B) := by
  refine g_met RX6 (cc := cX6_readInto) (maxL := 3) (ret := (some .int)) (by decide) rfl rfl (Nat.le_of_ble_eq_true rfl) ?_
  intro p e s m args below meth c C hr hlk hnm G ls hl
  have hl : lv_has ls 3 [(0, .ref (ad tr)), (1, .ref (ad po))] := hl
  refine g_aload_n C dX6_readInto_0 rfl hl 0 rfl ?_
  refine g_aload_n C dX6_readInto_1 rfl hl 1 rfl ?_
  refine g_ci C G (g_runV (As := [.ref (ad po)]) (rest := []) (pos := tr) C G (c_X6_readRing l κ B n ad g tr tx T9 L9 po nl v (by omega) (by omega) (by omega) hrd htt hL hT (by omega) (by omega) hpl (by omega) (by omega)) (cwV 1 C.1.2.2.2.2 gX6_readInto_X6_readRing rfl rfl rfl (by decide +kernel) ⟨Nat.le_of_ble_eq_true rfl, Nat.le_of_ble_eq_true rfl⟩) (by omega) hrd (T := TX6) (N := 3) rfl rfl hl rfl (Nat.le_of_ble_eq_true rfl) dX6_readInto_2 ⟨Nat.le_of_ble_eq_true rfl, Nat.le_of_ble_eq_true rfl⟩) (fun z_1 g_2 H locs hw9 G => ?_)
  obtain ⟨h_3z, h_3r, h_3p, h_3f⟩ := hw9
  have hc_4 : g_2 tx = aCh κ 100 T9 := (h_3f _ (by omega) (by omega)).trans htt
  by_cases hb_5 : (rgS T9 L9 nl v).1 = true
  · rw [if_pos hb_5] at h_3z
    subst h_3z
    refine g_if_ne (tgt := 13) C (by decide) dX6_readInto_5 (by decide) (fun _ => ?_) (fun c9 => absurd c9 (by decide))
    refine g_iconst (a := 0) C dX6_readInto_13 rfl ?_
    refine lv_istore_n (lv' := [(2, .int (iz 0)), (0, .ref (ad tr)), (1, .ref (ad po))]) C.1.1 C.1.2.1 dX6_readInto_14 rfl hl (by decide) rfl (fun ls hl => ?_)
    have lp_15_n_7 : ∀ (k_6 : Nat) (k : Int) (p9 : Int) (nl9 : Int) (V9 : Int → Int) (gv : Nat → va_E), (100 - k).toNat < k_6 → (0 ≤ k ∧ k ≤ 100) → (0 ≤ p9 ∧ p9 ≤ L9) → (okR nl9 V9) → (rdS T9 L9 (100 - k).toNat p9 nl9 V9 = (rtS T9 L9 nl v)) → (gv tr = .inr (6, [.ref (ad tx), .int (iz L9), .int (iz p9)])) → (isPl κ ad gv po nl9 V9) → (∀ x, x ≠ tr → (x < po ∨ po + 10 ≤ x) → gv x = g x) → ∀ (H : Heap) (locs : List Loc), gG κ B n ad s gv H locs → ∀ (ls : Array Slot), lv_has ls 3 [(0, .ref (ad tr)), (1, .ref (ad po)), (2, .int (iz k))] → W p l e ({ frames := 4, cells := 0, slots := 0, locals := 95 }) s m args below meth c H locs 0 0 (MQ below (gQi κ B n ad (fun z g' => z = (rtS T9 L9 nl v).1 ∧ isPl κ ad g' po (rtS T9 L9 nl v).2.1 (rtS T9 L9 nl v).2.2 ∧ ∀ x, x ≠ tr → (x < po ∨ po + 10 ≤ x) → g' x = g x)) args s 0 0 (gFree B)) (F0 m 15 ls []) := by
      intro k_6
      induction k_6 with
      | zero => intro k p9 nl9 V9 gv hm; exact absurd hm (Nat.not_lt_zero _)
      | succ k_6 ih_lp_15_n_7 =>
        intro k p9 nl9 V9 gv hm hk0 hp0 hok9 hR hrr hpp hff H locs G ls hl
        have ht9 : gv tx = aCh κ 100 T9 := (hff _ hne hdx).trans htt
        refine g_iload_n C dX6_readInto_15 rfl hl 2 rfl ?_
        refine g_bipush (a := 100) C dX6_readInto_16 (by decide) ?_
        refine g_icmp_ge (tgt := 51) C (by omega) (by decide) dX6_readInto_18 (by decide) (fun c_8 => ?_) (fun c_8 => ?_)
        · refine g_bipush (a := (-9)) C dX6_readInto_51 (by decide) ?_
          refine g_iret C G hr hlk (Nat.le_of_ble_eq_true rfl) (Nat.le_of_ble_eq_true rfl) dX6_readInto_53 ?_
          rw [rdS_end (by omega)] at hR
          rw [← hR]
          exact ⟨rfl, hpp, hff⟩
        · refine g_aload_n C dX6_readInto_21 rfl hl 0 rfl ?_
          refine g_get C G (pos := tr) fX6_readInto_23 (by omega) hrr rfl dX6_readInto_22 ?_
          refine g_aload_n C dX6_readInto_25 rfl hl 0 rfl ?_
          refine g_get C G (pos := tr) fX6_readInto_15 (by omega) hrr rfl dX6_readInto_26 ?_
          refine g_icmp_ge (tgt := 51) C (by omega) (by omega) dX6_readInto_29 (by decide) (fun c_9 => ?_) (fun c_9 => ?_)
          · refine g_bipush (a := (-9)) C dX6_readInto_51 (by decide) ?_
            refine g_iret C G hr hlk (Nat.le_of_ble_eq_true rfl) (Nat.le_of_ble_eq_true rfl) dX6_readInto_53 ?_
            rw [rdS_end (by omega)] at hR
            rw [← hR]
            exact ⟨rfl, hpp, hff⟩
          · refine g_aload_n C dX6_readInto_32 rfl hl 0 rfl ?_
            refine g_aload_n C dX6_readInto_33 rfl hl 1 rfl ?_
            refine g_ci C G (g_runV (As := [.ref (ad po)]) (rest := []) (pos := tr) C G (c_X6_readPart l κ B n ad gv tr tx T9 L9 p9 po nl9 V9 (by omega) (by omega) (by omega) hrr ht9 (by omega) hL hT (by omega) hpp (by omega) (by omega) hok9 (by omega)) (cwV 1 C.1.2.2.2.2 gX6_readInto_X6_readPart rfl rfl rfl (by decide +kernel) ⟨Nat.le_of_ble_eq_true rfl, Nat.le_of_ble_eq_true rfl⟩) (by omega) hrr (T := TX6) (N := 3) rfl rfl hl rfl (Nat.le_of_ble_eq_true rfl) dX6_readInto_34 ⟨Nat.le_of_ble_eq_true rfl, Nat.le_of_ble_eq_true rfl⟩) (fun z_10 g_11 H locs hw9 G => ?_)
            obtain ⟨h_12z, h_12r, h_12p, h_12f⟩ := hw9
            have hc_13 : g_11 tx = aCh κ 100 T9 := (h_12f _ (by omega) (by omega)).trans ht9
            by_cases hb_14 : (rpS T9 L9 p9 nl9 V9).1 = true
            · rw [if_pos hb_14] at h_12z
              subst h_12z
              refine g_if_ne (tgt := 45) C (by decide) dX6_readInto_37 (by decide) (fun _ => ?_) (fun c9 => absurd c9 (by decide))
              refine lv_iinc (v := iz (k + 1)) (lv' := [(2, .int (iz (k + 1))), (0, .ref (ad tr)), (1, .ref (ad po))]) C.1.1 C.1.2.1 dX6_readInto_45 hl (k := 2) rfl (g_inc (by omega)) (by decide) rfl (fun ls hl => ?_)
              refine g_goto (tgt := 15) C dX6_readInto_48 (by decide) ?_
              exact ih_lp_15_n_7 (k + 1) ((rpS T9 L9 p9 nl9 V9).2.1) ((rpS T9 L9 p9 nl9 V9).2.2.1) ((rpS T9 L9 p9 nl9 V9).2.2.2) g_11 (by omega) (by omega) (by have := rpS_ok (T9 := T9) ⟨hp0.1, by omega⟩ hL hok9; omega) (rpS_ok ⟨hp0.1, by omega⟩ hL hok9).2.1 (by rw [rdS_on (by omega) (by omega) hb_14] at hR; exact hR) h_12r h_12p (fun x hx1 hx2 => (h_12f x hx1 hx2).trans (hff x hx1 hx2)) _ _ G _ (lv_sub hl [1, 2, 0] rfl)
            · rw [if_neg hb_14] at h_12z
              subst h_12z
              refine g_if_ne (tgt := 45) C (by decide) dX6_readInto_37 (by decide) (fun c9 => absurd c9 (by decide)) (fun _ => ?_)
              refine g_aload_n C dX6_readInto_40 rfl hl 0 rfl ?_
              refine g_get C G (pos := tr) fX6_readInto_23 (by omega) h_12r rfl dX6_readInto_41 ?_
              refine g_iret C G hr hlk (Nat.le_of_ble_eq_true rfl) (Nat.le_of_ble_eq_true rfl) dX6_readInto_44 ?_
              rw [rdS_bad (by omega) (by omega) hb_14] at hR
              rw [← hR]
              exact ⟨rfl, h_12p, fun x hx1 hx2 => (h_12f x hx1 hx2).trans (hff x hx1 hx2)⟩
    exact lp_15_n_7 _ 0 ((rgS T9 L9 nl v).2.1) ((rgS T9 L9 nl v).2.2.1) ((rgS T9 L9 nl v).2.2.2) g_2 (Nat.lt_succ_self _) (by omega) (by have := rgS_ok (T9 := T9) (nl := nl) ⟨hL0, hL⟩ hiv hb_5; omega) (rgS_ok ⟨hL0, hL⟩ hiv hb_5).2.2 (by show rdS T9 L9 100 _ _ _ = _; unfold rtS; rw [if_pos hb_5]) h_3r h_3p h_3f _ _ G _ (lv_sub hl [1, 2, 0] rfl)
  · rw [if_neg hb_5] at h_3z
    subst h_3z
    refine g_if_ne (tgt := 13) C (by decide) dX6_readInto_5 (by decide) (fun c9 => absurd c9 (by decide)) (fun _ => ?_)
    refine g_aload_n C dX6_readInto_8 rfl hl 0 rfl ?_
    refine g_get C G (pos := tr) fX6_readInto_23 (by omega) h_3r rfl dX6_readInto_9 ?_
    refine g_iret C G hr hlk (Nat.le_of_ble_eq_true rfl) (Nat.le_of_ble_eq_true rfl) dX6_readInto_12 ?_
    have hfn : (rtS T9 L9 nl v) = ((rgS T9 L9 nl v).2.1, (rgS T9 L9 nl v).2.2.1, (rgS T9 L9 nl v).2.2.2) := if_neg hb_5
    rw [hfn]
    exact ⟨rfl, h_3p, h_3f⟩
theorem fwX6_init_9 : gFldW wsX6_init RX6 9 6 0 (.array .char) true := ⟨RX6, TX6, 3, tyX6, rfl, by decide, by decide +kernel, by decide +kernel, tyX6_ok, nmX6, rfl, by decide +kernel, by decide +kernel⟩
theorem fwX6_init_15 : gFldW wsX6_init RX6 15 6 1 .int true := ⟨RX6, TX6, 3, tyX6, rfl, by decide, by decide +kernel, by decide +kernel, tyX6_ok, nmX6, rfl, by decide +kernel, by decide +kernel⟩
set_option maxHeartbeats 4000000 in
set_option maxRecDepth 100000 in
theorem c_X6_init (l : Launch) (κ : gKap) (B n : Nat) (ad : Nat → Nat) (g : Nat → va_E) (tr : Nat) (tx : Nat) (L9 : Int) (htr : tr < n) (hrd : g tr = .inr (6, [.null, .int (iz 0), .int (iz 0)])) : Met l yX6_init wsX6_init ({ frames := 1, cells := 0, slots := 0, locals := 12 }) (gPre κ B n ad g [.ref (ad tr), .ref (ad tx), .int (iz L9)]) (gQv κ B n ad (fun g' => g' = va_up g tr (.inr (6, [.ref (ad tx), .int (iz L9), .int (iz 0)])))) 0 0 (gFree B) := by
  refine g_met RX6 (cc := cX6_init) (maxL := 3) (ret := none) (by decide) rfl rfl (Nat.le_of_ble_eq_true rfl) ?_
  intro p e s m args below meth c C hr hlk hnm G ls hl
  have hl : lv_has ls 3 [(0, .ref (ad tr)), (1, .ref (ad tx)), (2, .int (iz L9))] := hl
  refine g_aload_n C dX6_init_0 rfl hl 0 rfl ?_
  refine W.objInit C.1.1 C.1.2.1 C.1.2.2.2.1 (C.1.2.2.2.2 _ (by decide +kernel : Cond.methodLink RX6 3 objectInit ∈ wsX6_init)) (C.1.2.2.2.2 _ (by decide +kernel : Cond.instanceMethod objectInit ∈ wsX6_init)) (C.1.2.2.2.2 _ (by decide +kernel : Cond.code objectInit ⟨#[0xb1]⟩ 1 none ∈ wsX6_init)) rfl (by rw [C.1.2.2.1]; exact hl.1) rfl dX6_init_1 (Nat.le_of_ble_eq_true rfl) (Nat.le_of_ble_eq_true rfl) ?_
  refine W.eq (g2 := F0 m 4 ls []) rfl ?_
  refine g_aload_n C dX6_init_4 rfl hl 0 rfl ?_
  refine g_aload_n C dX6_init_5 rfl hl 1 rfl ?_
  refine g_putF C G hnm (pos := tr) (fs' := [.ref (ad tx), .int (iz 0), .int (iz 0)]) fwX6_init_9 (by omega) hrd (Nat.le_of_ble_eq_true rfl) rfl rfl rfl dX6_init_6 (fun H locs G => ?_)
  obtain ⟨g_1, hg_2⟩ : ∃ g9, g9 = va_up g tr (.inr (6, [.ref (ad tx), .int (iz 0), .int (iz 0)])) := ⟨_, rfl⟩
  rw [← hg_2] at G
  have hc_3 : g_1 tr = .inr (6, [.ref (ad tx), .int (iz 0), .int (iz 0)]) := by rw [hg_2]; exact gu_self _ _ _
  refine g_aload_n C dX6_init_9 rfl hl 0 rfl ?_
  refine g_iload_n C dX6_init_10 rfl hl 2 rfl ?_
  refine g_putF C G hnm (pos := tr) (fs' := [.ref (ad tx), .int (iz L9), .int (iz 0)]) fwX6_init_15 (by omega) hc_3 (Nat.le_of_ble_eq_true rfl) rfl rfl rfl dX6_init_11 (fun H locs G => ?_)
  obtain ⟨g_4, hg_5⟩ : ∃ g9, g9 = va_up g_1 tr (.inr (6, [.ref (ad tx), .int (iz L9), .int (iz 0)])) := ⟨_, rfl⟩
  rw [← hg_5] at G
  have hc_6 : g_4 tr = .inr (6, [.ref (ad tx), .int (iz L9), .int (iz 0)]) := by rw [hg_5]; exact gu_self _ _ _
  refine g_vret C G hr hlk (Nat.le_of_ble_eq_true rfl) (Nat.le_of_ble_eq_true rfl) dX6_init_14 ?_
  rw [hg_5, hg_2, gu_up]
