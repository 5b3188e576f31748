/-! THE LAW: its loop -/
theorem LI.up {κ : gKap} {ad : Nat → Nat} {g : Nat → va_E} {th b9 c9 : Int} (h : LI κ ad g th b9) (hb : b9 ≤ c9) : LI κ ad g th c9 := by
  obtain ⟨tl, nl, ns, old, cnt, m0, m1, s0, s1, T9, v, vs, f, w0, w1, F9, pa, sv, P9, h1, h2, h3⟩ := h
  exact ⟨tl, nl, ns, old, cnt, m0, m1, s0, s1, T9, v, vs, f, w0, w1, F9, pa, sv, P9, h1, h2, h3.up hb⟩
section LAWL
variable {p : Program} {l : Launch} {e : Env} {s : State} {m : MethodId} {args : Array Value} {below : List Frame} {meth : Method} {c : Code} {Q : State → Prop} {κ : gKap} {B : Nat} {ad : Nat → Nat} {b L : Nat} {xs : Nat → Int32}
set_option maxHeartbeats 4000000 in
set_option maxRecDepth 100000 in
theorem law_loop (hlf : l.stackTraces = false) (C : gC p c cL_law 7 s m args wsL_law RL κ B 201 ad) (X : gX B s) (N9 : gNc s) (hXs : va_X b L xs s s.heap) (hbl : b < s.heap.size) (hB : B = s.heap.size) (hL : L ≤ 2560) (hend : ∀ (g : Nat → va_E) (H : Heap) (locs : List Loc) (ls : Array Slot), gG κ B 201 ad s g H locs → W p l e room_1 s m args below meth c H locs 3000 60000 Q (F0 m 1956 ls [])) :
    ∀ (k j : Nat) (g : Nat → va_E) (th : Int) (H : Heap) (locs : List Loc) (ls : Array Slot), 512 < j + k → 5 * j ≤ L → LI κ ad g th (1000 * (j : Int)) → (∃ o9 : Int → Int64, g 200 = aJ κ 1 o9) → gG κ B 201 ad s g H locs → lv_has ls 7 [(4, .int (iz (5 * (j : Int)))), (0, .ref b), (1, .ref (ad 0)), (2, .ref (ad 192)), (3, .ref (ad 200))] → W p l e room_1 s m args below meth c H locs (210 + 3 * j) (33000 + 15 * j) Q (F0 m 23 ls [])
  | 0, j, g, th, H, locs, ls, hk, hj0, _, _, _, _ => absurd hk (by omega)
  | k + 1, j, g, th, H, locs, ls, hk, hj0, h, ⟨o9, ho⟩, G, hl => by
    refine g_iload C dL_law_23 hl 0 rfl ?_
    refine g_aload_n C dL_law_25 rfl hl 1 rfl ?_
    refine g_slen C G hXs hbl hB dL_law_26 ?_
    refine g_iconst (a := 5) C dL_law_27 rfl ?_
    refine g_isub C dL_law_28 ?_
    refine g_icmp_gt (tgt := 1956) C (by omega) (by omega) dL_law_29 (by decide) (fun hx => ?_) (fun hx => ?_)
    · exact W.widen (k := 3000) (n := 60000) (by omega) (by omega) (hend g H locs ls G)
    · have hj : 5 * j + 5 ≤ L := by omega
      have K : ∀ (g : Nat → va_E) (th : Int) (H : Heap) (locs : List Loc) (ls : Array Slot), LI κ ad g th (1000 * (j : Int) + 1000) → (∃ o9 : Int → Int64, g 200 = aJ κ 1 o9) → gG κ B 201 ad s g H locs → lv_has ls 7 [(4, .int (iz (5 * (j : Int)))), (0, .ref b), (1, .ref (ad 0)), (2, .ref (ad 192)), (3, .ref (ad 200))] → W p l e room_1 s m args below meth c H locs (210 + 3 * j + 3) (33000 + 15 * j + 15) Q (F0 m 1950 ls []) := fun g th H locs ls h ho G hl => by
        refine lv_iinc (v := iz (5 * ((j + 1 : Nat) : Int))) (lv' := [(4, .int (iz (5 * ((j + 1 : Nat) : Int)))), (0, .ref b), (1, .ref (ad 0)), (2, .ref (ad 192)), (3, .ref (ad 200))]) C.1.1 C.1.2.1 dL_law_1950 hl (k := 0) rfl ((Int32.ofInt_add _ _).symm.trans (congrArg _ (by omega))) (by decide) rfl (fun ls hl => ?_)
        refine g_goto (tgt := 23) C dL_law_1953 (by decide) ?_
        exact W.widen (k := 210 + 3 * (j + 1)) (n := 33000 + 15 * (j + 1)) (by omega) (by omega) (law_loop hlf C X N9 hXs hbl hB hL hend k (j + 1) g th H locs ls (by omega) (by omega) (by rw [show 1000 * ((j + 1 : Nat) : Int) = 1000 * (j : Int) + 1000 by omega]; exact h) ho G hl)
      refine g_aload_n C dL_law_32 rfl hl 1 rfl ?_
      refine g_iload C dL_law_33 hl 0 rfl ?_
      refine g_sld C G hXs hbl hB (by omega) (by omega) hL dL_law_35 ?_
      refine g_bipush (a := 31) C dL_law_36 rfl ?_
      refine lv_iand C.1.1 C.1.2.1 dL_law_38 ?_
      rw [iz_and31]
      by_cases e0 : sxF xs (5 * (j : Int)) % 32 = 0
      · exact g_tswIn (v := 0) (off := 133) (tgt := 172) C dL_law_39 e0 (by decide) (by decide) (by decide) (by decide) (by decide) (lc_append hlf C X N9 hXs hbl hB hL hj h ho G hl K)
      by_cases e1 : sxF xs (5 * (j : Int)) % 32 = 1
      · exact g_tswIn (v := 1) (off := 189) (tgt := 228) C dL_law_39 e1 (by decide) (by decide) (by decide) (by decide) (by decide) (lc_clearText hlf C X N9 hXs hbl hB hL hj h ho G hl K)
      by_cases e2 : sxF xs (5 * (j : Int)) % 32 = 2
      · exact g_tswIn (v := 2) (off := 202) (tgt := 241) C dL_law_39 e2 (by decide) (by decide) (by decide) (by decide) (by decide) (lc_errorPosition hlf C X N9 hXs hbl hB hL hj h ho G hl K)
      by_cases e3 : sxF xs (5 * (j : Int)) % 32 = 3
      · exact g_tswIn (v := 3) (off := 215) (tgt := 254) C dL_law_39 e3 (by decide) (by decide) (by decide) (by decide) (by decide) (lc_load hlf C X N9 hXs hbl hB hL hj h ho G hl K)
      by_cases e4 : sxF xs (5 * (j : Int)) % 32 = 4
      · exact g_tswIn (v := 4) (off := 259) (tgt := 298) C dL_law_39 e4 (by decide) (by decide) (by decide) (by decide) (by decide) (lc_about hlf C X N9 hXs hbl hB hL hj h ho G hl K)
      by_cases e5 : sxF xs (5 * (j : Int)) % 32 = 5
      · exact g_tswIn (v := 5) (off := 315) (tgt := 354) C dL_law_39 e5 (by decide) (by decide) (by decide) (by decide) (by decide) (lc_layer hlf C X N9 hXs hbl hB hL hj h ho G hl K)
      by_cases e6 : sxF xs (5 * (j : Int)) % 32 = 6
      · exact g_tswIn (v := 6) (off := 383) (tgt := 422) C dL_law_39 e6 (by decide) (by decide) (by decide) (by decide) (by decide) (lc_pen hlf C X N9 hXs hbl hB hL hj h ho G hl K)
      by_cases e7 : sxF xs (5 * (j : Int)) % 32 = 7
      · exact g_tswIn (v := 7) (off := 483) (tgt := 522) C dL_law_39 e7 (by decide) (by decide) (by decide) (by decide) (by decide) (lc_comes hlf C X N9 hXs hbl hB hL hj h ho G hl K)
      by_cases e8 : sxF xs (5 * (j : Int)) % 32 = 8
      · exact g_tswIn (v := 8) (off := 563) (tgt := 602) C dL_law_39 e8 (by decide) (by decide) (by decide) (by decide) (by decide) (lc_at hlf C X N9 hXs hbl hB hL hj h ho G hl K)
      by_cases e9 : sxF xs (5 * (j : Int)) % 32 = 9
      · exact g_tswIn (v := 9) (off := 619) (tgt := 658) C dL_law_39 e9 (by decide) (by decide) (by decide) (by decide) (by decide) (lc_blank hlf C X N9 hXs hbl hB hL hj h ho G hl K)
      by_cases e10 : sxF xs (5 * (j : Int)) % 32 = 10
      · exact g_tswIn (v := 10) (off := 632) (tgt := 671) C dL_law_39 e10 (by decide) (by decide) (by decide) (by decide) (by decide) (lc_together hlf C X N9 hXs hbl hB hL hj h ho G hl K)
      by_cases e11 : sxF xs (5 * (j : Int)) % 32 = 11
      · exact g_tswIn (v := 11) (off := 646) (tgt := 685) C dL_law_39 e11 (by decide) (by decide) (by decide) (by decide) (by decide) (lc_order hlf C X N9 hXs hbl hB hL hj h ho G hl K)
      by_cases e12 : sxF xs (5 * (j : Int)) % 32 = 12
      · exact g_tswIn (v := 12) (off := 702) (tgt := 741) C dL_law_39 e12 (by decide) (by decide) (by decide) (by decide) (by decide) (lc_sighting hlf C X N9 hXs hbl hB hL hj h ho G hl K)
      by_cases e13 : sxF xs (5 * (j : Int)) % 32 = 13
      · exact g_tswIn (v := 13) (off := 770) (tgt := 809) C dL_law_39 e13 (by decide) (by decide) (by decide) (by decide) (by decide) (lc_common hlf C X N9 hXs hbl hB hL hj h ho G hl K)
      by_cases e14 : sxF xs (5 * (j : Int)) % 32 = 14
      · exact g_tswIn (v := 14) (off := 838) (tgt := 877) C dL_law_39 e14 (by decide) (by decide) (by decide) (by decide) (by decide) (lc_meet hlf C X N9 hXs hbl hB hL hj h ho G hl K)
      by_cases e15 : sxF xs (5 * (j : Int)) % 32 = 15
      · exact g_tswIn (v := 15) (off := 906) (tgt := 945) C dL_law_39 e15 (by decide) (by decide) (by decide) (by decide) (by decide) (lc_turned hlf C X N9 hXs hbl hB hL hj h ho G hl K)
      by_cases e16 : sxF xs (5 * (j : Int)) % 32 = 16
      · exact g_tswIn (v := 16) (off := 974) (tgt := 1013) C dL_law_39 e16 (by decide) (by decide) (by decide) (by decide) (by decide) (lc_setRing hlf C X N9 hXs hbl hB hL hj h ho G hl K)
      by_cases e17 : sxF xs (5 * (j : Int)) % 32 = 17
      · exact g_tswIn (v := 17) (off := 1030) (tgt := 1069) C dL_law_39 e17 (by decide) (by decide) (by decide) (by decide) (by decide) (lc_addLayer hlf C X N9 hXs hbl hB hL hj h ho G hl K)
      by_cases e18 : sxF xs (5 * (j : Int)) % 32 = 18
      · exact g_tswIn (v := 18) (off := 1122) (tgt := 1161) C dL_law_39 e18 (by decide) (by decide) (by decide) (by decide) (by decide) (lc_change hlf C X N9 hXs hbl hB hL hj h ho G hl K)
      by_cases e19 : sxF xs (5 * (j : Int)) % 32 = 19
      · exact g_tswIn (v := 19) (off := 1202) (tgt := 1241) C dL_law_39 e19 (by decide) (by decide) (by decide) (by decide) (by decide) (lc_remove hlf C X N9 hXs hbl hB hL hj h ho G hl K)
      by_cases e20 : sxF xs (5 * (j : Int)) % 32 = 20
      · exact g_tswIn (v := 20) (off := 1258) (tgt := 1297) C dL_law_39 e20 (by decide) (by decide) (by decide) (by decide) (by decide) (lc_see hlf C X N9 hXs hbl hB hL hj h ho G hl K)
      by_cases e21 : sxF xs (5 * (j : Int)) % 32 = 21
      · exact g_tswIn (v := 21) (off := 1326) (tgt := 1365) C dL_law_39 e21 (by decide) (by decide) (by decide) (by decide) (by decide) (lc_forget hlf C X N9 hXs hbl hB hL hj h ho G hl K)
      by_cases e22 : sxF xs (5 * (j : Int)) % 32 = 22
      · exact g_tswIn (v := 22) (off := 1339) (tgt := 1378) C dL_law_39 e22 (by decide) (by decide) (by decide) (by decide) (by decide) (lc_undo hlf C X N9 hXs hbl hB hL hj h ho G hl K)
      by_cases e23 : sxF xs (5 * (j : Int)) % 32 = 23
      · exact g_tswIn (v := 23) (off := 1383) (tgt := 1422) C dL_law_39 e23 (by decide) (by decide) (by decide) (by decide) (by decide) (lc_bestStart hlf C X N9 hXs hbl hB hL hj h ho G hl K)
      by_cases e24 : sxF xs (5 * (j : Int)) % 32 = 24
      · exact g_tswIn (v := 24) (off := 1451) (tgt := 1490) C dL_law_39 e24 (by decide) (by decide) (by decide) (by decide) (by decide) (lc_wheels hlf C X N9 hXs hbl hB hL hj h ho G hl K)
      by_cases e25 : sxF xs (5 * (j : Int)) % 32 = 25
      · exact g_tswIn (v := 25) (off := 1543) (tgt := 1582) C dL_law_39 e25 (by decide) (by decide) (by decide) (by decide) (by decide) (lc_wheelFor hlf C X N9 hXs hbl hB hL hj h ho G hl K)
      by_cases e26 : sxF xs (5 * (j : Int)) % 32 = 26
      · exact g_tswIn (v := 26) (off := 1599) (tgt := 1638) C dL_law_39 e26 (by decide) (by decide) (by decide) (by decide) (by decide) (lc_runScript hlf C X N9 hXs hbl hB hL hj h ho G hl K)
      by_cases e27 : sxF xs (5 * (j : Int)) % 32 = 27
      · exact g_tswIn (v := 27) (off := 1699) (tgt := 1738) C dL_law_39 e27 (by decide) (by decide) (by decide) (by decide) (by decide) (lc_simulate hlf C X N9 hXs hbl hB hL hj h ho G hl K)
      by_cases e28 : sxF xs (5 * (j : Int)) % 32 = 28
      · exact g_tswIn (v := 28) (off := 1799) (tgt := 1838) C dL_law_39 e28 (by decide) (by decide) (by decide) (by decide) (by decide) (lc_save hlf C X N9 hXs hbl hB hL hj h ho G hl K)
      by_cases e29 : sxF xs (5 * (j : Int)) % 32 = 29
      · exact g_tswIn (v := 29) (off := 1855) (tgt := 1894) C dL_law_39 e29 (by decide) (by decide) (by decide) (by decide) (by decide) (lc_restore hlf C X N9 hXs hbl hB hL hj h ho G hl K)
      exact g_tswOut (tgt := 1950) C (by omega) dL_law_39 (by omega) (by decide) (W.widen (by omega) (by omega) (K g th H locs ls (h.up (by omega)) ⟨o9, ho⟩ G hl))
end LAWL
