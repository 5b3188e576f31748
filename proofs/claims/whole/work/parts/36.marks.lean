/-! MARKS: a set of points told one by one -/
theorem cntS_add {S : Int → Int → Prop} {a0 r0 : Int} (ha : 0 ≤ a0 ∧ a0 < 128) (hr : 0 ≤ r0 ∧ r0 ≤ 300) (hn : ¬ S a0 r0) : cntS (fun a r => S a r ∨ (a = a0 ∧ r = r0)) = cntS S + 1 := by
  obtain ⟨i, hi⟩ : ∃ i : Nat, i = (2 * r0 + a0 / 64).toNat := ⟨_, rfl⟩
  obtain ⟨b0, hb⟩ : ∃ b0 : Nat, b0 = (a0 % 64).toNat := ⟨_, rfl⟩
  have hi6 : i < 602 := by omega
  have hb6 : b0 < 64 := by omega
  have q1 : 64 * ((i : Int) % 2) + (b0 : Int) = a0 := by omega
  have q2 : (i : Int) / 2 = r0 := by omega
  have e1 : cntS (fun a r => S a r ∨ (a = a0 ∧ r = r0)) = fb_sm (fun j => if j = i then fb_ct (fun k => if k = b0 then true else dB (S (64 * ((i : Int) % 2) + k) ((i : Int) / 2))) 64 else fb_ct (fun b => dB (S (64 * ((j : Int) % 2) + b) ((j : Int) / 2))) 64) 602 := by
    refine fb_sm_cong fun j hj => ?_
    by_cases h : j = i
    · rw [if_pos h]
      subst h
      refine fb_ct_cong fun b hb9 => ?_
      by_cases hk : b = b0
      · rw [if_pos hk]
        subst hk
        exact dB_iff.mpr (Or.inr ⟨q1, q2⟩)
      · rw [if_neg hk]
        exact dB_congr ⟨fun q => q.elim id (fun q => absurd (show b = b0 by omega) hk), Or.inl⟩
    · rw [if_neg h]
      exact fb_ct_cong fun b hb9 => dB_congr ⟨fun q => q.elim id (fun q => absurd (show j = i by omega) h), Or.inl⟩
  have e2 := fb_sm_upd (fun j : Nat => fb_ct (fun b => dB (S (64 * ((j : Int) % 2) + b) ((j : Int) / 2))) 64) (fb_ct (fun k => if k = b0 then true else dB (S (64 * ((i : Int) % 2) + k) ((i : Int) / 2))) 64) hi6
  have e3 := fb_ct_upd (fun k : Nat => dB (S (64 * ((i : Int) % 2) + k) ((i : Int) / 2))) true hb6
  have e4 : dB (S (64 * ((i : Int) % 2) + (b0 : Int)) ((i : Int) / 2)) = false := by
    rw [q1, q2]
    cases h : dB (S a0 r0) with
    | false => rfl
    | true => exact absurd (dB_iff.mp h) hn
  have e5 : cntS S = fb_sm (fun j : Nat => fb_ct (fun b => dB (S (64 * ((j : Int) % 2) + b) ((j : Int) / 2))) 64) 602 := rfl
  rw [e1, e5]
  simp only [e4, if_true, Bool.false_eq_true, if_false, Nat.add_zero] at e3
  omega
theorem cntS_none {S : Int → Int → Prop} (h : ∀ a r, 0 ≤ a → a < 128 → 0 ≤ r → r ≤ 300 → ¬ S a r) : cntS S = 0 := by
  have e1 : cntS S = fb_sm (fun _ => 0) 602 := by
    refine fb_sm_cong fun j hj => fb_ct_zero.mpr fun k hk => ?_
    cases h9 : dB (S (64 * ((j : Int) % 2) + k) ((j : Int) / 2)) with
    | false => rfl
    | true => exact absurd (dB_iff.mp h9) (h _ _ (by omega) (by omega) (by omega) (by omega))
  rw [e1, fb_sm_const]
