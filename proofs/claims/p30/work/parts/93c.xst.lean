theorem zi_iff {a b : Bool} (h : a = true ↔ b = true) : a = b := Bool.eq_iff_iff.mpr h
/-- both sides begin alike -/
theorem z_bgn_X (q : zR) (x : Nat) : z_fa q &&& z_ta q x = z_bgn q 0 x := by
  apply zs_ext
  intro j
  unfold z_bgn z_take z_ta z_fa
  rw [Nat.testBit_and, zs_mk_bit, zs_mk_bit]
  have e : (zs_or (fun r => if Nat.testBit 0 r then 0 else z_fst q r) (z_nR q)) = zs_or (z_fst q) (z_nR q) := zs_or_congr (fun r _ => by simp)
  rw [e]
  cases (zs_or (z_fst q) (z_nR q)).testBit j <;> cases hj : decide (j < z_nP q) <;> cases (z_tk q j == 6) <;> cases (z_tk q j == x) <;> simp
/-- a rule's places left out of what is begun -/
theorem z_bgn_wo {q : zR} (hq : zW q) {r x : Nat} (hr : r < z_nR q) : (z_fa q &&& z_ta q x) ^^^ ((z_fa q &&& z_ta q x) &&& z_of q r) = z_bgn q (2 ^ r) x := by
  apply zs_ext
  intro j
  rw [zs_nan_bit, z_bgn_X]
  unfold z_bgn z_take
  rw [zs_mk_bit, zs_mk_bit]
  have key : ((zs_or (fun s => if (2 ^ r).testBit s then 0 else z_fst q s) (z_nR q)).testBit j = true) ↔ ((zs_or (fun s => if Nat.testBit 0 s then 0 else z_fst q s) (z_nR q)).testBit j = true ∧ (z_of q r).testBit j = false) := by
    rw [zs_or_bit, zs_or_bit]
    constructor
    · rintro ⟨s, h1, h2⟩
      by_cases e : s = r
      · subst e; simp at h2
      · have h3 : (2 ^ r).testBit s = false := by rw [Nat.testBit_two_pow]; simp; omega
        rw [h3] at h2
        have h2' : (z_fst q s).testBit j = true := by simpa using h2
        refine ⟨⟨s, h1, by simpa using h2'⟩, ?_⟩
        cases h4 : (z_of q r).testBit j with
        | false => rfl
        | true => exact absurd (hq.2.2.2.2.2 s r j h1 hr ((hq.2.2.2.1 s h1).2.2.2 j h2') h4) e
    · rintro ⟨⟨s, h1, h2⟩, h3⟩
      have h2' : (z_fst q s).testBit j = true := by simpa using h2
      refine ⟨s, h1, ?_⟩
      have e : s ≠ r := fun e => by
        subst e
        have := (hq.2.2.2.1 s h1).2.2.2 j h2'
        rw [h3] at this; cases this
      have h4 : (2 ^ r).testBit s = false := by rw [Nat.testBit_two_pow]; simp; omega
      rw [h4]
      exact h2'
  cases h1 : (zs_or (fun s => if (2 ^ r).testBit s then 0 else z_fst q s) (z_nR q)).testBit j with
  | true =>
    obtain ⟨h2, h3⟩ := key.mp h1
    rw [h2, h3]; simp
  | false =>
    cases h2 : (zs_or (fun s => if Nat.testBit 0 s then 0 else z_fst q s) (z_nR q)).testBit j with
    | false => simp
    | true =>
      cases h3 : (z_of q r).testBit j with
      | true => simp
      | false => rw [key.mpr ⟨h2, h3⟩] at h1; cases h1
theorem zk_1 : ∀ a, a < 4 → ((a &&& 2 = 0) ↔ ¬ 1 < a) := by decide
theorem zk_2 : ∀ a, a < 4 → ((a &&& 1 = 0) ↔ ¬ a % 2 = 1) := by decide
/-- both sides go on alike -/
theorem z_go_X {q : zR} {kn : Nat → Nat} (hq : zW q) (hk : ∀ r, r < 4 → kn r < 4) (s x : Nat) : z_goX q kn s x = z_go q kn s x := by
  apply zs_ext
  intro j
  have hR : z_nR q ≤ 4 := hq.2.1
  have hP : z_nP q ≤ 10 := hq.2.2.1
  unfold z_goX z_go
  rw [Nat.testBit_or, Bool.or_eq_true, zs_or_bit, zs_or_bit]
  constructor
  · rintro (h | ⟨p, hp, h⟩)
    · by_cases e : x = 5
      · rw [if_pos e, Nat.testBit_and, Bool.and_eq_true] at h
        obtain ⟨h1, h2⟩ := h
        unfold z_lo at h2
        obtain ⟨r, hr, h3⟩ := (zs_or_bit _ _ _).mp h2
        unfold z_lor at h3
        by_cases e2 : kn r &&& 1 = 0
        · rw [if_pos e2] at h3; simp at h3
        · rw [if_neg e2] at h3
          refine ⟨r, hr, ?_⟩
          unfold z_go1
          rw [if_pos ⟨e, Classical.byContradiction fun z => e2 ((zk_2 _ (hk r (by omega))).mpr z)⟩, Nat.testBit_or, Nat.testBit_and, h1, h3]
          simp
      · rw [if_neg e] at h; simp at h
    · by_cases e : s.testBit p = true
      · rw [if_pos e, Nat.testBit_and, Bool.and_eq_true] at h
        obtain ⟨h1, h2⟩ := h
        unfold z_on z_onU at h1
        by_cases e2 : (zs_or (z_let q kn) (z_nR q)).testBit p = true
        · rw [if_pos e2] at h1
          obtain ⟨r, hr, h3⟩ := (zs_or_bit _ _ _).mp e2
          have hpP : p < z_nP q := zs_lt_bit (z_let_lt hq kn hr) h3
          unfold z_ta at h2
          rw [zs_mk_bit] at h2
          refine ⟨r, hr, ?_⟩
          unfold z_go1
          rw [Nat.testBit_or, Bool.or_eq_true]
          refine Or.inl ?_
          unfold z_take
          rw [zs_mk_bit]
          have h4 : (zs_or (fun p => if (z_from q kn s r).testBit p then z_bh q p else 0) (z_nP q)).testBit j = true := by
            rw [zs_or_bit]
            refine ⟨p, hpP, ?_⟩
            have h5 : (z_from q kn s r).testBit p = true := by
              unfold z_let at h3
              unfold z_from
              by_cases e3 : kn r &&& 2 = 0
              · rw [if_pos e3] at h3
                rw [if_neg ((zk_1 _ (hk r (by omega))).mp e3), Nat.testBit_and, e, h3]; rfl
              · rw [if_neg e3, zs_nan_bit] at h3
                have h3' : (z_of q r).testBit p = true ∧ (z_whl q r).testBit p = false := by simpa using h3
                rw [if_pos (Classical.byContradiction fun z => e3 ((zk_1 _ (hk r (by omega))).mpr z)), zs_nan_bit, Nat.testBit_and, e, h3'.1, h3'.2]; rfl
            rw [h5, if_pos rfl]; exact h1
          rw [h4]
          have h2' : j < z_nP q ∧ ((z_tk q j == x) = true ∨ (z_tk q j == 6) = true) := by simpa using h2
          simp only [h2'.1, decide_true, Bool.true_and, Bool.or_eq_true]
          exact h2'.2.symm
        · rw [if_neg e2] at h1; simp at h1
      · rw [if_neg e] at h; simp at h
  · rintro ⟨r, hr, h⟩
    unfold z_go1 at h
    rw [Nat.testBit_or, Bool.or_eq_true] at h
    rcases h with h | h
    · refine Or.inr ?_
      unfold z_take at h
      rw [zs_mk_bit] at h
      have h' : j < z_nP q ∧ (zs_or (fun p => if (z_from q kn s r).testBit p then z_bh q p else 0) (z_nP q)).testBit j = true ∧ ((z_tk q j == 6) = true ∨ (z_tk q j == x) = true) := by
        simpa using h
      obtain ⟨p, hp, h2⟩ := (zs_or_bit _ _ _).mp h'.2.1
      by_cases e : (z_from q kn s r).testBit p = true
      · rw [if_pos e] at h2
        refine ⟨p, by omega, ?_⟩
        have hs : s.testBit p = true ∧ (z_let q kn r).testBit p = true := by
          unfold z_from at e
          unfold z_let
          by_cases e3 : kn r &&& 2 = 0
          · rw [if_neg ((zk_1 _ (hk r (by omega))).mp e3), Nat.testBit_and, Bool.and_eq_true] at e
            rw [if_pos e3]; exact e
          · rw [if_pos (Classical.byContradiction fun z => e3 ((zk_1 _ (hk r (by omega))).mpr z)), zs_nan_bit, Nat.testBit_and] at e
            have e' : (s.testBit p = true ∧ (z_of q r).testBit p = true) ∧ (z_whl q r).testBit p = false := by simpa using e
            rw [if_neg e3, zs_nan_bit]
            exact ⟨e'.1.1, by rw [e'.1.2, e'.2]; rfl⟩
        rw [if_pos hs.1, Nat.testBit_and]
        unfold z_on z_onU z_ta
        rw [if_pos ((zs_or_bit _ _ _).mpr ⟨r, hr, hs.2⟩), h2, zs_mk_bit]
        simp only [h'.1, decide_true, Bool.true_and, Bool.or_eq_true]
        exact h'.2.2.symm
      · rw [if_neg e] at h2; simp at h2
    · by_cases e : x = 5 ∧ kn r % 2 = 1
      · rw [if_pos e, Nat.testBit_and, Bool.and_eq_true] at h
        refine Or.inl ?_
        rw [if_pos e.1, Nat.testBit_and, h.1]
        unfold z_lo
        rw [(zs_or_bit _ _ _).mpr ⟨r, hr, by unfold z_lor; rw [if_neg (fun z => (zk_2 _ (hk r (by omega))).mp z e.2)]; exact h.2⟩]
        rfl
      · rw [if_neg e] at h; simp at h

