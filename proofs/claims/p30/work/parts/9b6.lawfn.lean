/-! the law's own methods: numbers, sets of places, stands -/
theorem zn_land (v : Int32) : ∃ b, b < 2147483648 ∧ v &&& nI 2147483647 = nI b := by
  refine ⟨v.toBitVec.toNat &&& 2147483647, ?_, ?_⟩
  · have h := Nat.and_lt_two_pow v.toBitVec.toNat (n := 31) (y := 2147483647) (by decide)
    have e : (2 : Nat) ^ 31 = 2147483648 := by decide
    omega
  · rw [← zn_and, ← zn_self v]
theorem sl_low {v : Int32} {n : Nat} {K : Int32 → Prop} (hn : 0 < n) (h2 : n < 2147483648) (h : ∀ a, a < n → K (nI a)) : wp_L_low v (nI n) K := by
  obtain ⟨b, hb, e⟩ := zn_land v
  unfold wp_L_low
  rw [e, zn_eq0 h2, zn_rem hb hn h2]
  exact ⟨by omega, h _ (Nat.mod_lt _ hn)⟩
theorem sl_cell {L j : Nat} {xs : zF} {K : Int32 → Prop} (hL : L < 2147483648) (hj : j < 2147483648) (h : ∀ v, K v) : wp_L_cell L xs (nI j) K := by
  unfold wp_L_cell
  rw [zn_le hL hj, zn_in hj]
  exact ⟨fun _ => h _, fun e => ⟨by omega, h _⟩⟩
theorem sl_unary {v : Int32} {K : Int32 → Prop} (h0 : K (nI 0)) (h1 : K (nI 42)) (h2 : K (nI 43)) (h3 : K (nI 63)) : wp_L_unary v K := by
  unfold wp_L_unary
  exact sl_low (by decide) (by decide) (fun a ha => ⟨fun _ => sl_low (by decide) (by decide) (fun b hb => ⟨fun _ => sl_low (by decide) (by decide) (fun c hc => ⟨fun _ => h0, fun _ => h3⟩), fun _ => h2⟩), fun _ => h1⟩)
theorem sl_sign {n p : Nat} {x : zF} {c : Int32} {K : Int32 → zF → Prop} (hp : p < n) (hn : n < 2147483648) (h : K (nI (p + 1)) (upd x p c)) : wp_L_sign n x (nI p) c K := by
  unfold wp_L_sign
  rw [zn_in (by omega), zn_cl (by omega)]
  refine ⟨hp, ?_⟩
  rintro _ rfl
  rw [zn_add]
  exact h
theorem sl_into {x y : zF} {K : zF → Prop} (h : ∀ y' : zF, (∀ j, j < 61 → y' j = x j) → K y') : wp_L_into 61 61 x y K := by
  unfold wp_L_into
  intro E hE
  refine zl_inv (σ := zF) (fun n i s => lp_L_into_2 61 61 x E n (nI i) s) (fun i s => ∀ j, j < i → s j = x j) 61 ?_ ?_ 0 y (Nat.zero_le _) (fun j hj => absurd hj (Nat.not_lt_zero _))
  · intro n s hs
    rw [lp_L_into_2]
    exact zb_t (by rw [zn_le (by omega) (by omega)]; omega) (hE _ (h s hs))
  · intro n i s hi hs ih
    rw [lp_L_into_2]
    refine zb_f (by rw [zn_le (by omega) (by omega)]; omega) ?_
    rw [zn_in (by omega), zn_cl (by omega)]
    refine ⟨hi, ?_⟩
    rintro _ rfl
    refine ⟨hi, ?_⟩
    rintro _ rfl _ rfl
    rw [zn_add]
    refine ih _ (fun j hj => ?_)
    by_cases e : j = i
    · subst e; exact zu_s
    · rw [zu_n e]; exact hs j (by omega)
/-- the law's set holds q -/
def lR (q : zR) (x : zF) : Prop := x 0 = nI (z_nR q) ∧ x 1 = nI (z_nP q) ∧ (∀ r, r < z_nR q → x (2 + r) = nI (z_fst q r) ∧ x (6 + r) = nI (z_whl q r) ∧ x (10 + r) = nI (z_of q r)) ∧ ∀ p, p < z_nP q → x (14 + p) = nI (z_bh q p) ∧ x (24 + p) = nI (z_tk q p)
/-- the law's row of classes, kinds and letters holds d -/
def lD (n : Nat) (d : zD) (s : zF) : Prop := (∀ j, j < 26 → s j = nI (z_cls d j)) ∧ (∀ r, r < n → s (26 + r) = nI (z_knd d r)) ∧ s 30 = nI (z_len d) ∧ ∀ j, j < z_len d → s (31 + j) = nI (z_at d j)
/-- a rule for each place -/
def zCo (q : zR) (ro : Nat → Nat) : Prop := ∀ p, p < z_nP q → ro p < z_nR q ∧ (z_of q (ro p)).testBit p = true
theorem sl_taking {q : zR} {x : zF} {s c : Nat} {K : Int32 → Prop} (hq : zW q) (hx : lR q x) (hs : s < 2147483648) (hc : c < 2147483648) (h : K (nI (z_take q s c))) : wp_L_taking 38 x (nI s) (nI c) K := by
  have hP : z_nP q ≤ 10 := hq.2.2.1
  have h6 := hq.2.2.2.2.1
  unfold wp_L_taking
  intro E hE
  have key : ∃ n, lp_L_taking_5 38 x (nI s) (nI c) E n (nI (zs_mk (fun p => s.testBit p && (z_tk q p == 6 || z_tk q p == c)) 0)) (nI 0) := by
    refine zl_cnt (fun n i => lp_L_taking_5 38 x (nI s) (nI c) E n (nI (zs_mk (fun p => s.testBit p && (z_tk q p == 6 || z_tk q p == c)) i)) (nI i)) (z_nP q) ?_ ?_ 0 (Nat.zero_le _)
    · intro n
      rw [lp_L_taking_5, zn_in (a := 1) (by omega), zn_cl (a := 1) (by omega), hx.2.1]
      exact ⟨by omega, zb_t (by rw [zn_le (by omega) (by omega)]; omega) (hE _ h)⟩
    · intro n i hi ih
      have h24 := (hx.2.2.2 i hi).2
      have ht := (h6 i hi).1
      rw [lp_L_taking_5, zn_bit hs (by omega), zn_in (a := 1) (by omega), zn_cl (a := 1) (by omega), hx.2.1, zn_add 24 i, zn_in (a := 24 + i) (by omega), zn_cl (a := 24 + i) (by omega), h24, zn_add i 1, zn_shl (p := i) (by omega)]
      refine ⟨by omega, zb_f (by rw [zn_le (by omega) (by omega)]; omega) ?_⟩
      have no : (s.testBit i && (z_tk q i == 6 || z_tk q i == c)) = false → ∀ v : Int32, v = nI (zs_mk (fun p => s.testBit p && (z_tk q p == 6 || z_tk q p == c)) i) ||| nI 0 → ∀ w : Int32, w = nI (i + 1) → lp_L_taking_5 38 x (nI s) (nI c) E n v w := by
        intro e
        rintro _ rfl _ rfl
        rw [zn_or, ← zs_mk_f (f := fun p => s.testBit p && (z_tk q p == 6 || z_tk q p == c)) e]
        exact ih
      have yes : (s.testBit i && (z_tk q i == 6 || z_tk q i == c)) = true → ∀ v : Int32, v = nI (zs_mk (fun p => s.testBit p && (z_tk q p == 6 || z_tk q p == c)) i) ||| nI (2 ^ i) → ∀ w : Int32, w = nI (i + 1) → lp_L_taking_5 38 x (nI s) (nI c) E n v w := by
        intro e
        rintro _ rfl _ rfl
        rw [zn_or, ← zs_mk_t (f := fun p => s.testBit p && (z_tk q p == 6 || z_tk q p == c)) e]
        exact ih
      cases hb : s.testBit i with
      | false => exact zb_f2 (by decide) (no (by rw [hb]; rfl))
      | true =>
        refine zb_t2 rfl ⟨by omega, ?_⟩
        rw [zn_eq (by omega) (by omega), zn_eq (by omega) hc]
        refine ⟨fun e => yes (by rw [hb, e]; rfl), fun e => ⟨by omega, fun e2 => no (by rw [hb]; simp [e, e2]), fun e2 => yes (by rw [hb]; simp [e2])⟩⟩
  exact key
theorem sl_begun {q : zR} {x : zF} {c : Nat} {K : Int32 → Prop} (hq : zW q) (hx : lR q x) (hc : c < 2147483648) (h : K (nI (z_bgn q 0 c))) : wp_L_begun 38 x (nI c) (nI 0) K := by
  have hR : z_nR q ≤ 4 := hq.2.1
  have hfl : zs_or (fun r => if (0 : Nat).testBit r then 0 else z_fst q r) (z_nR q) < 2147483648 := by
    have h1 : zs_or (fun r => if (0 : Nat).testBit r then 0 else z_fst q r) (z_nR q) < 2 ^ z_nP q := zs_or_lt (fun r hr => by
      rw [Nat.zero_testBit, if_neg (by decide)]
      exact (hq.2.2.2.1 r hr).1)
    have := hq.bnd h1
    omega
  unfold wp_L_begun
  intro E hE
  have key : ∃ n, lp_L_begun_5 38 x (nI 0) E n (nI (zs_or (fun r => if (0 : Nat).testBit r then 0 else z_fst q r) 0)) (nI 0) := by
    refine zl_cnt (fun n i => lp_L_begun_5 38 x (nI 0) E n (nI (zs_or (fun r => if (0 : Nat).testBit r then 0 else z_fst q r) i)) (nI i)) (z_nR q) ?_ ?_ 0 (Nat.zero_le _)
    · intro n
      rw [lp_L_begun_5, zn_in (a := 0) (by omega), zn_cl (a := 0) (by omega), hx.1]
      exact ⟨by omega, zb_t (by rw [zn_le (by omega) (by omega)]; omega) (hE _ (sl_taking hq hx hfl hc h))⟩
    · intro n i hi ih
      have h2 := (hx.2.2.1 i hi).1
      rw [lp_L_begun_5, zn_bit (s := 0) (by omega) (by omega), Nat.zero_testBit, zn_in (a := 0) (by omega), zn_cl (a := 0) (by omega), hx.1, zn_add 2 i, zn_in (a := 2 + i) (by omega), zn_cl (a := 2 + i) (by omega), h2, zn_add i 1]
      refine ⟨by omega, zb_f (by rw [zn_le (by omega) (by omega)]; omega) (zb_f2 (by decide) ⟨by omega, ?_⟩)⟩
      rintro _ rfl _ rfl
      rw [zn_or]
      rw [zs_orS, Nat.zero_testBit, if_neg (by decide)] at ih
      exact ih
  exact key
theorem z_from_bit (q : zR) (kn : Nat → Nat) (s r p : Nat) : (z_from q kn s r).testBit p = (s.testBit p && (z_of q r).testBit p && !(decide (1 < kn r) && (z_whl q r).testBit p)) := by
  unfold z_from
  by_cases e : 1 < kn r
  · rw [if_pos e, zs_nan_bit, Nat.testBit_and, decide_eq_true e]
    simp
  · rw [if_neg e, Nat.testBit_and, decide_eq_false e]
    simp
/-- what one place of a stand gives, its rule told -/
def z_gl (q : zR) (kn ro : Nat → Nat) (s c p : Nat) : Nat := if s.testBit p then (if 1 < kn (ro p) ∧ (z_whl q (ro p)).testBit p = true then 0 else z_take q (z_bh q p) c) ||| (if c = 5 ∧ kn (ro p) % 2 = 1 then 2 ^ p else 0) else 0
theorem z_take_bit (q : zR) (s x j : Nat) : (z_take q s x).testBit j = true ↔ j < z_nP q ∧ s.testBit j = true ∧ (z_tk q j == 6 || z_tk q j == x) = true := by
  unfold z_take
  rw [zs_mk_bit]
  simp
theorem z_goL {q : zR} {kn ro : Nat → Nat} (hq : zW q) (hro : zCo q ro) (s c : Nat) : zs_or (z_gl q kn ro s c) (z_nP q) = z_go q kn s c := by
  apply zs_ext
  intro j
  unfold z_go
  rw [zs_or_bit, zs_or_bit]
  constructor
  · rintro ⟨p, hp, hb⟩
    obtain ⟨hr, hbr⟩ := hro p hp
    unfold z_gl at hb
    by_cases hs : s.testBit p = true
    · rw [if_pos hs, Nat.testBit_or, Bool.or_eq_true] at hb
      refine ⟨ro p, hr, ?_⟩
      unfold z_go1
      rw [Nat.testBit_or, Bool.or_eq_true]
      rcases hb with hb | hb
      · left
        by_cases e : 1 < kn (ro p) ∧ (z_whl q (ro p)).testBit p = true
        · rw [if_pos e, Nat.zero_testBit] at hb; cases hb
        · rw [if_neg e, z_take_bit] at hb
          rw [z_take_bit]
          refine ⟨hb.1, (zs_or_bit _ _ _).mpr ⟨p, hp, ?_⟩, hb.2.2⟩
          rw [z_from_bit, hs, hbr]
          have e2 : (decide (1 < kn (ro p)) && (z_whl q (ro p)).testBit p) = false := by
            by_cases e3 : 1 < kn (ro p)
            · have : ¬ (z_whl q (ro p)).testBit p = true := fun z => e ⟨e3, z⟩
              simp [this]
            · simp [e3]
          rw [e2]
          exact hb.2.1
      · right
        by_cases e : c = 5 ∧ kn (ro p) % 2 = 1
        · rw [if_pos e, Nat.testBit_two_pow] at hb
          have e2 : p = j := by simpa using hb
          subst e2
          rw [if_pos e, Nat.testBit_and, hs, hbr]
          rfl
        · rw [if_neg e, Nat.zero_testBit] at hb; cases hb
    · rw [if_neg hs, Nat.zero_testBit] at hb; cases hb
  · rintro ⟨r, hr, hb⟩
    have uni : ∀ p, p < z_nP q → (z_of q r).testBit p = true → ro p = r := fun p hp h => hq.2.2.2.2.2 _ _ p (hro p hp).1 hr (hro p hp).2 h
    unfold z_go1 at hb
    rw [Nat.testBit_or, Bool.or_eq_true] at hb
    rcases hb with hb | hb
    · rw [z_take_bit] at hb
      obtain ⟨h1, h2, h3⟩ := hb
      obtain ⟨p, hp, h4⟩ := (zs_or_bit _ _ _).mp h2
      by_cases e : (z_from q kn s r).testBit p = true
      · rw [if_pos e] at h4
        rw [z_from_bit] at e
        simp only [Bool.and_eq_true, Bool.not_eq_true'] at e
        obtain ⟨⟨e1, e2⟩, e3⟩ := e
        refine ⟨p, hp, ?_⟩
        unfold z_gl
        rw [if_pos e1, uni p hp e2, Nat.testBit_or, Bool.or_eq_true]
        left
        rw [if_neg (fun z => by rw [decide_eq_true z.1, z.2] at e3; cases e3), z_take_bit]
        exact ⟨h1, h4, h3⟩
      · rw [if_neg e, Nat.zero_testBit] at h4; cases h4
    · by_cases e : c = 5 ∧ kn r % 2 = 1
      · rw [if_pos e, Nat.testBit_and, Bool.and_eq_true] at hb
        have hj := zs_lt_bit (hq.2.2.2.1 r hr).2.2.1 hb.2
        refine ⟨j, hj, ?_⟩
        unfold z_gl
        rw [if_pos hb.1, uni j hj hb.2, Nat.testBit_or, Bool.or_eq_true]
        right
        rw [if_pos e, Nat.testBit_two_pow]
        simp
      · rw [if_neg e, Nat.zero_testBit] at hb; cases hb
