/-! fours of letters -/
def z_cl (d : zD) (j : Nat) : Nat := if j < 26 then z_cls d j else 0
theorem z_cl_lt {d : zD} (hd : zE d) (j : Nat) : z_cl d j < 6 := by
  unfold z_cl
  split
  · exact hd.1 j (by omega)
  · omega
def z_4p (d : zD) (l : Nat) : Nat → Nat
  | 0 => 0
  | i + 1 => z_4p d l i * 6 + z_cl d (l + i)
theorem z_4p_S (d : zD) (l i : Nat) : z_4p d l (i + 1) = z_4p d l i * 6 + z_cl d (l + i) := rfl
theorem z_4p_lt {d : zD} (hd : zE d) (l : Nat) : z_4p d l 1 < 6 ∧ z_4p d l 2 < 36 ∧ z_4p d l 3 < 216 ∧ z_4p d l 4 < 1296 := by
  have h0 := z_cl_lt hd (l + 0)
  have h1 := z_cl_lt hd (l + 1)
  have h2 := z_cl_lt hd (l + 2)
  have h3 := z_cl_lt hd (l + 3)
  have e1 : z_4p d l 1 = 0 * 6 + z_cl d (l + 0) := rfl
  have e2 : z_4p d l 2 = z_4p d l 1 * 6 + z_cl d (l + 1) := rfl
  have e3 : z_4p d l 3 = z_4p d l 2 * 6 + z_cl d (l + 2) := rfl
  have e4 : z_4p d l 4 = z_4p d l 3 * 6 + z_cl d (l + 3) := rfl
  omega
theorem z_4p_b {d : zD} (hd : zE d) (l i : Nat) (hi : i ≤ 4) : z_4p d l i < 1296 := by
  obtain ⟨h1, h2, h3, h4⟩ := z_4p_lt hd l
  have h0 : z_4p d l 0 = 0 := rfl
  have : i = 0 ∨ i = 1 ∨ i = 2 ∨ i = 3 ∨ i = 4 := by omega
  rcases this with rfl | rfl | rfl | rfl | rfl <;> omega
def z_nw (d : zD) (k : Nat) : Nat → Bool
  | 0 => true
  | e + 1 => z_nw d k e && !(z_4p d (4 * k) 4 == z_4p d (4 * e) 4)
theorem z_nw_S (d : zD) (k e : Nat) : z_nw d k (e + 1) = (z_nw d k e && !(z_4p d (4 * k) 4 == z_4p d (4 * e) 4)) := rfl
def z_fr (d : zD) : Nat := z_ct (fun k => z_nw d k k) 7
theorem sx_fourFrom {d : zD} {l : Nat} {c : zF} {K : Int32 → Prop} (hd : zE d) (hl : l ≤ 24) (hc : ∀ j, j < 26 → c j = nI (z_cls d j)) (h : K (nI (z_4p d l 4))) : wp_X6_fourFrom c (nI l) K := by
  unfold wp_X6_fourFrom
  intro E hE
  have key : ∃ n, lp_X6_fourFrom_4 c (nI l) E n (nI (z_4p d l 0)) (nI (l + 0)) := by
    refine zl_cnt (fun n i => lp_X6_fourFrom_4 c (nI l) E n (nI (z_4p d l i)) (nI (l + i))) 4 ?_ ?_ 0 (Nat.zero_le _)
    · intro n
      rw [lp_X6_fourFrom_4, zn_add]
      exact zb_t (by rw [zn_le (by omega) (by omega)]; omega) (hE _ h)
    · intro n i hi ih
      rw [lp_X6_fourFrom_4, zn_add]
      refine zb_f (by rw [zn_le (by omega) (by omega)]; omega) ?_
      rw [z_4p_S] at ih
      unfold z_cl at ih
      rw [zn_le (by omega) (by omega), zn_mul]
      refine ⟨fun e => ?_, fun e => ?_⟩
      · rintro _ rfl _ rfl
        rw [zn_add, zn_add]
        rw [if_neg (by omega)] at ih
        exact ih
      · rw [zn_in (by omega), zn_cl (by omega), hc _ (by omega)]
        refine ⟨by omega, ?_⟩
        rintro _ rfl _ rfl
        rw [zn_add, zn_add]
        rw [if_pos (by omega)] at ih
        exact ih
  exact key
theorem sx_unlikeFours {d : zD} {c : zF} {K : Int32 → Prop} (hd : zE d) (hc : ∀ j, j < 26 → c j = nI (z_cls d j)) (h : K (nI (z_fr d))) : wp_X6_unlikeFours c K := by
  unfold wp_X6_unlikeFours
  intro E hE
  have key : ∃ n, lp_X6_unlikeFours_4 c E n (nI (z_ct (fun k => z_nw d k k) 0)) (nI (4 * 0)) := by
    refine zl_cnt (fun n k => lp_X6_unlikeFours_4 c E n (nI (z_ct (fun k => z_nw d k k) k)) (nI (4 * k))) 7 ?_ ?_ 0 (Nat.zero_le _)
    · intro n
      rw [lp_X6_unlikeFours_4]
      exact zb_t (by rw [zn_le (by omega) (by omega)]; omega) (hE _ h)
    · intro n k hk ih
      rw [lp_X6_unlikeFours_4]
      refine zb_f (by rw [zn_le (by omega) (by omega)]; omega) ?_
      intro E2 hE2
      have fin : E2 (nI (z_nw d k k).toNat) := by
        apply hE2
        rw [z_ct_S] at ih
        cases hb : z_nw d k k with
        | false =>
          rw [hb] at ih
          refine zb_t rfl ?_
          rintro _ rfl _ rfl
          rw [zn_add, zn_add]
          exact ih
        | true =>
          rw [hb] at ih
          refine zb_f (by decide) ?_
          rintro _ rfl _ rfl
          rw [zn_add, zn_add]
          exact ih
      have key2 : ∃ n, lp_X6_unlikeFours_15 c (nI (4 * k)) E2 n (nI (z_nw d k 0).toNat) (nI (4 * 0)) := by
        refine zl_cnt (fun n e => lp_X6_unlikeFours_15 c (nI (4 * k)) E2 n (nI (z_nw d k e).toNat) (nI (4 * e))) k ?_ ?_ 0 (Nat.zero_le _)
        · intro n
          rw [lp_X6_unlikeFours_15]
          exact zb_t (by rw [zn_le (by omega) (by omega)]; omega) fin
        · intro n e he ih2
          have b1 := z_4p_b hd (4 * k) 4 (by omega)
          have b2 := z_4p_b hd (4 * e) 4 (by omega)
          rw [lp_X6_unlikeFours_15]
          refine zb_f (by rw [zn_le (by omega) (by omega)]; omega) ?_
          refine sx_fourFrom hd (by omega) hc (sx_fourFrom hd (by omega) hc ?_)
          rw [z_nw_S] at ih2
          refine ⟨fun e1 => ?_, fun e1 => ?_⟩
          · rw [zn_eq (by omega) (by omega)] at e1
            rintro _ rfl _ rfl
            rw [zn_and, zn_add, Nat.and_zero]
            rw [e1, beq_self_eq_true, Bool.not_true, Bool.and_false] at ih2
            exact ih2
          · rw [zn_eq (by omega) (by omega)] at e1
            rintro _ rfl _ rfl
            rw [zn_and, zn_add]
            have e3 : (z_4p d (4 * k) 4 == z_4p d (4 * e) 4) = false := beq_eq_false_iff_ne.mpr e1
            rw [e3, Bool.not_false, Bool.and_true] at ih2
            have e4 : (z_nw d k e).toNat &&& 1 = (z_nw d k e).toNat := by cases z_nw d k e <;> decide
            rw [e4]
            exact ih2
      exact key2
  exact key
theorem sp_fours {d : zD} {s : zF} {K : Int32 → Prop} (hd : zE d) (hm : mD s 0 d) (h : K (nI (z_fr d))) : wp_X10_fours s K := by
  have hz := hm.z
  unfold wp_X10_fours
  intro E hE
  refine zl_cnt (fun n k => lp_X10_fours_4 s E n (nI (z_ct (fun k => z_nw d k k) k)) (nI k)) 7 ?_ ?_ 0 (Nat.zero_le _)
  · intro n
    rw [lp_X10_fours_4]
    exact zb_t (by rw [zn_le (by omega) (by omega)]; omega) (hE _ h)
  · intro n k hk ih
    rw [lp_X10_fours_4]
    refine zb_f (by rw [zn_le (by omega) (by omega)]; omega) ?_
    intro E2 hE2
    have fin : E2 (nI (z_nw d k k).toNat) := by
      apply hE2
      rw [z_ct_S] at ih
      cases hb : z_nw d k k with
      | false =>
        rw [hb] at ih
        refine zb_t rfl ?_
        rintro _ rfl _ rfl
        rw [zn_add, zn_add]
        exact ih
      | true =>
        rw [hb] at ih
        refine zb_f (by decide) ?_
        rintro _ rfl _ rfl
        rw [zn_add, zn_add]
        exact ih
    have z0 : ∀ m, z_nw d k m = false → ∀ j, m ≤ j → z_nw d k j = false := by
      intro m h1 j hj
      induction hj with
      | refl => exact h1
      | step _ ih3 => rw [z_nw_S, ih3]; rfl
    refine zl_cnt (fun n e => lp_X10_fours_15 s (nI k) E2 n (nI (z_nw d k e).toNat) (nI e)) k ?_ ?_ 0 (Nat.zero_le _)
    · intro n
      rw [lp_X10_fours_15]
      exact zb_t (by rw [zn_le (by omega) (by omega)]; omega) fin
    · intro n e he ih2
      rw [lp_X10_fours_15]
      refine zb_f (by rw [zn_le (by omega) (by omega)]; omega) ?_
      cases hb : z_nw d k e with
      | false =>
        rw [z0 e hb k (by omega)] at fin
        exact zb_t rfl fin
      | true =>
        rw [z_nw_S, hb, Bool.true_and] at ih2
        refine zb_f (by decide) ?_
        intro E3 hE3
        have fin3 : E3 (nI (z_4p d (4 * k) 4 == z_4p d (4 * e) 4).toNat) := by
          apply hE3
          cases hc : (z_4p d (4 * k) 4 == z_4p d (4 * e) 4) with
          | false =>
            rw [hc] at ih2
            refine zb_t2 rfl ?_
            rintro _ rfl
            rw [zn_add]; exact ih2
          | true =>
            rw [hc] at ih2
            refine zb_f2 (by decide) ?_
            rintro _ rfl
            rw [zn_add]; exact ih2
        refine zl_cnt (fun n i => lp_X10_fours_31 s (nI k) (nI e) E3 n (nI (z_4p d (4 * k) i == z_4p d (4 * e) i).toNat) (nI i)) 4 ?_ ?_ 0 (Nat.zero_le _)
        · intro n
          rw [lp_X10_fours_31]
          exact zb_t (by rw [zn_le (by omega) (by omega)]; omega) fin3
        · intro n i hi ih3
          have c1 := z_cl_lt hd (4 * k + i)
          have c2 := z_cl_lt hd (4 * e + i)
          rw [lp_X10_fours_31]
          refine zb_f (by rw [zn_le (by omega) (by omega)]; omega) ?_
          rw [zn_mul 4 k, zn_mul 4 e, zn_add (4 * k) i, zn_add (4 * e) i, zn_in (a := 4 * e + i) (by omega), zn_cl (a := 4 * e + i) (by omega), hz.1 (4 * e + i) (by omega)]
          have ce : z_cl d (4 * e + i) = z_cls d (4 * e + i) := if_pos (by omega)
          rw [z_4p_S, z_4p_S, ce] at ih3
          rw [ce] at c2
          intro J hJ
          have fin4 : J (nI (z_cl d (4 * k + i))) := by
            apply hJ
            cases hq : (z_4p d (4 * k) i == z_4p d (4 * e) i) with
            | false =>
              have hq' := beq_eq_false_iff_ne.mp hq
              have e5 : (z_4p d (4 * k) i * 6 + z_cl d (4 * k + i) == z_4p d (4 * e) i * 6 + z_cls d (4 * e + i)) = false := beq_eq_false_iff_ne.mpr (by omega)
              rw [e5] at ih3
              refine zb_t rfl ?_
              rintro _ rfl
              rw [zn_add]; exact ih3
            | true =>
              have hq' := beq_iff_eq.mp hq
              refine zb_f (by decide) ⟨by omega, ?_⟩
              rw [zn_eq (by omega) (by omega)]
              refine ⟨fun e6 => ?_, fun e6 => ?_⟩
              · have e5 : (z_4p d (4 * k) i * 6 + z_cl d (4 * k + i) == z_4p d (4 * e) i * 6 + z_cls d (4 * e + i)) = false := beq_eq_false_iff_ne.mpr (by omega)
                rw [e5] at ih3
                rintro _ rfl
                rw [zn_add]; exact ih3
              · have e5 : (z_4p d (4 * k) i * 6 + z_cl d (4 * k + i) == z_4p d (4 * e) i * 6 + z_cls d (4 * e + i)) = true := beq_iff_eq.mpr (by omega)
                rw [e5] at ih3
                rintro _ rfl
                rw [zn_add]; exact ih3
          rw [zn_le (by omega) (by omega)]
          unfold z_cl at fin4
          refine ⟨fun e7 => ?_, fun e7 => ?_⟩
          · rw [if_neg (by omega)] at fin4; exact fin4
          · rw [if_pos (by omega)] at fin4
            rw [zn_in (by omega), zn_cl (by omega), hz.1 _ (by omega)]
            exact ⟨by omega, fin4⟩
