/-! the model's classes alike, pairs, back -/
theorem sp_backFrom {q : zR} {d : zD} {a : Nat} {ways : Int32} {rule takes behind s way on : zF} {K : Int32 → Prop} (hq : zW q) (hd : zE d) (hr : ∀ r, r < z_nR q → rule r = nI (z_fst q r) ∧ rule (4 + r) = nI (z_whl q r) ∧ rule (8 + r) = nI (z_of q r)) (ht : ∀ p, p < z_nP q → takes p = nI (z_tk q p) ∧ behind p = nI (z_bh q p)) (hm : mD s 0 d) (hA : mA q (z_knd d) ways way on) (ha : a ≤ z_len d) (h : K (nI (z_bf q d a))) : wp_X10_backFrom (nI (z_nR q)) (nI (z_nP q)) (nI 0) ways rule takes behind s way (nI a) K := by
  have hl : z_len d ≤ 30 := hd.2.2.1
  have hz := hm.z
  unfold wp_X10_backFrom
  intro E hE E2 hE2
  refine zl_down (σ := Unit) (fun n i _ => lp_X10_backFrom_2 (nI (z_nR q)) (nI (z_nP q)) (nI 0) ways rule takes behind s way E E2 n (nI i)) (fun i _ => i ≤ a ∧ z_bf q d i = z_bf q d a) ?_ ?_ a () ⟨Nat.le_refl _, rfl⟩
  · rintro n _ ⟨-, h2⟩
    rw [lp_X10_backFrom_2]
    rw [← h2] at h
    exact zb_t (by decide) (hE2 h)
  · rintro n i _ ⟨h1, h2⟩ ih
    rw [lp_X10_backFrom_2]
    refine zb_f (by rw [zn_le0 (by omega)]; omega) ?_
    rw [z_bf_S] at h2
    by_cases e0 : i = 0
    · subst e0
      rw [if_neg (fun z => absurd z.1 (Nat.lt_irrefl _))] at h2
      refine zb_t (by rw [zn_le (by omega) (by omega)]; omega) ?_
      rintro _ rfl
      rw [zn_m1 (by omega)]
      exact ih () ⟨by omega, h2⟩
    · refine zb_f (by rw [zn_le (by omega) (by omega)]; omega) ?_
      have a1 := hd.at (k := i - 1) (by omega)
      have a2 := hd.at (k := i) (by omega)
      have c1 := hd.ca (k := i - 1) (by omega)
      have c2 := hd.ca (k := i) (by omega)
      rw [zn_add, zn_sub (by omega), zn_sub (by omega), show 31 + (i + 1) - 2 = 31 + (i - 1) by omega, show 31 + (i + 1) - 1 = 31 + i by omega, zn_cl (a := 31 + (i - 1)) (by omega), zn_cl (a := 31 + i) (by omega), hz.2.2.2 (i - 1) (by omega), hz.2.2.2 i (by omega), zn_cl (a := z_at d (i - 1)) (by omega), zn_cl (a := z_at d i) (by omega), hz.1 _ a1, hz.1 _ a2, zn_in (by omega), zn_in (by omega), zn_in (by omega), zn_in (by omega)]
      refine ⟨by omega, by omega, by omega, by omega, sp_isKnown (x := z_ca d (i - 1)) (y := z_ca d i) hq hr ht hz.2.1 hd.2.1 hA c1 c2 ?_⟩
      cases hb : z_kt q (z_knd d) (z_ca d (i - 1)) (z_ca d i) with
      | false =>
        rw [hb, if_neg (fun z => by cases z.2)] at h2
        refine zb_t rfl ?_
        rintro _ rfl
        rw [zn_m1 (by omega), show i + 1 - 1 = i by omega]
        exact ih () ⟨by omega, h2⟩
      | true =>
        rw [hb, if_pos ⟨by omega, rfl⟩] at h2
        rw [← h2] at h
        exact zb_f (by decide) (hE _ h)
theorem sp_farthest {q : zR} {d : zD} {ways : Int32} {rule takes behind s way on : zF} {K : Int32 → Prop} (hq : zW q) (hd : zE d) (hr : ∀ r, r < z_nR q → rule r = nI (z_fst q r) ∧ rule (4 + r) = nI (z_whl q r) ∧ rule (8 + r) = nI (z_of q r)) (ht : ∀ p, p < z_nP q → takes p = nI (z_tk q p) ∧ behind p = nI (z_bh q p)) (hm : mD s 0 d) (hA : mA q (z_knd d) ways way on) (h : K (nI (z_fh q d (z_len d + 1)))) : wp_X10_farthest (nI (z_nR q)) (nI (z_nP q)) (nI 0) ways rule takes behind s way K := by
  have hl : z_len d ≤ 30 := hd.2.2.1
  have hz := hm.z
  unfold wp_X10_farthest
  intro E hE
  refine zl_cnt (fun n i => lp_X10_farthest_4 (nI (z_nR q)) (nI (z_nP q)) (nI 0) ways rule takes behind s way E n (nI (z_fh q d i)) (nI i)) (z_len d + 1) ?_ ?_ 0 (Nat.zero_le _)
  · intro n
    rw [lp_X10_farthest_4, zn_in (by omega), zn_cl (by omega), hz.2.2.1]
    exact ⟨by omega, zb_t (by rw [zn_lt (by omega) (by omega)]; omega) (hE _ h)⟩
  · intro n i hi ih
    have b1 := z_bf_le q d i
    have b2 := z_fh_le q d i
    rw [lp_X10_farthest_4, zn_in (by omega), zn_cl (by omega), hz.2.2.1]
    refine ⟨by omega, zb_f (by rw [zn_lt (by omega) (by omega)]; omega) ?_⟩
    refine sp_backFrom hq hd hr ht hm hA (by omega) ?_
    unfold wp_X10_larger
    rw [zn_sub (by omega)]
    rw [z_fh_S] at ih
    by_cases e : z_fh q d i < i - z_bf q d i
    · rw [if_pos e] at ih
      refine zb_f (by rw [zn_le (by omega) (by omega)]; omega) ?_
      rintro _ rfl
      rw [zn_add]; exact ih
    · rw [if_neg e] at ih
      refine zb_t (by rw [zn_le (by omega) (by omega)]; omega) ?_
      rintro _ rfl
      rw [zn_add]; exact ih
theorem sp_knownPairs {q : zR} {kn : Nat → Nat} {ways : Int32} {rule takes behind slot way on : zF} {K : Int32 → Prop} (hq : zW q) (hr : ∀ r, r < z_nR q → rule r = nI (z_fst q r) ∧ rule (4 + r) = nI (z_whl q r) ∧ rule (8 + r) = nI (z_of q r)) (ht : ∀ p, p < z_nP q → takes p = nI (z_tk q p) ∧ behind p = nI (z_bh q p)) (hk : ∀ r, r < 4 → slot (26 + r) = nI (kn r)) (hk4 : ∀ r, r < 4 → kn r < 4) (hA : mA q kn ways way on) (h : K (nI (z_ct (z_kF q kn) 36))) : wp_X10_knownPairs (nI (z_nR q)) (nI (z_nP q)) (nI 0) ways rule takes behind slot way K := by
  unfold wp_X10_knownPairs
  intro E hE
  have key : ∃ n, lp_X10_knownPairs_4 (nI (z_nR q)) (nI (z_nP q)) (nI 0) ways rule takes behind slot way E n (nI (z_ct (z_kF q kn) (0 * 6))) (nI 0) := by
    refine zl_cnt (fun n x => lp_X10_knownPairs_4 (nI (z_nR q)) (nI (z_nP q)) (nI 0) ways rule takes behind slot way E n (nI (z_ct (z_kF q kn) (x * 6))) (nI x)) 6 ?_ ?_ 0 (Nat.zero_le _)
    · intro n
      rw [lp_X10_knownPairs_4]
      exact zb_t (by rw [zn_le (by omega) (by omega)]; omega) (hE _ h)
    · intro n x hx ih
      rw [lp_X10_knownPairs_4]
      refine zb_f (by rw [zn_le (by omega) (by omega)]; omega) ?_
      intro E2 hE2
      have key2 : ∃ n, lp_X10_knownPairs_12 (nI (z_nR q)) (nI (z_nP q)) (nI 0) ways rule takes behind slot way (nI x) E2 n (nI (z_ct (z_kF q kn) (x * 6 + 0))) (nI 0) := by
        refine zl_cnt (fun n y => lp_X10_knownPairs_12 (nI (z_nR q)) (nI (z_nP q)) (nI 0) ways rule takes behind slot way (nI x) E2 n (nI (z_ct (z_kF q kn) (x * 6 + y))) (nI y)) 6 ?_ ?_ 0 (Nat.zero_le _)
        · intro n
          rw [lp_X10_knownPairs_12]
          refine zb_t (by rw [zn_le (by omega) (by omega)]; omega) (hE2 _ ?_)
          rintro _ rfl
          rw [zn_add]
          rw [show (x + 1) * 6 = x * 6 + 6 by omega] at ih
          exact ih
        · intro n y hy ih2
          rw [lp_X10_knownPairs_12]
          refine zb_f (by rw [zn_le (by omega) (by omega)]; omega) ?_
          refine sp_isKnown hq hr ht hk hk4 hA hx hy ?_
          rw [show x * 6 + (y + 1) = (x * 6 + y) + 1 by omega, z_ct_S, z_kF_xy q kn x hy] at ih2
          cases hb : z_kt q kn x y with
          | false =>
            rw [hb] at ih2
            refine zb_t rfl ?_
            rintro _ rfl _ rfl
            rw [zn_add, zn_add]
            exact ih2
          | true =>
            rw [hb] at ih2
            refine zb_f (by decide) ?_
            rintro _ rfl _ rfl
            rw [zn_add, zn_add]
            exact ih2
      exact key2
  exact key
theorem sp_alikeL {q : zR} {kn : Nat → Nat} {x y : Nat} {ways : Int32} {rule takes behind slot way on : zF} {E : Int32 → Prop} (hq : zW q) (hr : ∀ r, r < z_nR q → rule r = nI (z_fst q r) ∧ rule (4 + r) = nI (z_whl q r) ∧ rule (8 + r) = nI (z_of q r)) (ht : ∀ p, p < z_nP q → takes p = nI (z_tk q p) ∧ behind p = nI (z_bh q p)) (hk : ∀ r, r < 4 → slot (26 + r) = nI (kn r)) (hk4 : ∀ r, r < 4 → kn r < 4) (hA : mA q kn ways way on) (hx : x < 6) (hy : y < 6) (h : E (nI (z_lk q kn x y (z_pe (z_bgn q 0) (z_go q kn)).1.length).toNat)) : ∃ n, lp_X10_alike_52 (nI (z_nR q)) (nI (z_nP q)) ways rule takes behind slot way (nI x) (nI y) E n (nI (z_lk q kn x y 0).toNat) (nI 0) := by
  have hQ := z_pe_Q hq kn
  have hlen := hQ.1.len
  obtain ⟨rfl, hway, -⟩ := hA
  refine zl_cnt (fun n i => lp_X10_alike_52 (nI (z_nR q)) (nI (z_nP q)) (nI (z_pe (z_bgn q 0) (z_go q kn)).1.length) rule takes behind slot way (nI x) (nI y) E n (nI (z_lk q kn x y i).toNat) (nI i)) (z_pe (z_bgn q 0) (z_go q kn)).1.length ?_ ?_ 0 (Nat.zero_le _)
  · intro n
    rw [lp_X10_alike_52]
    exact zb_t (by rw [zn_le (by omega) (by omega)]; exact Nat.le_refl _) h
  · intro n i hi ih
    have hs := hQ.1.2 _ (z_nth_mem hi)
    rw [lp_X10_alike_52]
    refine zb_f (by rw [zn_le (by omega) (by omega)]; omega) ?_
    rw [z_lk_S] at ih
    cases hb : z_lk q kn x y i with
    | false =>
      rw [z_lk_f hb _ (by omega)] at h
      exact zb_t rfl h
    | true =>
      rw [hb, Bool.true_and] at ih
      refine zb_f (by decide) ?_
      have g1 := hq.bnd (z_go_lt hq kn (z_nth (z_pe (z_bgn q 0) (z_go q kn)).1 i) x)
      have g2 := hq.bnd (z_go_lt hq kn (z_nth (z_pe (z_bgn q 0) (z_go q kn)).1 i) y)
      rw [zn_in (by omega), zn_cl (by omega), hway i hi]
      refine ⟨by omega, sp_goes hq (fun r hr' => (hr r hr').2) (fun p hp => (ht p hp).1) (fun p hp => (ht p hp).2) hk hk4 (by omega) (by omega) ⟨by omega, sp_goes hq (fun r hr' => (hr r hr').2) (fun p hp => (ht p hp).1) (fun p hp => (ht p hp).2) hk hk4 (by omega) (by omega) ?_⟩⟩
      rw [zn_eq (by omega) (by omega)]
      refine ⟨fun e => ?_, fun e => ?_⟩
      · rintro _ rfl
        rw [zn_add]
        rw [beq_eq_false_iff_ne.mpr e] at ih
        exact ih
      · rintro _ rfl
        rw [zn_add]
        rw [beq_iff_eq.mpr e] at ih
        exact ih
