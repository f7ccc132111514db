theorem sp_behindOne {q : zR} {kn : Nat → Nat} {s y : Nat} {rule takes behind slot : zF} {K : Int32 → Prop} (hq : zW q) (hr : ∀ r, r < z_nR q → rule r = nI (z_fst q r) ∧ rule (4 + r) = nI (z_whl q r) ∧ rule (8 + r) = nI (z_of q r)) (ht : ∀ p, p < z_nP q → takes p = nI (z_tk q p) ∧ behind p = nI (z_bh q p)) (hk : ∀ r, r < 4 → slot (26 + r) = nI (kn r)) (hk4 : ∀ r, r < 4 → kn r < 4) (hs : s < 1024) (hy : y < 6) (h : K (nI (z_bo q kn s y))) : wp_X10_behindOne (nI (z_nR q)) (nI (z_nP q)) (nI 0) rule takes behind slot (nI s) (nI y) K := by
  unfold wp_X10_behindOne
  refine sp_goes hq (fun r hr' => (hr r hr').2) (fun p hp => (ht p hp).1) (fun p hp => (ht p hp).2) hk hk4 (by omega) (by omega) ?_
  have hg := hq.bnd (z_go_lt hq kn s y)
  unfold z_bo at h
  by_cases e : z_go q kn s y = 0
  · rw [if_pos e] at h
    refine zb_t2 (by rw [e]; rfl) ?_
    exact sp_begun hq (fun r hr' => (hr r hr').1) (fun p hp => (ht p hp).1) (by omega) (by omega) h
  · rw [if_neg e] at h
    exact zb_f2 (by rw [zn_eq0 (by omega)]; exact e) h
theorem z_bo_lt {q : zR} (hq : zW q) (kn : Nat → Nat) (s y : Nat) : z_bo q kn s y < 1024 := by
  unfold z_bo
  split
  · exact hq.bnd (z_bgn_lt q 0 y)
  · exact hq.bnd (z_go_lt hq kn s y)
theorem sp_isKnown {q : zR} {kn : Nat → Nat} {x y : Nat} {ways : Int32} {rule takes behind slot way on : zF} {K : Int32 → Prop} (hq : zW q) (hr : ∀ r, r < z_nR q → rule r = nI (z_fst q r) ∧ rule (4 + r) = nI (z_whl q r) ∧ rule (8 + r) = nI (z_of q r)) (ht : ∀ p, p < z_nP q → takes p = nI (z_tk q p) ∧ behind p = nI (z_bh q p)) (hk : ∀ r, r < 4 → slot (26 + r) = nI (kn r)) (hk4 : ∀ r, r < 4 → kn r < 4) (hA : mA q kn ways way on) (hx : x < 6) (hy : y < 6) (h : K (nI (z_kt q kn x y).toNat)) : wp_X10_isKnown (nI (z_nR q)) (nI (z_nP q)) (nI 0) ways rule takes behind slot way (nI x) (nI y) K := by
  have hQ := z_pe_Q hq kn
  have hlen := hQ.1.len
  have hbx := hq.bnd (z_bgn_lt q 0 x)
  have hd := z_bo_lt hq kn (z_bgn q 0 x) y
  obtain ⟨rfl, hway, -⟩ := hA
  unfold wp_X10_isKnown
  refine sp_begun hq (fun r hr' => (hr r hr').1) (fun p hp => (ht p hp).1) (by omega) (by omega) ?_
  refine sp_behindOne hq hr ht hk hk4 hbx hy ?_
  intro E hE
  have fin : E (nI (z_kt q kn x y).toNat) := by
    apply hE
    cases hb : z_kt q kn x y with
    | true => rw [hb] at h; exact ⟨rfl, h⟩
    | false => rw [hb] at h; exact ⟨rfl, h⟩
  refine zl_cnt (fun n i => lp_X10_isKnown_17 (nI (z_nR q)) (nI (z_nP q)) (nI 0) (nI (z_pe (z_bgn q 0) (z_go q kn)).1.length) rule takes behind slot way (nI x) (nI y) (nI (z_bo q kn (z_bgn q 0 x) y)) E n (nI (z_kw q kn x y i).toNat) (nI i)) (z_pe (z_bgn q 0) (z_go q kn)).1.length ?_ ?_ 0 (Nat.zero_le _)
  · intro n
    rw [lp_X10_isKnown_17]
    exact zb_t (by rw [zn_le (by omega) (by omega)]; omega) fin
  · intro n i hi ih
    have hs := hQ.1.2 _ (z_nth_mem hi)
    rw [lp_X10_isKnown_17]
    refine zb_f (by rw [zn_le (by omega) (by omega)]; omega) ?_
    rw [z_kw_S] at ih
    cases hb : z_kw q kn x y i with
    | false =>
      have hf : z_kt q kn x y = false := z_kw_f hb _ (by omega)
      rw [hf] at fin
      exact zb_t rfl fin
    | true =>
      rw [hb, Bool.true_and] at ih
      refine zb_f (by decide) ?_
      rw [zn_in (by omega), zn_cl (by omega), hway i hi]
      refine ⟨by omega, sp_behindOne hq hr ht hk hk4 hs hx ?_⟩
      have h2 := z_bo_lt hq kn (z_nth (z_pe (z_bgn q 0) (z_go q kn)).1 i) x
      have h3 := z_bo_lt hq kn (z_bo q kn (z_nth (z_pe (z_bgn q 0) (z_go q kn)).1 i) x) y
      refine sp_behindOne hq hr ht hk hk4 h2 hy ?_
      refine ⟨fun e => ?_, fun e => ?_⟩
      · rw [zn_eq (by omega) (by omega)] at e
        rintro _ rfl
        rw [zn_add]
        rw [beq_eq_false_iff_ne.mpr e] at ih
        exact ih
      · rw [zn_eq (by omega) (by omega)] at e
        rintro _ rfl
        rw [zn_add]
        rw [beq_iff_eq.mpr e] at ih
        exact ih
