/-! all that the class finds of the ways -/
def xV (q : zR) (kn : Nat → Nat) (nu un kno : Int32) (st fe nx be kw : zF) : Prop :=
  xY q kn nu nx be ∧ (∀ i, i < (z_pe (z_bgn q 0) (z_go q kn)).1.length → st i = nI (z_nth (z_pe (z_bgn q 0) (z_go q kn)).1 i)) ∧ xF (z_pe (z_bgn q 0) (z_go q kn)).2 fe ∧ un = nI (z_us (z_go q kn) (z_pe (z_bgn q 0) (z_go q kn)).1 1024 0) ∧ kno = nI (z_ct (z_kF q kn) 36) ∧ ∀ j, j < 36 → kw j = nI (z_kF q kn j).toNat
def xU (q : zR) (kn : Nat → Nat) (fo nu un kno : Int32) (st fe nx be kw : zF) : Prop := fo = nI 0 ∨ (fo = nI 1 ∧ xV q kn nu un kno st fe nx be kw)
theorem z_pe_0 (bg : Nat → Nat) (go : Nat → Nat → Nat) : 0 < (z_pe bg go).1.length := by
  have h : bg 0 ∈ (z_pe bg go).1 := z_p3_B 1024 0 (by omega)
  exact List.length_pos_of_mem h
theorem sx_find {q : zR} {kn : Nat → Nat} {fo nu un kno fi lo : Int32} {st fe no nx be kw gg gf gb gc on ta : zF} {K : Int32 → Int32 → Int32 → Int32 → zF → zF → zF → zF → zF → zF → zF → zF → zF → zF → Prop} (hq : zW q) (hk : ∀ r, r < 4 → kn r < 4) (hS : xS q kn fi lo on ta) (hU : xU q kn fo nu un kno st fe nx be kw)
    (h : ∀ (nu' un' kno' fo' : Int32) (st' fe' no' nx' be' kw' gg' gf' gb' gc' : zF), fo' = nI 1 → xV q kn nu' un' kno' st' fe' nx' be' kw' → K nu' un' kno' fo' st' fe' no' nx' be' kw' gg' gf' gb' gc') : wp_X8_find nu un kno fo st fe no nx be kw gg gf gb gc fi lo on ta K := by
  unfold wp_X8_find
  rcases hU with rfl | ⟨rfl, hV⟩
  · refine zb_t zi_0 (sx_fill (by omega) (fun no1 hno1 => ?_))
    intro E hE
    refine sx_find29 hq hS hno1 (fun nu1 st1 fe1 no2 be1 a1 a2 a3 => hE _ _ _ _ _ ?_)
    intro E2 hE2
    refine sx_find59 hq hk hS a1 a2 a3 (fun nu2 st2 fe2 no3 nx2 b1 b2 b3 b4 => hE2 _ _ _ _ _ ?_)
    have hQ := z_pe_Q hq kn
    obtain ⟨rfl, b5, -⟩ := b1
    refine sx_part (z_pe_0 _ _) hQ.1.len b4 (fun g' fi' bu' ch' => ?_)
    refine sx_findKnown hq ⟨rfl, b3, b4⟩ (fun known hkn => ?_)
    exact h _ _ _ _ _ _ _ _ _ _ _ _ _ _ rfl ⟨⟨rfl, b3, b4⟩, fun i hi => (b5 i hi).1, b2, rfl, rfl, hkn⟩
  · exact zb_f zi_1 (h _ _ _ _ _ _ _ _ _ _ _ _ _ _ rfl hV)
/-! classes alike -/
def z_lk (q : zR) (kn : Nat → Nat) (x y n : Nat) : Bool := (z_bgn q 0 x == z_bgn q 0 y) && z_al (fun i => z_go q kn (z_nth (z_pe (z_bgn q 0) (z_go q kn)).1 i) x == z_go q kn (z_nth (z_pe (z_bgn q 0) (z_go q kn)).1 i) y) n
theorem z_lk_S (q : zR) (kn : Nat → Nat) (x y n : Nat) : z_lk q kn x y (n + 1) = (z_lk q kn x y n && (z_go q kn (z_nth (z_pe (z_bgn q 0) (z_go q kn)).1 n) x == z_go q kn (z_nth (z_pe (z_bgn q 0) (z_go q kn)).1 n) y)) := by
  unfold z_lk
  rw [z_al_S, Bool.and_assoc]
theorem z_lk_f {q : zR} {kn : Nat → Nat} {x y m : Nat} (h : z_lk q kn x y m = false) : ∀ j, m ≤ j → z_lk q kn x y j = false := by
  intro j hj
  induction hj with
  | refl => exact h
  | step _ ih => rw [z_lk_S, ih]; rfl
theorem z_lk_0 (q : zR) (kn : Nat → Nat) (x y : Nat) : z_lk q kn x y 0 = (z_bgn q 0 x == z_bgn q 0 y) := by
  show (_ && true) = _
  rw [Bool.and_true]
theorem sx_areAlike {q : zR} {kn : Nat → Nat} {number : Int32} {nexts begun : zF} {x y : Nat} {K : Int32 → Prop} (hq : zW q) (hY : xY q kn number nexts begun) (hx : x < 6) (hy : y < 6) (h : K (nI (z_lk q kn x y (z_pe (z_bgn q 0) (z_go q kn)).1.length).toNat)) : wp_X8_areAlike number nexts begun (nI x) (nI y) K := by
  have hQ := z_pe_Q hq kn
  have hlen := hQ.1.len
  obtain ⟨kx, x1, x2, x3⟩ := hY.2.1 x hx
  obtain ⟨ky, y1, y2, y3⟩ := hY.2.1 y hy
  unfold wp_X8_areAlike
  refine sx_isClass_t hx (zb_f zi_1 (sx_isClass_t hy (zb_f zi_1 ?_)))
  rw [zn_in (by omega), zn_cl (by omega), zn_in (a := y) (by omega), zn_cl (a := y) (by omega), x3, y3, zn_eq (by omega) (by omega)]
  refine ⟨hx, hy, fun e => ?_, fun e => ?_⟩
  · intro E hE E2 hE2
    have hb : z_lk q kn x y 0 = true := by
      rw [z_lk_0, beq_iff_eq, ← x2, ← y2, e]
    have hnum := hY.1
    refine zl_inv (σ := Unit) (fun n i _ => lp_X8_areAlike_33 number nexts (nI x) (nI y) E E2 n (nI i)) (fun i _ => z_lk q kn x y i = true) (z_pe (z_bgn q 0) (z_go q kn)).1.length ?_ ?_ 0 () (Nat.zero_le _) hb
    · intro n _ hk
      rw [lp_X8_areAlike_33, hnum]
      rw [hk] at h
      exact zb_t (by rw [zn_le (by omega) (by omega)]; exact Nat.le_refl _) (hE2 h)
    · intro n i _ hi hk ih
      rw [lp_X8_areAlike_33, hnum]
      rw [← hnum]
      refine zb_f (by rw [hnum, zn_le (by omega) (by omega)]; omega) ?_
      have hnext := z_lk_S q kn x y i
      rw [hk, Bool.true_and] at hnext
      have yes : z_go q kn (z_nth (z_pe (z_bgn q 0) (z_go q kn)).1 i) x = z_go q kn (z_nth (z_pe (z_bgn q 0) (z_go q kn)).1 i) y → z_lk q kn x y (i + 1) = true := fun e => by rw [hnext, beq_iff_eq]; exact e
      have no : ¬ z_go q kn (z_nth (z_pe (z_bgn q 0) (z_go q kn)).1 i) x = z_go q kn (z_nth (z_pe (z_bgn q 0) (z_go q kn)).1 i) y → E := fun e => by
        have hf : z_lk q kn x y (i + 1) = false := by rw [hnext]; exact beq_eq_false_iff_ne.mpr e
        rw [z_lk_f hf _ (by omega)] at h
        exact hE h
      refine sx_within hq hY hi hx (fun a0 => ?_) (fun a a1 a2 a3 => ?_)
      · refine sx_within hq hY hi hy (fun b0 => ?_) (fun b b1 b2 b3 => ?_)
        · refine zb_t rfl ?_
          rintro _ rfl
          rw [zn_add]
          exact ih () (yes (by rw [a0, b0]))
        · refine zb_f (fun z => ?_) (no (by rw [a0]; exact fun z => b2 z.symm))
          have z2 := z.symm
          rw [zn_eqm1 (by omega)] at z2
          exact z2
      · refine sx_within hq hY hi hy (fun b0 => ?_) (fun b b1 b2 b3 => ?_)
        · exact zb_f (by rw [zn_eqm1 (by omega)]; exact id) (no (by rw [b0]; exact a2))
        · rw [zn_eq (by omega) (by omega)]
          refine ⟨fun z => ?_, fun z => no (fun z2 => z ?_)⟩
          · rintro _ rfl
            rw [zn_add]
            exact ih () (yes (by rw [← a3, ← b3, z]))
          · exact z_nth_inj hQ.1.1 a1 b1 (by rw [a3, b3, z2])
  · have hf : z_lk q kn x y 0 = false := by
      rw [z_lk_0]
      refine beq_eq_false_iff_ne.mpr (fun z => e ?_)
      exact z_nth_inj hQ.1.1 x1 y1 (by rw [x2, y2, z])
    rw [z_lk_f hf _ (Nat.zero_le _)] at h
    exact h
/-! back -/
def z_bf (q : zR) (d : zD) : Nat → Nat
  | 0 => 0
  | a + 1 => if 0 < a ∧ z_kt q (z_knd d) (z_ca d (a - 1)) (z_ca d a) = true then a + 1 else z_bf q d a
theorem z_bf_S (q : zR) (d : zD) (a : Nat) : z_bf q d (a + 1) = if 0 < a ∧ z_kt q (z_knd d) (z_ca d (a - 1)) (z_ca d a) = true then a + 1 else z_bf q d a := rfl
theorem z_bf_le (q : zR) (d : zD) : ∀ a, z_bf q d a ≤ a
  | 0 => Nat.le_refl _
  | a + 1 => by
    have := z_bf_le q d a
    rw [z_bf_S]
    split <;> omega
def z_fh (q : zR) (d : zD) : Nat → Nat
  | 0 => 0
  | a + 1 => if z_fh q d a < a - z_bf q d a then a - z_bf q d a else z_fh q d a
theorem z_fh_S (q : zR) (d : zD) (a : Nat) : z_fh q d (a + 1) = if z_fh q d a < a - z_bf q d a then a - z_bf q d a else z_fh q d a := rfl
theorem z_fh_le (q : zR) (d : zD) : ∀ a, z_fh q d a ≤ a
  | 0 => Nat.le_refl _
  | a + 1 => by
    have := z_fh_le q d a
    rw [z_fh_S]
    split <;> omega
theorem sx_backFrom {q : zR} {d : zD} {l : Int32} {c k f kw : zF} {a : Nat} {K : Int32 → Prop} (hd : zE d) (hD : xD d l c k f) (hn : ∀ j, j < 36 → kw j = nI (z_kF q (z_knd d) j).toNat) (ha : a ≤ z_len d) (h : K (nI (z_bf q d a))) : wp_X9_backFrom l c f kw (nI a) K := by
  have hl : z_len d ≤ 30 := hd.2.2.1
  unfold wp_X9_backFrom
  intro E hE E2 hE2
  refine zl_down (σ := Unit) (fun n i _ => lp_X9_backFrom_2 l c f kw E E2 n (nI i)) (fun i _ => i ≤ a ∧ z_bf q d i = z_bf q d a) ?_ ?_ a () ⟨Nat.le_refl _, rfl⟩
  · rintro n _ ⟨-, h2⟩
    rw [lp_X9_backFrom_2]
    rw [← h2] at h
    exact zb_t (by rw [zn_lt (by omega) (by omega)]; omega) (hE2 h)
  · rintro n i _ ⟨h1, h2⟩ ih
    rw [lp_X9_backFrom_2]
    by_cases e0 : i = 0
    · subst e0
      rw [← h2] at h
      exact zb_t (by rw [zn_lt (by omega) (by omega)]; omega) (hE2 h)
    · refine zb_f (by rw [zn_lt (by omega) (by omega)]; omega) ?_
      have c1 := hd.ca (k := i - 1) (by omega)
      have c2 := hd.ca (k := i) (by omega)
      rw [zn_sub (by omega), zn_sub (by omega), show i + 1 - 2 = i - 1 by omega, show i + 1 - 1 = i by omega]
      refine sx_classAt hd hD (by omega) (sx_classAt hd hD (by omega) (sx_isKnown hn c1 c2 ?_))
      rw [z_bf_S] at h2
      cases hb : z_kt q (z_knd d) (z_ca d (i - 1)) (z_ca d i) with
      | false =>
        rw [hb, if_neg (fun z => by cases z.2)] at h2
        refine zb_t rfl ?_
        rintro _ rfl
        rw [zn_m1 (by omega), show i + 1 - 1 = i by omega]
        exact ih () ⟨by omega, h2⟩
      | true =>
        rw [hb, if_pos ⟨by omega, rfl⟩] at h2
        rw [← h2] at h
        exact zb_f (by decide) (hE _ h)
theorem sx_farthestBack {q : zR} {d : zD} {l : Int32} {c k f kw : zF} {K : Int32 → Prop} (hd : zE d) (hD : xD d l c k f) (hn : ∀ j, j < 36 → kw j = nI (z_kF q (z_knd d) j).toNat) (h : K (nI (z_fh q d (z_len d + 1)))) : wp_X9_farthestBack l c f kw K := by
  have hl : z_len d ≤ 30 := hd.2.2.1
  have hlen := hD.1
  unfold wp_X9_farthestBack
  intro E hE
  refine zl_cnt (fun n i => lp_X9_farthestBack_4 l c f kw E n (nI (z_fh q d i)) (nI i)) (z_len d + 1) ?_ ?_ 0 (Nat.zero_le _)
  · intro n
    rw [lp_X9_farthestBack_4, hlen]
    exact zb_t (by rw [zn_lt (by omega) (by omega)]; omega) (hE _ h)
  · intro n i hi ih
    have b1 := z_bf_le q d i
    have b2 := z_fh_le q d i
    rw [lp_X9_farthestBack_4, hlen]
    rw [← hlen]
    refine zb_f (by rw [hlen, zn_lt (by omega) (by omega)]; omega) ?_
    refine sx_backFrom hd hD hn (by omega) ?_
    rintro _ rfl _ rfl
    rw [zn_sub (by omega), zn_add]
    rw [z_fh_S] at ih
    by_cases e : z_fh q d i < i - z_bf q d i
    · rw [if_pos e] at ih
      rw [if_pos (show nI (z_fh q d i) < nI (i - z_bf q d i) by rw [zn_lt (by omega) (by omega)]; exact e)]
      exact ih
    · rw [if_neg e] at ih
      rw [if_neg (show ¬ nI (z_fh q d i) < nI (i - z_bf q d i) by rw [zn_lt (by omega) (by omega)]; exact e)]
      exact ih
