/-- the boundaries as bits -/
def z_bds (q : zR) (d : zD) (kn : Nat → Nat) (wo : Nat) : Nat := zs_mk (z_bd q d kn wo) (z_len d + 1)
theorem z_bd_0 (q : zR) (d : zD) (kn : Nat → Nat) (wo : Nat) : z_bd q d kn wo 0 = true := by
  unfold z_bd
  split
  · show (z_go q kn 0 _ == 0) = true
    rw [z_go_0]; rfl
  · rfl
theorem z_bd_n (q : zR) (d : zD) (kn : Nat → Nat) (wo : Nat) : z_bd q d kn wo (z_len d) = true := by
  unfold z_bd
  rw [if_neg (Nat.lt_irrefl _)]
theorem z_bds_eq (q : zR) (d : zD) (kn : Nat → Nat) (wo : Nat) : (1 ||| 2 ^ z_len d) ||| zs_mk (z_bd q d kn wo) (z_len d) = z_bds q d kn wo := by
  apply zs_ext
  intro j
  unfold z_bds
  rw [Nat.testBit_or, Nat.testBit_or, zs_mk_bit, zs_mk_bit, Nat.testBit_two_pow]
  have h1 : Nat.testBit 1 j = decide (j = 0) := by
    have := Nat.testBit_two_pow (n := 0) (m := j)
    rw [show (2 : Nat) ^ 0 = 1 from rfl] at this
    rw [this]
    by_cases e : j = 0
    · subst e; rfl
    · rw [decide_eq_false e, decide_eq_false (fun z => e z.symm)]
  rw [h1]
  have h0 := z_bd_0 q d kn wo
  have hn := z_bd_n q d kn wo
  by_cases e0 : j = 0
  · subst e0; rw [h0]; simp
  · by_cases en : j = z_len d
    · subst en; rw [hn]; simp
    · rw [decide_eq_false e0, decide_eq_false (fun z => en z.symm)]
      by_cases el : j < z_len d
      · rw [decide_eq_true el, decide_eq_true (by omega : j < z_len d + 1)]; simp
      · rw [decide_eq_false el, decide_eq_false (by omega : ¬ j < z_len d + 1)]; simp
theorem z_bds_lt (q : zR) {d : zD} (hd : zE d) (kn : Nat → Nat) (wo : Nat) : z_bds q d kn wo < 2147483648 := by
  have h := zs_mk_lt (z_bd q d kn wo) (z_len d + 1)
  have h2 : (2 : Nat) ^ (z_len d + 1) ≤ 2 ^ 31 := Nat.pow_le_pow_right (by decide) (by have := hd.2.2.1; unfold z_len; omega)
  unfold z_bds
  omega
theorem sx_letterAt {len k v : Nat} {line : Nat → Int32} {K : Int32 → Prop} (hl : len ≤ 30) (hk : k < len) (hv : line k = nI v) (h : K (nI v)) : wp_X6_letterAt (nI len) line (nI k) K := by
  unfold wp_X6_letterAt
  rw [zn_lt0 (by omega), zn_le (by omega) (by omega), zn_in (by omega), zn_cl (by omega), hv]
  exact ⟨fun h => h.elim, fun _ => ⟨fun h => by omega, fun _ => ⟨by omega, h⟩⟩⟩
theorem sx_classOf {a v : Nat} {classes : Nat → Int32} {K : Int32 → Prop} (ha : a < 26) (hv : classes a = nI v) (h : K (nI v)) : wp_X6_classOf classes (nI a) K := by
  unfold wp_X6_classOf
  refine sx_isLetter (by omega) (fun _ => zb_f zi_1 ?_) (fun h => by omega)
  rw [zn_in (by omega), zn_cl (by omega), hv]
  exact ⟨ha, h⟩
theorem sx_classAt {d : zD} {length : Int32} {classes kinds line : Nat → Int32} {k : Nat} {K : Int32 → Prop} (hd : zE d) (hD : xD d length classes kinds line) (hk : k < z_len d) (h : K (nI (z_ca d k))) : wp_X6_classAt length classes line (nI k) K := by
  obtain ⟨rfl, hc, -, hl⟩ := hD
  unfold wp_X6_classAt
  exact sx_letterAt hd.2.2.1 hk (hl k hk) (sx_classOf (hd.at hk) (hc _ (hd.at hk)) h)
theorem sx_read {q : zR} {d : zD} {kn : Nat → Nat} {wo m : Nat} {l0 b0 length fi lo : Int32} {stands classes kinds line onw takers : Nat → Int32} {K : Int32 → Int32 → (Nat → Int32) → Prop} (hq : zW q) (hd : zE d) (hkn : ∀ r, r < 4 → kn r < 4) (hD : xD d length classes kinds line) (hS : xS q kn fi lo onw takers) (hm : m < 1024) (hbg : ∀ x, x < 6 → (z_fa q &&& z_ta q x) ^^^ ((z_fa q &&& z_ta q x) &&& m) = z_bgn q wo x)
    (h : ∀ st' : Nat → Int32, (∀ k, k < z_len d → st' (k + 1) = nI (z_st q d kn wo (k + 1))) → K (nI (z_len d)) (nI (z_bds q d kn wo)) st') : wp_X3_read l0 b0 stands length classes line fi lo onw takers (nI m) K := by
  have hD' := hD
  obtain ⟨rfl, -, -, -⟩ := hD'
  have hlen : z_len d ≤ 30 := hd.2.2.1
  have hst : ∀ k, z_st q d kn wo k < 1024 := fun k => hq.bnd (z_st_lt hq d kn wo k)
  unfold wp_X3_read wp_X6_length
  rintro _ rfl
  rw [zn_shl (by omega), zn_or]
  intro E hE
  have w : ∃ n : Nat, lp_X3_read_26 (nI (z_len d)) (nI (z_len d)) classes line fi lo onw takers (nI m) E n (nI (z_st q d kn wo 0)) (nI 0) (nI ((1 ||| 2 ^ z_len d) ||| zs_mk (z_bd q d kn wo) 0)) stands := by
    refine zl_inv (σ := Nat → Int32) (fun n i s => lp_X3_read_26 (nI (z_len d)) (nI (z_len d)) classes line fi lo onw takers (nI m) E n (nI (z_st q d kn wo i)) (nI i) (nI ((1 ||| 2 ^ z_len d) ||| zs_mk (z_bd q d kn wo) i)) s) (fun i s => ∀ k, k < i → s (k + 1) = nI (z_st q d kn wo (k + 1))) (z_len d) ?_ ?_ 0 stands (Nat.zero_le _) (fun k hk => absurd hk (Nat.not_lt_zero _))
    · intro n s hs
      rw [lp_X3_read_26, z_bds_eq]
      exact zb_t (by rw [zn_le (by omega) (by omega)]; omega) (hE _ _ (h s hs))
    · intro n i s hi hs ih
      rw [lp_X3_read_26]
      have hc := hd.ca hi
      refine zb_f (by rw [zn_le (by omega) (by omega)]; omega) ?_
      refine sx_classAt hd hD hi ?_
      refine sx_goOn hS (hst i) hc ?_
      rw [z_go_X hq hkn]
      have hg := hq.bnd (z_go_lt hq kn (z_st q d kn wo i) (z_ca d i))
      have ebd : z_bd q d kn wo i = (z_go q kn (z_st q d kn wo i) (z_ca d i) == 0) := by
        unfold z_bd; rw [if_pos hi]
      have hz : ∀ s' : Nat → Int32, s' = upd s (i + 1) (nI (z_st q d kn wo (i + 1))) → ∀ k, k < i + 1 → s' (k + 1) = nI (z_st q d kn wo (k + 1)) := by
        rintro _ rfl k hk
        by_cases e : k = i
        · subst e; rw [zu_s]
        · rw [zu_n (by omega)]; exact hs k (by omega)
      rw [zn_add, zn_in (by omega), zn_cl (by omega), zn_eq0 (by omega)]
      refine ⟨fun e => ⟨by omega, ?_⟩, fun e => ?_⟩
      · rintro _ rfl
        rintro _ rfl
        have e1 : z_st q d kn wo (i + 1) = z_go q kn (z_st q d kn wo i) (z_ca d i) := by rw [z_st_S, if_neg e]
        have e2 : zs_mk (z_bd q d kn wo) (i + 1) = zs_mk (z_bd q d kn wo) i := by
          rw [zs_mk_f (by rw [ebd]; simp [e]), Nat.or_zero]
        have := ih (upd s (i + 1) (nI (z_go q kn (z_st q d kn wo i) (z_ca d i)))) (hz _ (by rw [e1]))
        rw [e1, e2] at this
        exact this
      · rintro _ rfl
        refine sx_begunBy hS hc ?_
        rintro _ rfl
        rw [zn_not (by
          have : z_fa q &&& z_ta q (z_ca d i) < 1024 := by rw [z_bgn_X]; exact hq.bnd (z_bgn_lt _ _ _)
          omega), hbg _ hc, zn_shl (by omega), zn_or]
        refine ⟨by omega, ?_⟩
        rintro _ rfl
        rintro _ rfl
        have e1 : z_st q d kn wo (i + 1) = z_bgn q wo (z_ca d i) := by rw [z_st_S, if_pos e]
        have e2 : zs_mk (z_bd q d kn wo) (i + 1) = zs_mk (z_bd q d kn wo) i ||| 2 ^ i := zs_mk_t (by rw [ebd]; simp [e])
        have := ih (upd s (i + 1) (nI (z_bgn q wo (z_ca d i)))) (hz _ (by rw [e1]))
        rw [e1, e2] at this
        rw [Nat.or_assoc]
        exact this
  rw [show zs_mk (z_bd q d kn wo) 0 = 0 from rfl, Nat.or_zero] at w
  exact w

