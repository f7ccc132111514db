/-! the model's stands -/
/-- the model's rules hold q -/
def mR (q : zR) (rules places : Int32) (rule takes behind : Nat → Int32) : Prop :=
  rules = nI (z_nR q) ∧ places = nI (z_nP q) ∧ (∀ r, r < z_nR q → rule r = nI (z_fst q r) ∧ rule (4 + r) = nI (z_whl q r) ∧ rule (8 + r) = nI (z_of q r)) ∧ ∀ p, p < z_nP q → takes p = nI (z_tk q p) ∧ behind p = nI (z_bh q p)
/-- a slot of the model holds d -/
def mD (slot : Nat → Int32) (b : Nat) (d : zD) : Prop :=
  (∀ j, j < 26 → slot (b + j) = nI (z_cls d j)) ∧ (∀ r, r < 4 → slot (b + 26 + r) = nI (z_knd d r)) ∧ slot (b + 30) = nI (z_len d) ∧ ∀ j, j < z_len d → slot (b + 31 + j) = nI (z_at d j)
theorem sp_has {s p : Nat} {K : Int32 → Prop} (hs : s < 2147483648) (hp : p < 31) (h1 : s.testBit p = true → K (nI 1)) (h0 : s.testBit p = false → K (nI 0)) : wp_X10_has (nI s) (nI p) K := by
  unfold wp_X10_has
  rw [zn_bit hs hp]
  cases hb : s.testBit p with
  | true => exact zb_t2 rfl (h1 hb)
  | false => exact zb_f2 (by decide) (h0 hb)
theorem sp_isTaken {a x : Nat} {K : Int32 → Prop} (ha : a < 2147483648) (hx : x < 2147483648) (h1 : (a == 6 || a == x) = true → K (nI 1)) (h0 : (a == 6 || a == x) = false → K (nI 0)) : wp_X10_isTaken (nI a) (nI x) K := by
  unfold wp_X10_isTaken
  rw [zn_eq ha (by omega), zn_eq ha hx]
  refine ⟨fun e => h1 (by simp [e]), fun e => ⟨fun e2 => h0 (by simp [e, e2]), fun e2 => h1 (by simp [e2])⟩⟩
theorem zs_tkS {s x i : Nat} {q : zR} (b : Bool) (h : (s.testBit i && (z_tk q i == 6 || z_tk q i == x)) = b) : zs_mk (fun p => s.testBit p && (z_tk q p == 6 || z_tk q p == x)) (i + 1) = zs_mk (fun p => s.testBit p && (z_tk q p == 6 || z_tk q p == x)) i ||| (if b then 2 ^ i else 0) := by
  cases b with
  | true => exact zs_mk_t h
  | false => exact zs_mk_f h
theorem sp_taking {q : zR} {takes : Nat → Int32} {s x : Nat} {K : Int32 → Prop} (hP : z_nP q ≤ 10) (ht : ∀ p, p < z_nP q → takes p = nI (z_tk q p)) (h6 : ∀ p, p < z_nP q → z_tk q p ≤ 6) (hs : s < 2147483648) (hx : x < 2147483648) (h : K (nI (z_take q s x))) : wp_X10_taking (nI (z_nP q)) takes (nI s) (nI x) K := by
  unfold wp_X10_taking
  intro E hE
  refine zl_cnt (fun n i => lp_X10_taking_5 (nI (z_nP q)) takes (nI s) (nI x) E n (nI (zs_mk (fun p => s.testBit p && (z_tk q p == 6 || z_tk q p == x)) i)) (nI i)) (z_nP q) ?_ ?_ 0 (Nat.zero_le _)
  · intro n
    rw [lp_X10_taking_5]
    exact zb_t (by rw [zn_le (by omega) (by omega)]; omega) (hE _ h)
  · intro n i hi ih
    rw [lp_X10_taking_5]
    refine zb_f (by rw [zn_le (by omega) (by omega)]; omega) ?_
    refine sp_has hs (by omega) (fun hb => zb_f (by decide) ?_) (fun hb => zb_t rfl ?_)
    · rw [zn_in (by omega), zn_cl (by omega), ht i hi]
      refine ⟨by omega, sp_isTaken (by have := h6 i hi; omega) hx (fun h2 => zb_f (by decide) ?_) (fun h2 => zb_t rfl ?_)⟩
      · rintro _ rfl _ rfl
        rw [zs_tkS true (by rw [hb, h2]; rfl)] at ih
        rw [zn_shl (by omega), zn_or, zn_add]
        exact ih
      · rintro _ rfl _ rfl
        rw [zs_tkS false (by rw [hb, h2]; rfl)] at ih
        rw [zn_or, zn_add]
        exact ih
    · rintro _ rfl _ rfl
      rw [zs_tkS false (by rw [hb]; rfl)] at ih
      rw [zn_or, zn_add]
      exact ih
theorem zW.bnd {q : zR} (hq : zW q) {a : Nat} (h : a < 2 ^ z_nP q) : a < 1024 := Nat.lt_of_lt_of_le h hq.pP
theorem zs_orS (g : Nat → Nat) (i : Nat) : zs_or g (i + 1) = zs_or g i ||| g i := rfl
theorem sp_begun {q : zR} {rule takes : Nat → Int32} {wo x : Nat} {K : Int32 → Prop} (hq : zW q) (hr : ∀ r, r < z_nR q → rule r = nI (z_fst q r)) (ht : ∀ p, p < z_nP q → takes p = nI (z_tk q p)) (hw : wo < 2147483648) (hx : x < 2147483648) (h : K (nI (z_bgn q wo x))) : wp_X10_begun (nI (z_nR q)) (nI (z_nP q)) (nI wo) rule takes (nI x) K := by
  unfold wp_X10_begun
  intro E hE
  have hR : z_nR q ≤ 4 := hq.2.1
  have hlt : ∀ r, r < z_nR q → (if wo.testBit r then 0 else z_fst q r) < 2 ^ z_nP q := fun r hr => by
    split
    · exact Nat.two_pow_pos _
    · exact (hq.2.2.2.1 r hr).1
  refine zl_cnt (fun n i => lp_X10_begun_4 (nI (z_nR q)) (nI wo) rule E n (nI (zs_or (fun r => if wo.testBit r then 0 else z_fst q r) i)) (nI i)) (z_nR q) ?_ ?_ 0 (Nat.zero_le _)
  · intro n
    rw [lp_X10_begun_4]
    refine zb_t (by rw [zn_le (by omega) (by omega)]; omega) (hE _ ?_)
    have := hq.bnd (zs_or_lt hlt)
    exact sp_taking hq.2.2.1 ht (fun p hp => (hq.2.2.2.2.1 p hp).1) (by omega) hx h
  · intro n i hi ih
    rw [lp_X10_begun_4]
    refine zb_f (by rw [zn_le (by omega) (by omega)]; omega) ?_
    rw [zs_orS] at ih
    refine sp_has hw (by omega) (fun hb => zb_f (by decide) ?_) (fun hb => zb_t rfl ?_)
    · rintro _ rfl _ rfl
      rw [zn_or, zn_add]
      rw [if_pos hb] at ih
      exact ih
    · rw [zn_add, zn_in (by omega), zn_cl (by omega), show 0 + i = i by omega, hr i hi]
      refine ⟨by omega, ?_⟩
      rintro _ rfl _ rfl
      rw [zn_or, zn_add]
      rw [if_neg (by rw [hb]; decide)] at ih
      exact ih
theorem sp_goes1 {q : zR} {behind : Nat → Int32} {f : Nat} {E : Int32 → Prop} (hq : zW q) (hb : ∀ p, p < z_nP q → behind p = nI (z_bh q p)) (hf : f < 2147483648) (h : E (nI (zs_or (fun p => if f.testBit p then z_bh q p else 0) (z_nP q)))) : ∃ n : Nat, lp_X10_goes_73 (nI (z_nP q)) behind (nI f) E n (nI 0) (nI 0) := by
  have hP : z_nP q ≤ 10 := hq.2.2.1
  refine zl_cnt (fun n i => lp_X10_goes_73 (nI (z_nP q)) behind (nI f) E n (nI (zs_or (fun p => if f.testBit p then z_bh q p else 0) i)) (nI i)) (z_nP q) ?_ ?_ 0 (Nat.zero_le _)
  · intro n
    rw [lp_X10_goes_73]
    exact zb_t (by rw [zn_le (by omega) (by omega)]; omega) h
  · intro n i hi ih
    rw [lp_X10_goes_73]
    refine zb_f (by rw [zn_le (by omega) (by omega)]; omega) ?_
    rw [zs_orS] at ih
    refine sp_has hf (by omega) (fun hb2 => zb_f (by decide) ?_) (fun hb2 => zb_t rfl ?_)
    · rw [zn_in (by omega), zn_cl (by omega), hb i hi]
      refine ⟨by omega, ?_⟩
      rintro _ rfl _ rfl
      rw [zn_or, zn_add]
      rw [if_pos hb2] at ih
      exact ih
    · rintro _ rfl _ rfl
      rw [zn_or, zn_add]
      rw [if_neg (by rw [hb2]; decide)] at ih
      exact ih
theorem sp_goes {q : zR} {rule takes behind slot : Nat → Int32} {kn : Nat → Nat} {s x : Nat} {K : Int32 → Prop} (hq : zW q) (hr : ∀ r, r < z_nR q → rule (4 + r) = nI (z_whl q r) ∧ rule (8 + r) = nI (z_of q r)) (ht : ∀ p, p < z_nP q → takes p = nI (z_tk q p)) (hb : ∀ p, p < z_nP q → behind p = nI (z_bh q p)) (hk : ∀ r, r < 4 → slot (26 + r) = nI (kn r)) (hk4 : ∀ r, r < 4 → kn r < 4) (hs : s < 2147483648) (hx : x < 2147483648) (h : K (nI (z_go q kn s x))) : wp_X10_goes (nI (z_nR q)) (nI (z_nP q)) rule takes behind slot (nI s) (nI x) K := by
  unfold wp_X10_goes
  intro E hE
  have hR : z_nR q ≤ 4 := hq.2.1
  refine zl_cnt (fun n i => lp_X10_goes_5 (nI (z_nR q)) (nI (z_nP q)) rule takes behind slot (nI s) (nI x) E n (nI (zs_or (z_go1 q kn s x) i)) (nI i)) (z_nR q) ?_ ?_ 0 (Nat.zero_le _)
  · intro n
    rw [lp_X10_goes_5]
    exact zb_t (by rw [zn_le (by omega) (by omega)]; omega) (hE _ h)
  · intro n i hi ih
    rw [lp_X10_goes_5]
    refine zb_f (by rw [zn_le (by omega) (by omega)]; omega) ?_
    rw [zs_orS] at ih
    have hk4' := hk4 i (by omega)
    have hof := hq.bnd (hq.2.2.2.1 i hi).2.2.1
    have hwh := hq.bnd (hq.2.2.2.1 i hi).2.1
    have hown : s &&& z_of q i < 1024 := Nat.lt_of_le_of_lt Nat.and_le_right hof
    rw [zn_add, zn_add, zn_in (by omega), zn_in (by omega), zn_cl (by omega), zn_cl (by omega), hk i (by omega), (hr i hi).2, zn_and]
    refine ⟨by omega, ?_⟩
    rintro _ rfl
    refine ⟨by omega, ?_⟩
    rintro _ rfl
    intro J hJ
    have fin : J (nI (z_from q kn s i)) := by
      apply hJ
      intro E2 hE2
      have hfr : z_from q kn s i < 1024 := by
        unfold z_from
        split
        · exact zs_nan_lt (n := 10) hown
        · exact hown
      refine sp_goes1 hq hb (by omega) (hE2 _ ?_)
      have hto := hq.bnd (zs_or_lt (g := fun p => if (z_from q kn s i).testBit p then z_bh q p else 0) (n := z_nP q) (k := z_nP q) (fun p hp => by
        split
        · exact (hq.2.2.2.2.1 p hp).2
        · exact Nat.two_pow_pos _))
      refine sp_taking hq.2.2.1 ht (fun p hp => (hq.2.2.2.2.1 p hp).1) (by omega) hx ?_
      have e : z_go1 q kn s x i = z_take q (zs_or (fun p => if (z_from q kn s i).testBit p then z_bh q p else 0) (z_nP q)) x ||| (if x = 5 ∧ kn i % 2 = 1 then s &&& z_of q i else 0) := rfl
      rw [zn_eq hx (by omega)]
      refine ⟨fun h5 => ?_, fun h5 => ?_⟩
      · rintro _ rfl _ rfl
        rw [zn_or, zn_or, zn_add]
        rw [e, if_neg (fun z => h5 z.1)] at ih
        exact ih
      · rw [zn_rem (by omega) (by omega) (by omega), zn_eq (by omega) (by omega)]
        refine ⟨fun h1 => ?_, fun h1 => ?_⟩
        · rintro _ rfl _ rfl
          rw [zn_or, zn_or, zn_add]
          rw [e, if_neg (fun z => h1 z.2)] at ih
          exact ih
        · rintro _ rfl _ rfl
          rw [zn_or, zn_or, zn_add]
          rw [e, if_pos ⟨h5, h1⟩] at ih
          exact ih
    rw [zn_le (by omega) (by omega)]
    unfold z_from at fin
    refine ⟨fun h1 => ?_, fun h1 => ?_⟩
    · rw [if_neg (by omega)] at fin
      exact fin
    · rw [if_pos (by omega)] at fin
      rw [zn_add, zn_in (by omega), zn_cl (by omega), (hr i hi).1, zn_not (by omega)]
      exact ⟨by omega, fin⟩
theorem z_st_S (q : zR) (d : zD) (kn : Nat → Nat) (wo k : Nat) : z_st q d kn wo (k + 1) = if z_go q kn (z_st q d kn wo k) (z_ca d k) = 0 then z_bgn q wo (z_ca d k) else z_go q kn (z_st q d kn wo k) (z_ca d k) := rfl
theorem sp_walks {q : zR} {d : zD} {kn : Nat → Nat} {b wo : Nat} {rule takes behind slot stood parted : Nat → Int32} {K : (Nat → Int32) → (Nat → Int32) → Prop} (hq : zW q) (hd : zE d) (hr : ∀ r, r < z_nR q → rule r = nI (z_fst q r) ∧ rule (4 + r) = nI (z_whl q r) ∧ rule (8 + r) = nI (z_of q r)) (ht : ∀ p, p < z_nP q → takes p = nI (z_tk q p)) (hb : ∀ p, p < z_nP q → behind p = nI (z_bh q p)) (hk : ∀ r, r < 4 → slot (26 + r) = nI (kn r)) (hk4 : ∀ r, r < 4 → kn r < 4) (hm : mD slot b d) (hbb : b + 61 ≤ 732) (hw : wo < 2147483648)
    (h : ∀ st' pt' : Nat → Int32, (∀ k, k < z_len d → pt' k = nI (z_bd q d kn wo k).toNat) → pt' (z_len d) = nI 1 → (∀ k, k < z_len d → st' (k + 1) = nI (z_st q d kn wo (k + 1))) → K st' pt') : wp_X10_walks (nI (z_nR q)) (nI (z_nP q)) (nI wo) rule takes behind slot stood parted (nI b) K := by
  unfold wp_X10_walks
  intro E hE
  have hlen : z_len d ≤ 30 := hd.2.2.1
  have hst : ∀ k, z_st q d kn wo k < 1024 := fun k => hq.bnd (z_st_lt hq d kn wo k)
  refine zl_inv (σ := (Nat → Int32) × (Nat → Int32)) (fun n i s => lp_X10_walks_4 (nI (z_nR q)) (nI (z_nP q)) (nI wo) rule takes behind slot (nI b) E n (nI (z_st q d kn wo i)) (nI i) s.1 s.2) (fun i s => (∀ k, k < i → s.2 k = nI (z_bd q d kn wo k).toNat) ∧ ∀ k, k < i → s.1 (k + 1) = nI (z_st q d kn wo (k + 1))) (z_len d) ?_ ?_ 0 (stood, parted) (Nat.zero_le _) ⟨fun k hk => absurd hk (Nat.not_lt_zero _), fun k hk => absurd hk (Nat.not_lt_zero _)⟩
  · rintro n ⟨s1, s2⟩ ⟨h1, h2⟩
    show lp_X10_walks_4 _ _ _ _ _ _ _ _ _ _ _ _ _ _
    rw [lp_X10_walks_4, zn_add, zn_in (by omega), zn_cl (by omega), hm.2.2.1]
    refine ⟨by omega, zb_t (by rw [zn_le (by omega) (by omega)]; omega) (hE _ _ ?_)⟩
    rw [zn_add, zn_in (by omega), zn_cl (by omega), hm.2.2.1, zn_in (by omega), zn_cl (by omega)]
    refine ⟨by omega, by omega, ?_⟩
    rintro _ rfl
    refine h _ _ (fun k hk => ?_) ?_ h2
    · rw [zu_n (by omega)]; exact h1 k hk
    · rw [zu_s]; exact zn_b1
  · rintro n i ⟨s1, s2⟩ hi ⟨h1, h2⟩ ih
    show lp_X10_walks_4 _ _ _ _ _ _ _ _ _ _ _ _ _ _
    have hc := hd.ca hi
    have ha := hd.at hi
    have hg := hq.bnd (z_go_lt hq kn (z_st q d kn wo i) (z_ca d i))
    have hsi := hst i
    rw [lp_X10_walks_4, zn_add, zn_in (by omega), zn_cl (by omega), hm.2.2.1]
    refine ⟨by omega, zb_f (by rw [zn_le (by omega) (by omega)]; omega) ?_⟩
    rw [zn_add, zn_add, zn_in (by omega), zn_cl (by omega), hm.2.2.2 i hi, zn_add, zn_in (by omega), zn_cl (by omega)]
    refine ⟨by omega, by omega, ?_⟩
    rintro _ rfl
    rw [hm.1 _ ha, show z_cls d (z_at d i) = z_ca d i from rfl]
    intro J52 hJ52
    have fin : J52 (nI (z_go q kn (z_st q d kn wo i) (z_ca d i))) := by
      apply hJ52
      intro J69 hJ69
      have fin2 : J69 (nI (z_bd q d kn wo i).toNat) := by
        apply hJ69
        rw [zn_in (by omega), zn_cl (by omega)]
        refine ⟨by omega, ?_⟩
        rintro _ rfl
        intro J86 hJ86
        have fin3 : J86 (nI (z_st q d kn wo (i + 1))) := by
          apply hJ86
          rw [zn_add, zn_in (by omega), zn_cl (by omega)]
          refine ⟨by omega, ?_⟩
          rintro _ rfl
          rintro _ rfl
          refine ih (_, _) ⟨fun k hk => ?_, fun k hk => ?_⟩
          · show upd s2 i _ k = _
            by_cases e : k = i
            · subst e
              rw [zu_s]
              cases z_bd q d kn wo k with
              | true => exact zn_b1
              | false => exact zn_b0
            · rw [zu_n e]; exact h1 k (by omega)
          · show upd s1 (i + 1) _ (k + 1) = _
            by_cases e : k = i
            · subst e; rw [zu_s]
            · rw [zu_n (by omega)]; exact h2 k (by omega)
        rw [z_st_S] at fin3
        rw [zn_eq0 (by omega)]
        refine ⟨fun h0 => ?_, fun h0 => ?_⟩
        · rw [if_neg h0] at fin3; exact fin3
        · rw [if_pos h0] at fin3
          exact sp_begun hq (fun r hr' => (hr r hr').1) ht hw (by omega) fin3
      have ebd : z_bd q d kn wo i = (z_go q kn (z_st q d kn wo i) (z_ca d i) == 0) := by
        unfold z_bd; rw [if_pos hi]
      rw [ebd] at fin2
      rw [zn_eq0 (by omega)]
      refine ⟨fun h0 => ?_, fun h0 => ?_⟩
      · rw [show (z_go q kn (z_st q d kn wo i) (z_ca d i) == 0) = false from by simp [h0]] at fin2; exact fin2
      · rw [show (z_go q kn (z_st q d kn wo i) (z_ca d i) == 0) = true from by simp [h0]] at fin2; exact fin2
    rw [zn_eq0 (by omega)]
    refine ⟨fun h0 => ?_, fun h0 => ?_⟩
    · exact sp_goes hq (fun r hr' => (hr r hr').2) ht hb hk hk4 (by omega) (by omega) fin
    · subst h0
      rw [show z_st q d kn wo 0 = 0 from rfl, z_go_0] at fin
      exact fin
