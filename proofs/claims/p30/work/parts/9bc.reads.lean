/-! a row read by the law's own method -/
theorem zn_p1 (x : Int32) : x + (-1) = x - nI 1 := by
  rw [Int32.sub_eq_add_neg]
  rfl
theorem zn_sub1 (i : Nat) : nI (i + 1) - nI 1 = nI i := by
  rw [zn_sub (by omega), Nat.add_sub_cancel]
theorem zk_bb (a b : Bool) : nI a.toNat * nI b.toNat = nI (a && b).toNat := by
  rw [zn_mul]
  cases a <;> cases b <;> rfl
theorem sl_reads88 {base many g1 g2 fr to : Nat} {F L x : zF} {E : zF → Prop} (h1 : x 1 = nI (base + many)) (hb : base + many ≤ 10) (hg1 : g1 < 17) (hg2 : g2 < 17) (hL : L g1 = nI fr) (hF : F g2 = nI to) (hfr : fr < 1024)
    (h : ∀ x' : zF, (∀ j, ¬ (14 + base ≤ j ∧ j < 14 + (base + many)) → x' j = x j) → (∀ p, base ≤ p → p < base + many → x' (14 + p) = if fr.testBit p then x (14 + p) ||| nI to else x (14 + p)) → E x') : ∃ n, lp_L_reads_88 38 F L (nI g1) (nI g2) E n (nI base) x := by
  refine zl_inv (σ := zF) (fun n i s => lp_L_reads_88 38 F L (nI g1) (nI g2) E n (nI i) s) (fun i s => base ≤ i ∧ (∀ j, ¬ (14 + base ≤ j ∧ j < 14 + (base + many)) → s j = x j) ∧ ∀ p, base ≤ p → p < base + many → s (14 + p) = if p < i ∧ fr.testBit p = true then x (14 + p) ||| nI to else x (14 + p)) (base + many) ?_ ?_ base x (by omega) ⟨Nat.le_refl _, fun j _ => rfl, fun p h1 h2 => by rw [if_neg (fun z => by have := z.1; omega)]⟩
  · intro n s hs
    rw [lp_L_reads_88, zn_in (a := 1) (by omega), zn_cl (a := 1) (by omega), hs.2.1 1 (by omega), h1]
    refine ⟨by omega, zb_t (by rw [zn_le (by omega) (by omega)]; omega) (h s hs.2.1 (fun p p1 p2 => ?_))⟩
    rw [hs.2.2 p p1 p2]
    by_cases e : fr.testBit p = true
    · rw [if_pos ⟨p2, e⟩, if_pos e]
    · rw [if_neg (fun z => e z.2), if_neg e]
  · intro n i s hi hs ih
    obtain ⟨k1, k2, k3⟩ := hs
    rw [lp_L_reads_88, zn_in (a := 1) (by omega), zn_cl (a := 1) (by omega), k2 1 (by omega), h1, zn_add 14 i, zn_in (a := 14 + i) (by omega), zn_cl (a := 14 + i) (by omega), zn_in (a := g1) (by omega), zn_cl (a := g1) (by omega), hL, zn_in (a := g2) (by omega), zn_cl (a := g2) (by omega), hF, zn_bit (s := fr) (by omega) (by omega), zn_add i 1]
    have e14 : s (14 + i) = x (14 + i) := by rw [k3 i k1 hi, if_neg (fun z => absurd z.1 (Nat.lt_irrefl _))]
    refine ⟨by omega, zb_f (by rw [zn_le (by omega) (by omega)]; omega) ⟨by omega, by omega, ?_⟩⟩
    have put : ∀ t : Int32, t = (if fr.testBit i then x (14 + i) ||| nI to else x (14 + i)) → 14 + i < 38 ∧ ∀ x_44 : zF, x_44 = upd s (14 + i) t → ∀ v : Int32, v = nI (i + 1) → lp_L_reads_88 38 F L (nI g1) (nI g2) E n v x_44 := by
      rintro t ht
      refine ⟨by omega, ?_⟩
      rintro _ rfl _ rfl
      refine ih _ ⟨by omega, fun j hj => ?_, fun p p1 p2 => ?_⟩
      · rw [zu_n (by omega)]; exact k2 j hj
      · by_cases e : p = i
        · rw [e, zu_s, ht]
          by_cases e2 : fr.testBit i = true
          · rw [if_pos e2, if_pos ⟨Nat.lt_succ_self _, e2⟩]
          · rw [if_neg e2, if_neg (fun z => e2 z.2)]
        · rw [zu_n (by omega), k3 p p1 p2]
          by_cases e2 : p < i ∧ fr.testBit p = true
          · rw [if_pos e2, if_pos ⟨by omega, e2.2⟩]
          · rw [if_neg e2, if_neg (fun z => e2 ⟨by omega, z.2⟩)]
    cases hbt : fr.testBit i with
    | false =>
      refine zb_f2 (by decide) ?_
      rintro _ rfl
      exact put _ (by rw [hbt, if_neg (by decide), zn_or0, e14])
    | true =>
      refine zb_t2 rfl ⟨by omega, ?_⟩
      rintro _ rfl
      exact put _ (by rw [hbt, if_pos rfl, e14])
theorem sl_reads281 {base many g c fr to : Nat} {F L x : zF} {E : zF → Prop} (h1 : x 1 = nI (base + many)) (hb : base + many ≤ 10) (hg : g < 17) (hL : L g = nI fr) (hF : F g = nI to) (hfr : fr < 1024) (hc : c < 200) (h63 : ¬ c = 63)
    (h : ∀ x' : zF, (∀ j, ¬ (14 + base ≤ j ∧ j < 14 + (base + many)) → x' j = x j) → (∀ p, base ≤ p → p < base + many → x' (14 + p) = if fr.testBit p then x (14 + p) ||| nI to else x (14 + p)) → E x') : ∃ n, lp_L_reads_281 38 F L (nI (g + 1)) (nI c) E n (nI base) x := by
  refine zl_inv (σ := zF) (fun n i s => lp_L_reads_281 38 F L (nI (g + 1)) (nI c) E n (nI i) s) (fun i s => base ≤ i ∧ (∀ j, ¬ (14 + base ≤ j ∧ j < 14 + (base + many)) → s j = x j) ∧ ∀ p, base ≤ p → p < base + many → s (14 + p) = if p < i ∧ fr.testBit p = true then x (14 + p) ||| nI to else x (14 + p)) (base + many) ?_ ?_ base x (by omega) ⟨Nat.le_refl _, fun j _ => rfl, fun p h1 h2 => by rw [if_neg (fun z => by have := z.1; omega)]⟩
  · intro n s hs
    rw [lp_L_reads_281, zn_in (a := 1) (by omega), zn_cl (a := 1) (by omega), hs.2.1 1 (by omega), h1]
    refine ⟨by omega, zb_t (by rw [zn_le (by omega) (by omega)]; omega) (h s hs.2.1 (fun p p1 p2 => ?_))⟩
    rw [hs.2.2 p p1 p2]
    by_cases e : fr.testBit p = true
    · rw [if_pos ⟨p2, e⟩, if_pos e]
    · rw [if_neg (fun z => e z.2), if_neg e]
  · intro n i s hi hs ih
    obtain ⟨k1, k2, k3⟩ := hs
    rw [lp_L_reads_281, zn_in (a := 1) (by omega), zn_cl (a := 1) (by omega), k2 1 (by omega), h1, zn_add 14 i, zn_in (a := 14 + i) (by omega), zn_cl (a := 14 + i) (by omega), zn_sub1, zn_in (a := g) (by omega), zn_cl (a := g) (by omega), hL, hF, zn_bit (s := fr) (by omega) (by omega), zn_add i 1]
    have e14 : s (14 + i) = x (14 + i) := by rw [k3 i k1 hi, if_neg (fun z => absurd z.1 (Nat.lt_irrefl _))]
    refine ⟨by omega, zb_f (by rw [zn_le (by omega) (by omega)]; omega) (zb_f (by rw [zn_eq (by omega) (by omega)]; exact h63) ⟨by omega, by omega, ?_⟩)⟩
    have put : ∀ t : Int32, t = (if fr.testBit i then x (14 + i) ||| nI to else x (14 + i)) → 14 + i < 38 ∧ ∀ x_44 : zF, x_44 = upd s (14 + i) t → ∀ v : Int32, v = nI (i + 1) → lp_L_reads_281 38 F L (nI (g + 1)) (nI c) E n v x_44 := by
      rintro t ht
      refine ⟨by omega, ?_⟩
      rintro _ rfl _ rfl
      refine ih _ ⟨by omega, fun j hj => ?_, fun p p1 p2 => ?_⟩
      · rw [zu_n (by omega)]; exact k2 j hj
      · by_cases e : p = i
        · rw [e, zu_s, ht]
          by_cases e2 : fr.testBit i = true
          · rw [if_pos e2, if_pos ⟨Nat.lt_succ_self _, e2⟩]
          · rw [if_neg e2, if_neg (fun z => e2 z.2)]
        · rw [zu_n (by omega), k3 p p1 p2]
          by_cases e2 : p < i ∧ fr.testBit p = true
          · rw [if_pos e2, if_pos ⟨by omega, e2.2⟩]
          · rw [if_neg e2, if_neg (fun z => e2 ⟨by omega, z.2⟩)]
    cases hbt : fr.testBit i with
    | false =>
      refine zb_f2 (by decide) ?_
      rintro _ rfl
      exact put _ (by rw [hbt, if_neg (by decide), zn_or0, e14])
    | true =>
      refine zb_t2 rfl ⟨by omega, ?_⟩
      rintro _ rfl
      exact put _ (by rw [hbt, if_pos rfl, e14])
theorem sl_reads281' {base g : Nat} {F L x : zF} {N : Nat} {E : zF → Prop} (h1 : x 1 = nI N) (hN : N < 100) (hb : base < 100) (h : E x) : ∃ n, lp_L_reads_281 38 F L (nI g) (nI 63) E n (nI base) x := by
  refine ⟨1, ?_⟩
  rw [lp_L_reads_281, zn_in (a := 1) (by omega), zn_cl (a := 1) (by omega), h1]
  exact ⟨by omega, fun _ => h, fun _ => zb_t rfl h⟩
/-- a row's reading as the law holds it -/
def lH (base many : Nat) (S : zS) (x F L W : zF) : Prop := (∀ i, i < zs_h S → F i = nI (zs_f S i) ∧ L i = nI (zs_l S i) ∧ W i = nI (zs_w S i).toNat) ∧ (∀ p, base + zs_k S ≤ p → p < base + many → x (14 + p) = nI (zs_b S p)) ∧ ∀ p, base ≤ p → p < base + zs_k S → x (14 + p) = nI 0
/-- what comes behind, put in by a loop over a row's places -/
theorem lH_fol {base many k fr to : Nat} {x x' : zF} {b : Nat → Nat} (hr : z_rng (base + k) (base + many) fr) (hx : ∀ p, base ≤ p → p < base + many → x' (14 + p) = if fr.testBit p then x (14 + p) ||| nI to else x (14 + p)) (hk : k ≤ many) (h1 : ∀ p, base + k ≤ p → p < base + many → x (14 + p) = nI (b p)) (h2 : ∀ p, base ≤ p → p < base + k → x (14 + p) = nI 0) : (∀ p, base + k ≤ p → p < base + many → x' (14 + p) = nI (z_fol b fr to p)) ∧ ∀ p, base ≤ p → p < base + k → x' (14 + p) = nI 0 := by
  refine ⟨fun p p1 p2 => ?_, fun p p1 p2 => ?_⟩
  · rw [hx p (by omega) p2, h1 p p1 p2]
    unfold z_fol
    split
    · rw [zn_or]
    · rfl
  · rw [hx p p1 (by omega), h2 p p1 p2, if_neg (fun z => by have := (hr p z).1; omega)]
