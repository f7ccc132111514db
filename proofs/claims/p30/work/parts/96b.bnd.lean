theorem zl_from (P : Nat → Nat → Prop) (b e : Nat) (hx : ∀ n, P (n + 1) e) (hs : ∀ n i, b ≤ i → i < e → P n (i + 1) → P (n + 1) i) (h : b ≤ e) : ∃ n, P n b :=
  zl_inv (σ := Unit) (fun n i _ => P n i) (fun i _ => b ≤ i) e (fun n _ _ => hx n) (fun n i _ h1 h2 ih => hs n i h2 h1 (ih () (by omega))) b () h (Nat.le_refl _)
def mW (q : zR) (d : zD) (wo : Nat) (st pt : zF) : Prop := (∀ k, k ≤ z_len d → pt k = nI (z_bd q d (z_knd d) wo k).toNat) ∧ ∀ k, k < z_len d → st (k + 1) = nI (z_st q d (z_knd d) wo (k + 1))
theorem z_bds_bit (q : zR) (d : zD) (kn : Nat → Nat) (wo : Nat) {k : Nat} (hk : k ≤ z_len d) : (z_bds q d kn wo).testBit k = z_bd q d kn wo k := by
  unfold z_bds
  rw [zs_mk_bit, decide_eq_true (by omega : k < z_len d + 1), Bool.true_and]
theorem sx_hasBound {q : zR} {d : zD} {kn : Nat → Nat} {wo k : Nat} {K : Int32 → Prop} (hd : zE d) (hk : k ≤ z_len d) (h1 : z_bd q d kn wo k = true → K (nI 1)) (h0 : z_bd q d kn wo k = false → K (nI 0)) : wp_X3_hasBound (nI (z_bds q d kn wo)) (nI k) K := by
  have hl : z_len d ≤ 30 := hd.2.2.1
  unfold wp_X3_hasBound
  rw [zn_bit (z_bds_lt q hd kn wo) (by omega), z_bds_bit q d kn wo hk]
  cases hb : z_bd q d kn wo k with
  | true => exact zb_f (by decide) (h1 hb)
  | false => exact zb_t (by decide) (h0 hb)
/-- the next one behind, the next one ahead -/
theorem z_nx (B : Nat → Bool) {n : Nat} (hn : B n = true) : ∀ m a, a + m + 1 = n → ∃ k, a < k ∧ k ≤ n ∧ B k = true ∧ ∀ j, a < j → j < k → B j = false := by
  intro m
  induction m with
  | zero => intro a h; exact ⟨n, by omega, Nat.le_refl _, hn, fun j h1 h2 => by omega⟩
  | succ m ih =>
    intro a h
    cases hb : B (a + 1) with
    | true => exact ⟨a + 1, by omega, by omega, hb, fun j h1 h2 => by omega⟩
    | false =>
      obtain ⟨k, h1, h2, h3, h4⟩ := ih (a + 1) (by omega)
      refine ⟨k, by omega, h2, h3, fun j h5 h6 => ?_⟩
      by_cases e : j = a + 1
      · rw [e]; exact hb
      · exact h4 j (by omega) h6
theorem z_nx' (B : Nat → Bool) {n a : Nat} (hn : B n = true) (ha : a < n) : ∃ k, a < k ∧ k ≤ n ∧ B k = true ∧ ∀ j, a < j → j < k → B j = false := z_nx B hn (n - a - 1) a (by omega)
theorem z_pv (B : Nat → Bool) (h0 : B 0 = true) : ∀ a, 0 < a → ∃ k, k < a ∧ B k = true ∧ ∀ j, k < j → j < a → B j = false := by
  intro a
  induction a with
  | zero => intro h; exact absurd h (Nat.lt_irrefl _)
  | succ a ih =>
    intro _
    cases hb : B a with
    | true => exact ⟨a, by omega, hb, fun j h1 h2 => by omega⟩
    | false =>
      have ha : 0 < a := by
        apply Nat.pos_of_ne_zero
        intro e
        rw [e, h0] at hb; cases hb
      obtain ⟨k, h1, h2, h3⟩ := ih ha
      refine ⟨k, by omega, h2, fun j h4 h5 => ?_⟩
      by_cases e : j = a
      · rw [e]; exact hb
      · exact h3 j h4 (by omega)
theorem zp_bt {pt : zF} {B : Nat → Bool} {k : Nat} {X Y : Prop} (hp : pt k = nI (B k).toNat) (h1 : B k = true → Y) (h0 : B k = false → X) : (pt k = 0 → X) ∧ (¬ pt k = 0 → Y) := by
  rw [hp]
  cases hb : B k with
  | true => exact zb_f (by decide) (h1 hb)
  | false => exact zb_t (by decide) (h0 hb)
theorem sx_standAt {n j v : Nat} {ps : zF} {K : Int32 → Prop} (hn : n ≤ 30) (hj : j ≤ n) (hv : ps j = nI v) (h : K (nI v)) : wp_X3_standAt (nI n) ps (nI j) K := by
  unfold wp_X3_standAt
  refine zt_ltr (by omega) hj ?_
  rw [zn_in (by omega), zn_cl (by omega), hv]
  exact ⟨by omega, h⟩
theorem zk_bool (b : Bool) : vp_nar .boolean (nI b.toNat) = nI b.toNat := by
  cases b with
  | true => exact zn_b1
  | false => exact zn_b0

theorem zn_self (v : Int32) : v = nI v.toBitVec.toNat := by
  apply Int32.toBitVec_inj.1
  rw [zn_bv]
  simp
/-! how many pieces, and which -/
theorem z_bds_ct (q : zR) {d : zD} (hd : zE d) (kn : Nat → Nat) (wo : Nat) : z_ct (fun j => (z_bds q d kn wo).testBit j) 32 = z_ct (z_bd q d kn wo) (z_len d) + 1 := by
  have hl : z_len d ≤ 30 := hd.2.2.1
  rw [show (32 : Nat) = (z_len d + 1) + (32 - (z_len d + 1)) by omega, z_ct_add, z_ct_0 (f := fun j => (z_bds q d kn wo).testBit (z_len d + 1 + j)) _ (fun j _ => by
    unfold z_bds
    rw [zs_mk_bit, decide_eq_false (by omega), Bool.false_and]), Nat.add_zero]
  rw [z_ct_congr (g := z_bd q d kn wo) (z_len d + 1) (fun j hj => z_bds_bit q d kn wo (by omega)), z_ct_S, z_bd_n]
  rfl
theorem sx_number {q : zR} {d : zD} {kn : Nat → Nat} {wo : Nat} {K : Int32 → Prop} (hd : zE d) (h : K (nI (z_ct (z_bd q d kn wo) (z_len d)))) : wp_X3_number (nI (z_bds q d kn wo)) K := by
  unfold wp_X3_number
  refine sx_bitCount (Nat.lt_of_lt_of_le (z_bds_lt q hd kn wo) (by omega)) ?_
  rw [z_bds_ct q hd, zn_sub (by omega), Nat.add_sub_cancel]
  exact h

