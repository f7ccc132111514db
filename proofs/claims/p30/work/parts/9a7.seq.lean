theorem z_vr_uniq {t : Nat → Nat} {b N M : Nat} (h1 : z_vr t b N) (h2 : z_vr t b M) : N = M := by
  rcases Nat.lt_trichotomy N M with q | q | q
  · have h3 := (h2.1 N q).2
    rw [h1.2.1] at h3; omega
  · exact q
  · have h3 := (h1.1 M q).2
    rw [h2.2.1] at h3; omega

/-! a text's items, one behind the other -/
def z_vi (m : Nat) (t : Nat → Nat) (q : zR) (i e : Nat) : Prop := e < m ∧ t e = 59 ∧ ((t i = 99 ∧ z_ic t i e) ∨ (t i = 114 ∧ z_ir t q i e) ∨ (t i = 115 ∧ z_is t i e))
theorem z_vi_lt {m : Nat} {t : Nat → Nat} {q : zR} {i e : Nat} (h : z_vi m t q i e) : i < e := by
  rcases h.2.2 with ⟨-, h1⟩ | ⟨-, h1⟩ | ⟨-, h1⟩
  · have := h1.1; omega
  · have := h1.1; omega
  · exact h1.1
theorem z_vi_no {m : Nat} {t : Nat → Nat} {q : zR} {i e : Nat} (h : z_vi m t q i e) : ∀ j, i ≤ j → j < e → t j ≠ 59 := by
  intro j j1 j2
  rcases h.2.2 with ⟨h0, h1, h2, h3, h4, h5, -⟩ | ⟨h0, h1, h2, h3, h4, h5, -⟩ | ⟨h0, h1, h2, -⟩
  · by_cases e0 : j = i
    · subst e0; omega
    · by_cases e1 : j = i + 1
      · subst e1; omega
      · by_cases e2 : j = i + 2
        · subst e2; omega
        · have := h5 j (by omega) j2
          unfold z_lt at this
          omega
  · by_cases e0 : j = i
    · subst e0; omega
    · by_cases e1 : j = i + 1
      · subst e1; omega
      · by_cases e2 : j = i + 2
        · subst e2; omega
        · have hs := (h5.1 (j - (i + 3)) (by omega)).1
          rw [show i + 3 + (j - (i + 3)) = j by omega] at hs
          unfold z_sn z_am at hs
          omega
  · by_cases e0 : j = i
    · subst e0; omega
    · have := h2 j (by omega) j2
      unfold z_lt at this
      omega
theorem z_vi_uniq {m : Nat} {t : Nat → Nat} {q : zR} {i e e' : Nat} (h : z_vi m t q i e) (h' : z_vi m t q i e') : e = e' := by
  have a := z_vi_lt h
  have b := z_vi_lt h'
  rcases Nat.lt_trichotomy e e' with z | z | z
  · exact absurd h.2.1 (z_vi_no h' e (by omega) z)
  · exact z
  · exact absurd h'.2.1 (z_vi_no h e' (by omega) z)
/-- what an item tells -/
def z_tl (t : Nat → Nat) (i e : Nat) (S : zR × zD) : zR × zD :=
  if t i = 99 then (S.1, z_cs t (i + 3) (t (i + 1) - 48) S.2 (e - (i + 3)))
  else if t i = 114 then (z_ad S.1 t (i + 3) (e - (i + 3)), z_dk S.2 (z_nR S.1) (t (i + 1) - 48))
  else (S.1, z_dl S.2 (z_ll t (i + 1) (e - (i + 1))))
theorem z_tl_c {t : Nat → Nat} {i e : Nat} {S : zR × zD} (h : t i = 99) : z_tl t i e S = (S.1, z_cs t (i + 3) (t (i + 1) - 48) S.2 (e - (i + 3))) := if_pos h
theorem z_tl_r {t : Nat → Nat} {i e : Nat} {S : zR × zD} (h : t i = 114) : z_tl t i e S = (z_ad S.1 t (i + 3) (e - (i + 3)), z_dk S.2 (z_nR S.1) (t (i + 1) - 48)) := by
  unfold z_tl; rw [if_neg (by omega), if_pos h]
theorem z_tl_s {t : Nat → Nat} {i e : Nat} {S : zR × zD} (h : t i = 115) : z_tl t i e S = (S.1, z_dl S.2 (z_ll t (i + 1) (e - (i + 1)))) := by
  unfold z_tl; rw [if_neg (by omega), if_neg (by omega)]
/-- rules as they may be, also none -/
def zW0 (q : zR) : Prop := z_nR q ≤ 4 ∧ z_nP q ≤ 10 ∧
  (∀ r, r < z_nR q → z_fst q r < 2 ^ z_nP q ∧ z_whl q r < 2 ^ z_nP q ∧ z_of q r < 2 ^ z_nP q ∧ ∀ j, (z_fst q r).testBit j = true → (z_of q r).testBit j = true) ∧
  (∀ p, p < z_nP q → z_tk q p ≤ 6 ∧ z_bh q p < 2 ^ z_nP q) ∧
  ∀ r s j, r < z_nR q → s < z_nR q → (z_of q r).testBit j = true → (z_of q s).testBit j = true → r = s
theorem zW0.w {q : zR} (h : zW0 q) (h1 : 1 ≤ z_nR q) : zW q := ⟨h1, h.1, h.2.1, h.2.2.1, h.2.2.2.1, h.2.2.2.2⟩
theorem z_of_bit (a b j : Nat) : (2 ^ (a + b) - 2 ^ a).testBit j = true ↔ a ≤ j ∧ j < a + b := by
  rw [← z_of_eq, ← Nat.shiftLeft_eq, Nat.testBit_shiftLeft, Nat.testBit_two_pow_sub_one, Bool.and_eq_true, decide_eq_true_iff, decide_eq_true_iff]
  omega
theorem z_of_lt (a b : Nat) : 2 ^ (a + b) - 2 ^ a < 2 ^ (a + b) := by
  have h1 := Nat.two_pow_pos a
  have h2 := Nat.two_pow_pos (a + b)
  omega
theorem zW0.ad {q : zR} {t : Nat → Nat} {b N : Nat} (h : zW0 q) (hv : z_vr t b N) (h4 : z_nR q < 4) (h10 : z_nP q + z_ac t b N ≤ 10) : zW0 (z_ad q t b N) := by
  obtain ⟨-, -, g1, g2, g3⟩ := h
  obtain ⟨hJ, hO⟩ := z_rn_J (z_nP q) (z_tk q) (z_bh q) hv N 0 (by omega)
  rw [Nat.sub_zero] at hJ hO
  have pw : (2 : Nat) ^ z_nP q ≤ 2 ^ (z_nP q + z_ac t b N) := Nat.pow_le_pow_right (by decide) (by omega)
  have j0 := hJ.2.2.1 0 (show 0 < z_du t b 0 from Nat.zero_lt_one)
  have j1 := hJ.2.2.2
  have e0 : z_ac t b 0 = 0 := rfl
  rw [e0, Nat.add_zero] at j0 j1
  refine ⟨h4, h10, fun r hr => ?_, fun p hp => ?_, fun r s j hr hs b1 b2 => ?_⟩
  · have hr : r < z_nR q + 1 := hr
    show z_up (z_fst q) (z_nR q) _ r < 2 ^ (z_nP q + z_ac t b N) ∧ z_up (z_whl q) (z_nR q) _ r < 2 ^ (z_nP q + z_ac t b N) ∧ z_up (z_of q) (z_nR q) _ r < 2 ^ (z_nP q + z_ac t b N) ∧ ∀ j, (z_up (z_fst q) (z_nR q) _ r).testBit j = true → (z_up (z_of q) (z_nR q) _ r).testBit j = true
    by_cases e : r = z_nR q
    · rw [e, zp_s, zp_s, zp_s]
      exact ⟨z_rng_lt j0.1, z_rng_lt j0.2, z_of_lt _ _, fun j hj => (z_of_bit _ _ _).mpr (j0.1 j hj)⟩
    · rw [zp_n e, zp_n e, zp_n e]
      have := g1 r (by omega)
      exact ⟨Nat.lt_of_lt_of_le this.1 pw, Nat.lt_of_lt_of_le this.2.1 pw, Nat.lt_of_lt_of_le this.2.2.1 pw, this.2.2.2⟩
  · have hp : p < z_nP q + z_ac t b N := hp
    show zs_t (z_rn t b N (z_nP q) (z_tk q) (z_bh q) N) p ≤ 6 ∧ zs_b (z_rn t b N (z_nP q) (z_tk q) (z_bh q) N) p < 2 ^ (z_nP q + z_ac t b N)
    rcases Nat.lt_or_ge p (z_nP q) with e | e
    · have o := hO p e
      rw [o.1, o.2]
      have := g2 p e
      exact ⟨this.1, Nat.lt_of_lt_of_le this.2 pw⟩
    · have := j1 p e hp
      exact ⟨this.1, z_rng_lt this.2⟩
  · have hr : r < z_nR q + 1 := hr
    have hs : s < z_nR q + 1 := hs
    have b1 : (z_up (z_of q) (z_nR q) (2 ^ (z_nP q + z_ac t b N) - 2 ^ z_nP q) r).testBit j = true := b1
    have b2 : (z_up (z_of q) (z_nR q) (2 ^ (z_nP q + z_ac t b N) - 2 ^ z_nP q) s).testBit j = true := b2
    by_cases e : r = z_nR q
    · by_cases e2 : s = z_nR q
      · omega
      · rw [e, zp_s] at b1
        rw [zp_n e2] at b2
        have c1 := ((z_of_bit _ _ _).mp b1).1
        have c2 := zs_lt_bit (g1 s (by omega)).2.2.1 b2
        omega
    · by_cases e2 : s = z_nR q
      · rw [e2, zp_s] at b2
        rw [zp_n e] at b1
        have c1 := ((z_of_bit _ _ _).mp b2).1
        have c2 := zs_lt_bit (g1 r (by omega)).2.2.1 b1
        omega
      · rw [zp_n e] at b1
        rw [zp_n e2] at b2
        exact g3 r s j (by omega) (by omega) b1 b2
theorem zE.dk {d : zD} (hd : zE d) {r x : Nat} (hx : x < 4) : zE (z_dk d r x) := by
  refine ⟨hd.1, fun s hs => ?_, hd.2.2.1, hd.2.2.2⟩
  show z_up d.2.1 r x s < 4
  by_cases e : s = r
  · rw [e, zp_s]; exact hx
  · rw [zp_n e]; exact hd.2.1 s hs
theorem z_ll_mem {t : Nat → Nat} {b x : Nat} : ∀ n, x ∈ z_ll t b n → ∃ j, b ≤ j ∧ j < b + n ∧ x = t j - 97
  | 0, h => absurd h List.not_mem_nil
  | n + 1, h => by
    have h : x ∈ z_ll t b n ++ [t (b + n) - 97] := h
    rcases List.mem_append.mp h with h | h
    · obtain ⟨j, j1, j2, j3⟩ := z_ll_mem n h
      exact ⟨j, j1, by omega, j3⟩
    · rw [List.mem_singleton] at h
      exact ⟨b + n, by omega, by omega, h⟩
theorem zE.dl {d : zD} (hd : zE d) {t : Nat → Nat} {b n : Nat} (hn : n ≤ 30) (hl : ∀ j, b ≤ j → j < b + n → z_lt t j) : zE (z_dl d (z_ll t b n)) := by
  refine ⟨hd.1, hd.2.1, ?_, fun x hx => ?_⟩
  · show (z_ll t b n).length ≤ 30
    rw [z_ll_len]; exact hn
  · obtain ⟨j, j1, j2, j3⟩ := z_ll_mem n hx
    have := hl j j1 j2
    unfold z_lt at this
    omega
theorem z_tl_W {m : Nat} {t : Nat → Nat} {S : zR × zD} {i e : Nat} (hq : zW0 S.1) (hd : zE S.2) (h : z_vi m t S.1 i e) : zW0 (z_tl t i e S).1 ∧ zE (z_tl t i e S).2 := by
  rcases h.2.2 with ⟨h0, h1⟩ | ⟨h0, h1⟩ | ⟨h0, h1⟩
  · rw [z_tl_c h0]
    exact ⟨hq, z_cs_E hd (by have := h1.2.2.1; omega) _⟩
  · rw [z_tl_r h0]
    exact ⟨hq.ad h1.2.2.2.2.1 h1.2.2.2.2.2.1 h1.2.2.2.2.2.2, hd.dk (by have := h1.2.2.1; omega)⟩
  · rw [z_tl_s h0]
    have h2 := h1.1
    exact ⟨hq, hd.dl h1.2.2 (fun j j1 j2 => h1.2.1 j j1 (by omega))⟩
def z_q0 : zR := (0, 0, fun _ => 0, fun _ => 0, fun _ => 0, fun _ => 0, fun _ => 0)
def z_d0 : zD := (fun _ => 0, fun _ => 0, [])
theorem z_q0_W : zW0 z_q0 := ⟨Nat.zero_le _, Nat.zero_le _, fun r hr => absurd hr (Nat.not_lt_zero _), fun p hp => absurd hp (Nat.not_lt_zero _), fun r s j hr => absurd hr (Nat.not_lt_zero _)⟩
theorem z_d0_E : zE z_d0 := ⟨fun _ _ => Nat.zero_lt_succ _, fun _ _ => Nat.zero_lt_succ _, Nat.zero_le _, fun x hx => absurd hx List.not_mem_nil⟩
noncomputable def z_sq (m : Nat) (t : Nat → Nat) : Nat → Nat × zR × zD
  | 0 => (0, z_q0, z_d0)
  | k + 1 => @ite _ (∃ e, z_vi m t (z_sq m t k).2.1 (z_sq m t k).1 e) (Classical.propDecidable _)
      (Classical.epsilon (fun e => z_vi m t (z_sq m t k).2.1 (z_sq m t k).1 e) + 1, z_tl t (z_sq m t k).1 (Classical.epsilon (fun e => z_vi m t (z_sq m t k).2.1 (z_sq m t k).1 e)) (z_sq m t k).2) (z_sq m t k)
theorem z_sq_t {m : Nat} {t : Nat → Nat} {k e : Nat} (h : z_vi m t (z_sq m t k).2.1 (z_sq m t k).1 e) : z_sq m t (k + 1) = (e + 1, z_tl t (z_sq m t k).1 e (z_sq m t k).2) := by
  have h2 := Classical.epsilon_spec (p := fun e => z_vi m t (z_sq m t k).2.1 (z_sq m t k).1 e) ⟨e, h⟩
  have h3 := z_vi_uniq h2 h
  rw [z_sq, if_pos ⟨e, h⟩, h3]
theorem z_sq_f {m : Nat} {t : Nat → Nat} {k : Nat} (h : ∀ e, ¬ z_vi m t (z_sq m t k).2.1 (z_sq m t k).1 e) : ∀ j, z_sq m t (k + j) = z_sq m t k
  | 0 => rfl
  | j + 1 => by
    have ih := z_sq_f h j
    rw [← Nat.add_assoc, z_sq, if_neg (fun ⟨e, he⟩ => h e (by rw [ih] at he; exact he))]
    exact ih
theorem z_sq_W (m : Nat) (t : Nat → Nat) : ∀ k, zW0 (z_sq m t k).2.1 ∧ zE (z_sq m t k).2.2 ∧ (z_sq m t k).1 ≤ m
  | 0 => ⟨z_q0_W, z_d0_E, Nat.zero_le _⟩
  | k + 1 => by
    obtain ⟨h1, h2, h3⟩ := z_sq_W m t k
    by_cases h : ∃ e, z_vi m t (z_sq m t k).2.1 (z_sq m t k).1 e
    · obtain ⟨e, he⟩ := h
      have h4 := z_tl_W (S := (z_sq m t k).2) h1 h2 he
      have h5 := he.1
      rw [z_sq_t he]
      exact ⟨h4.1, h4.2, h5⟩
    · have h4 := z_sq_f (fun e he => h ⟨e, he⟩) 1
      rw [h4]
      exact ⟨h1, h2, h3⟩
/-- all of the text -/
noncomputable def z_sF (m : Nat) (t : Nat → Nat) : Nat × zR × zD := z_sq m t 200
theorem z_sF_f {m : Nat} {t : Nat → Nat} {k : Nat} (hk : k ≤ 200) (h : ∀ e, ¬ z_vi m t (z_sq m t k).2.1 (z_sq m t k).1 e) : z_sF m t = z_sq m t k := by
  have h1 := z_sq_f h (200 - k)
  rw [show k + (200 - k) = 200 by omega] at h1
  exact h1
theorem z_vi_end {m : Nat} {t : Nat → Nat} {q : zR} {i : Nat} (h : m ≤ i) : ∀ e, ¬ z_vi m t q i e := by
  intro e he
  have h1 := z_vi_lt he
  have h2 := he.1
  omega

theorem mD.zero {ns : zF} (h : ∀ j, j < 61 → ns j = nI 0) : mD ns 0 z_d0 :=
  ⟨fun j hj => h _ (by omega), fun r hr => h _ (by omega), h _ (by omega), fun j hj => absurd hj (Nat.not_lt_zero _)⟩

