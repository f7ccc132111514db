/-! a rule's row, read from its last sign on -/
abbrev zS : Type := Nat × Nat × (Nat → Nat) × (Nat → Nat) × (Nat → Bool) × (Nat → Nat) × (Nat → Nat)
def zs_k (s : zS) : Nat := s.1
def zs_h (s : zS) : Nat := s.2.1
def zs_f (s : zS) : Nat → Nat := s.2.2.1
def zs_l (s : zS) : Nat → Nat := s.2.2.2.1
def zs_w (s : zS) : Nat → Bool := s.2.2.2.2.1
def zs_t (s : zS) : Nat → Nat := s.2.2.2.2.2.1
def zs_b (s : zS) : Nat → Nat := s.2.2.2.2.2.2
def z_up {α : Type} (f : Nat → α) (k : Nat) (x : α) (j : Nat) : α := if j = k then x else f j
theorem zp_s {α : Type} {f : Nat → α} {k : Nat} {x : α} : z_up f k x k = x := if_pos rfl
theorem zp_n {α : Type} {f : Nat → α} {k j : Nat} {x : α} (h : j ≠ k) : z_up f k x j = f j := if_neg h
def z_fol (bh : Nat → Nat) (fr to : Nat) (p : Nat) : Nat := if fr.testBit p then bh p ||| to else bh p
/-- how many parts a sign has -/
def z_pt (c : Nat) : Nat := if c = 38 ∨ c = 124 then 2 else if c = 42 ∨ c = 43 ∨ c = 63 then 1 else 0
def z_am (c : Nat) : Prop := c = 46 ∨ (48 ≤ c ∧ c ≤ 53)
def z_sn (c : Nat) : Prop := c = 38 ∨ c = 124 ∨ c = 42 ∨ c = 43 ∨ c = 63 ∨ z_am c
def z_sg (base c : Nat) (s : zS) : zS :=
  if c = 38 then (zs_k s, zs_h s - 1, z_up (zs_f s) (zs_h s - 2) (zs_f s (zs_h s - 1) ||| (if zs_w s (zs_h s - 1) then zs_f s (zs_h s - 2) else 0)), z_up (zs_l s) (zs_h s - 2) (zs_l s (zs_h s - 2) ||| (if zs_w s (zs_h s - 2) then zs_l s (zs_h s - 1) else 0)), z_up (zs_w s) (zs_h s - 2) (zs_w s (zs_h s - 1) && zs_w s (zs_h s - 2)), zs_t s, z_fol (zs_b s) (zs_l s (zs_h s - 1)) (zs_f s (zs_h s - 2)))
  else if c = 124 then (zs_k s, zs_h s - 1, z_up (zs_f s) (zs_h s - 2) (zs_f s (zs_h s - 2) ||| zs_f s (zs_h s - 1)), z_up (zs_l s) (zs_h s - 2) (zs_l s (zs_h s - 2) ||| zs_l s (zs_h s - 1)), z_up (zs_w s) (zs_h s - 2) (zs_w s (zs_h s - 1) || zs_w s (zs_h s - 2)), zs_t s, zs_b s)
  else if c = 63 then (zs_k s, zs_h s, zs_f s, zs_l s, z_up (zs_w s) (zs_h s - 1) true, zs_t s, zs_b s)
  else if c = 43 then (zs_k s, zs_h s, zs_f s, zs_l s, zs_w s, zs_t s, z_fol (zs_b s) (zs_l s (zs_h s - 1)) (zs_f s (zs_h s - 1)))
  else if c = 42 then (zs_k s, zs_h s, zs_f s, zs_l s, z_up (zs_w s) (zs_h s - 1) true, zs_t s, z_fol (zs_b s) (zs_l s (zs_h s - 1)) (zs_f s (zs_h s - 1)))
  else (zs_k s - 1, zs_h s + 1, z_up (zs_f s) (zs_h s) (2 ^ (base + (zs_k s - 1))), z_up (zs_l s) (zs_h s) (2 ^ (base + (zs_k s - 1))), z_up (zs_w s) (zs_h s) false, z_up (zs_t s) (base + (zs_k s - 1)) (if c = 46 then 6 else c - 48), z_up (zs_b s) (base + (zs_k s - 1)) 0)
theorem z_sg_and {base : Nat} {s : zS} : z_sg base 38 s = (zs_k s, zs_h s - 1, z_up (zs_f s) (zs_h s - 2) (zs_f s (zs_h s - 1) ||| (if zs_w s (zs_h s - 1) then zs_f s (zs_h s - 2) else 0)), z_up (zs_l s) (zs_h s - 2) (zs_l s (zs_h s - 2) ||| (if zs_w s (zs_h s - 2) then zs_l s (zs_h s - 1) else 0)), z_up (zs_w s) (zs_h s - 2) (zs_w s (zs_h s - 1) && zs_w s (zs_h s - 2)), zs_t s, z_fol (zs_b s) (zs_l s (zs_h s - 1)) (zs_f s (zs_h s - 2))) := by
  unfold z_sg; rw [if_pos rfl]
theorem z_sg_or {base : Nat} {s : zS} : z_sg base 124 s = (zs_k s, zs_h s - 1, z_up (zs_f s) (zs_h s - 2) (zs_f s (zs_h s - 2) ||| zs_f s (zs_h s - 1)), z_up (zs_l s) (zs_h s - 2) (zs_l s (zs_h s - 2) ||| zs_l s (zs_h s - 1)), z_up (zs_w s) (zs_h s - 2) (zs_w s (zs_h s - 1) || zs_w s (zs_h s - 2)), zs_t s, zs_b s) := by
  unfold z_sg; rw [if_neg (by omega), if_pos rfl]
theorem z_sg_may {base : Nat} {s : zS} : z_sg base 63 s = (zs_k s, zs_h s, zs_f s, zs_l s, z_up (zs_w s) (zs_h s - 1) true, zs_t s, zs_b s) := by
  unfold z_sg; rw [if_neg (by omega), if_neg (by omega), if_pos rfl]
theorem z_sg_plus {base : Nat} {s : zS} : z_sg base 43 s = (zs_k s, zs_h s, zs_f s, zs_l s, zs_w s, zs_t s, z_fol (zs_b s) (zs_l s (zs_h s - 1)) (zs_f s (zs_h s - 1))) := by
  unfold z_sg; rw [if_neg (by omega), if_neg (by omega), if_neg (by omega), if_pos rfl]
theorem z_sg_star {base : Nat} {s : zS} : z_sg base 42 s = (zs_k s, zs_h s, zs_f s, zs_l s, z_up (zs_w s) (zs_h s - 1) true, zs_t s, z_fol (zs_b s) (zs_l s (zs_h s - 1)) (zs_f s (zs_h s - 1))) := by
  unfold z_sg; rw [if_neg (by omega), if_neg (by omega), if_neg (by omega), if_neg (by omega), if_pos rfl]
theorem z_sg_am {base c : Nat} {s : zS} (h : z_am c) : z_sg base c s = (zs_k s - 1, zs_h s + 1, z_up (zs_f s) (zs_h s) (2 ^ (base + (zs_k s - 1))), z_up (zs_l s) (zs_h s) (2 ^ (base + (zs_k s - 1))), z_up (zs_w s) (zs_h s) false, z_up (zs_t s) (base + (zs_k s - 1)) (if c = 46 then 6 else c - 48), z_up (zs_b s) (base + (zs_k s - 1)) 0) := by
  unfold z_sg
  unfold z_am at h
  rw [if_neg (by omega), if_neg (by omega), if_neg (by omega), if_neg (by omega), if_neg (by omega)]
/-- due ahead of the i-th sign, places ahead of it -/
def z_du (t : Nat → Nat) (b : Nat) : Nat → Nat
  | 0 => 1
  | i + 1 => z_du t b i - 1 + z_pt (t (b + i))
theorem z_du_S (t : Nat → Nat) (b i : Nat) : z_du t b (i + 1) = z_du t b i - 1 + z_pt (t (b + i)) := rfl
def z_ac (t : Nat → Nat) (b : Nat) : Nat → Nat
  | 0 => 0
  | i + 1 => z_ac t b i + (if z_pt (t (b + i)) = 0 then 1 else 0)
theorem z_ac_S (t : Nat → Nat) (b i : Nat) : z_ac t b (i + 1) = z_ac t b i + (if z_pt (t (b + i)) = 0 then 1 else 0) := rfl
theorem z_ac_le (t : Nat → Nat) (b : Nat) : ∀ n, z_ac t b n ≤ n
  | 0 => Nat.le_refl _
  | n + 1 => by
    have := z_ac_le t b n
    rw [z_ac_S]
    split <;> omega
theorem z_ac_m (t : Nat → Nat) (b : Nat) {m n : Nat} (h : m ≤ n) : z_ac t b m ≤ z_ac t b n := by
  induction h with
  | refl => exact Nat.le_refl _
  | step _ ih => rw [z_ac_S]; omega
/-- a row that may be -/
def z_vr (t : Nat → Nat) (b n : Nat) : Prop := (∀ i, i < n → z_sn (t (b + i)) ∧ 0 < z_du t b i) ∧ z_du t b n = 0 ∧ n ≤ 16
theorem z_vr_du {t : Nat → Nat} {b n : Nat} (h : z_vr t b n) : ∀ m i, i + m = n → z_du t b i ≤ m
  | 0, i, e => by
    have := h.2.1
    rw [show i = n by omega, this]; omega
  | m + 1, i, e => by
    have h1 := z_vr_du h m (i + 1) (by omega)
    rw [z_du_S] at h1
    omega
theorem z_pt_38 : z_pt 38 = 2 := rfl
theorem z_pt_124 : z_pt 124 = 2 := rfl
theorem z_pt_42 : z_pt 42 = 1 := rfl
theorem z_pt_43 : z_pt 43 = 1 := rfl
theorem z_pt_63 : z_pt 63 = 1 := rfl
theorem z_pt_am {c : Nat} (h : z_am c) : z_pt c = 0 := by
  unfold z_am at h
  unfold z_pt
  rw [if_neg (by omega), if_neg (by omega)]
/-- all places set so far, the part's bits among them -/
def z_rng (a b s : Nat) : Prop := ∀ j, s.testBit j = true → a ≤ j ∧ j < b
theorem z_rng_lt {a b s : Nat} (h : z_rng a b s) : s < 2 ^ b := by
  rcases Nat.lt_or_ge s (2 ^ b) with q | q
  · exact q
  · obtain ⟨i, hi, hb⟩ := Nat.exists_ge_and_testBit_of_ge_two_pow q
    have := (h i hb).2
    omega
theorem z_rng_or {a b s u : Nat} (h : z_rng a b s) (h2 : z_rng a b u) : z_rng a b (s ||| u) := by
  intro j hj
  rw [Nat.testBit_or, Bool.or_eq_true] at hj
  rcases hj with hj | hj
  · exact h j hj
  · exact h2 j hj
theorem z_rng_0 (a b : Nat) : z_rng a b 0 := by
  intro j hj
  rw [Nat.zero_testBit] at hj
  cases hj
theorem z_rng_m {a a' b s : Nat} (h : z_rng a b s) (ha : a' ≤ a) : z_rng a' b s := fun j hj => ⟨by have := (h j hj).1; omega, (h j hj).2⟩
theorem z_rng_2 {a b p : Nat} (h1 : a ≤ p) (h2 : p < b) : z_rng a b (2 ^ p) := by
  intro j hj
  rw [Nat.testBit_two_pow] at hj
  have e : p = j := by simpa using hj
  omega
theorem z_rng_if {a b s : Nat} (c : Bool) (h : z_rng a b s) : z_rng a b (if c then s else 0) := by
  cases c with
  | true => exact h
  | false => exact z_rng_0 a b
/-- what holds of a row's reading: how high the pile is, how many places are still to come, bits -/
def zJ (base many h k : Nat) (s : zS) : Prop := zs_h s = h ∧ zs_k s = k ∧ (∀ i, i < h → z_rng (base + k) (base + many) (zs_f s i) ∧ z_rng (base + k) (base + many) (zs_l s i)) ∧ ∀ p, base + k ≤ p → p < base + many → zs_t s p ≤ 6 ∧ z_rng (base + k) (base + many) (zs_b s p)
/-- what is not this row's stays -/
def zJo (base : Nat) (s : zS) (tk bh : Nat → Nat) : Prop := ∀ p, p < base → zs_t s p = tk p ∧ zs_b s p = bh p
theorem zJ.sg {base many i c : Nat} {s : zS} {t : Nat → Nat} {b : Nat} (hc : t (b + i) = c) (hs : z_sn c) (hd : 0 < z_du t b i) (hm : z_ac t b (i + 1) ≤ many) (h : zJ base many (z_du t b (i + 1)) (z_ac t b (i + 1)) s) : zJ base many (z_du t b i) (z_ac t b i) (z_sg base c s) := by
  obtain ⟨h1, h2, h3, h4⟩ := h
  rw [z_du_S, hc] at h1 h3
  rw [z_ac_S, hc] at h2 h3 h4 hm
  have keep : ∀ s' : zS, z_pt c ≠ 0 → zs_h s' = z_du t b i → zs_k s' = zs_k s → (∀ j, j < z_du t b i → z_rng (base + z_ac t b i) (base + many) (zs_f s' j) ∧ z_rng (base + z_ac t b i) (base + many) (zs_l s' j)) → zs_t s' = zs_t s → (∀ p, base + z_ac t b i ≤ p → p < base + many → z_rng (base + z_ac t b i) (base + many) (zs_b s' p)) → zJ base many (z_du t b i) (z_ac t b i) s' := by
    intro s' hp e1 e2 e3 e4 e5
    rw [if_neg hp] at h2 h4
    exact ⟨e1, by rw [e2, h2]; rfl, e3, fun p p1 p2 => ⟨by rw [e4]; exact (h4 p p1 p2).1, e5 p p1 p2⟩⟩
  rcases hs with rfl | rfl | rfl | rfl | rfl | hs
  · rw [z_pt_38] at h1 h2 h3 h4
    rw [if_neg (by omega)] at h2 h3 h4
    have g1 := h3 (zs_h s - 1) (by omega)
    have g2 := h3 (zs_h s - 2) (by omega)
    rw [z_sg_and]
    refine keep _ (by decide) (by show zs_h s - 1 = _; omega) rfl (fun j hj => ?_) rfl (fun p p1 p2 => ?_)
    · show z_rng _ _ (z_up (zs_f s) (zs_h s - 2) _ j) ∧ z_rng _ _ (z_up (zs_l s) (zs_h s - 2) _ j)
      by_cases e : j = zs_h s - 2
      · rw [e, zp_s, zp_s]
        exact ⟨z_rng_or g1.1 (z_rng_if _ g2.1), z_rng_or g2.2 (z_rng_if _ g1.2)⟩
      · rw [zp_n e, zp_n e]; exact h3 j (by omega)
    · show z_rng _ _ (z_fol (zs_b s) _ _ p)
      unfold z_fol
      split
      · exact z_rng_or (h4 p p1 p2).2 g2.1
      · exact (h4 p p1 p2).2
  · rw [z_pt_124] at h1 h2 h3 h4
    rw [if_neg (by omega)] at h2 h3 h4
    have g1 := h3 (zs_h s - 1) (by omega)
    have g2 := h3 (zs_h s - 2) (by omega)
    rw [z_sg_or]
    refine keep _ (by decide) (by show zs_h s - 1 = _; omega) rfl (fun j hj => ?_) rfl (fun p p1 p2 => (h4 p p1 p2).2)
    show z_rng _ _ (z_up (zs_f s) (zs_h s - 2) _ j) ∧ z_rng _ _ (z_up (zs_l s) (zs_h s - 2) _ j)
    by_cases e : j = zs_h s - 2
    · rw [e, zp_s, zp_s]
      exact ⟨z_rng_or g2.1 g1.1, z_rng_or g2.2 g1.2⟩
    · rw [zp_n e, zp_n e]; exact h3 j (by omega)
  · rw [z_pt_42] at h1 h2 h3 h4
    rw [if_neg (by omega)] at h2 h3 h4
    have g1 := h3 (zs_h s - 1) (by omega)
    rw [z_sg_star]
    refine keep _ (by decide) (by show zs_h s = _; omega) rfl (fun j hj => h3 j (by omega)) rfl (fun p p1 p2 => ?_)
    show z_rng _ _ (z_fol (zs_b s) _ _ p)
    unfold z_fol
    split
    · exact z_rng_or (h4 p p1 p2).2 g1.1
    · exact (h4 p p1 p2).2
  · rw [z_pt_43] at h1 h2 h3 h4
    rw [if_neg (by omega)] at h2 h3 h4
    have g1 := h3 (zs_h s - 1) (by omega)
    rw [z_sg_plus]
    refine keep _ (by decide) (by show zs_h s = _; omega) rfl (fun j hj => h3 j (by omega)) rfl (fun p p1 p2 => ?_)
    show z_rng _ _ (z_fol (zs_b s) _ _ p)
    unfold z_fol
    split
    · exact z_rng_or (h4 p p1 p2).2 g1.1
    · exact (h4 p p1 p2).2
  · rw [z_pt_63] at h1 h2 h3 h4
    rw [if_neg (by omega)] at h2 h3 h4
    rw [z_sg_may]
    exact keep _ (by decide) (by show zs_h s = _; omega) rfl (fun j hj => h3 j (by omega)) rfl (fun p p1 p2 => (h4 p p1 p2).2)
  · have hp := z_pt_am hs
    rw [hp] at h1 h2 h3 h4 hm
    rw [if_pos rfl] at h2 h3 h4 hm
    rw [z_sg_am hs]
    have ek : base + (zs_k s - 1) = base + z_ac t b i := by omega
    refine ⟨by show zs_h s + 1 = _; omega, by show zs_k s - 1 = _; omega, fun j hj => ?_, fun p p1 p2 => ?_⟩
    · show z_rng _ _ (z_up (zs_f s) (zs_h s) _ j) ∧ z_rng _ _ (z_up (zs_l s) (zs_h s) _ j)
      by_cases e : j = zs_h s
      · rw [e, zp_s, zp_s, ek]
        exact ⟨z_rng_2 (Nat.le_refl _) (by omega), z_rng_2 (Nat.le_refl _) (by omega)⟩
      · rw [zp_n e, zp_n e]
        have := h3 j (by omega)
        exact ⟨z_rng_m this.1 (by omega), z_rng_m this.2 (by omega)⟩
    · show z_up (zs_t s) _ _ p ≤ 6 ∧ z_rng _ _ (z_up (zs_b s) _ _ p)
      rw [ek]
      by_cases e : p = base + z_ac t b i
      · rw [e, zp_s, zp_s]
        refine ⟨?_, z_rng_0 _ _⟩
        unfold z_am at hs
        split <;> omega
      · rw [zp_n e, zp_n e]
        have := h4 p (by omega) p2
        exact ⟨this.1, z_rng_m this.2 (by omega)⟩
theorem zJo.sg {base many h k c : Nat} {s : zS} {tk bh : Nat → Nat} (hs : z_sn c) (hp : z_pt c ≤ h) (hJ : zJ base many h k s) (ho : zJo base s tk bh) : zJo base (z_sg base c s) tk bh := by
  obtain ⟨h1, h2, h3, h4⟩ := hJ
  have nb : ∀ i p, i < h → p < base → (zs_l s i).testBit p = false := by
    intro i p hi hp2
    cases e : (zs_l s i).testBit p with
    | false => rfl
    | true => have := ((h3 i hi).2 p e).1; omega
  intro p hpb
  have o := ho p hpb
  rcases hs with rfl | rfl | rfl | rfl | rfl | hs
  · rw [z_pt_38] at hp
    rw [z_sg_and]
    refine ⟨o.1, ?_⟩
    show z_fol (zs_b s) _ _ p = _
    unfold z_fol
    rw [nb _ p (by omega) hpb]
    exact o.2
  · rw [z_sg_or]; exact o
  · rw [z_pt_42] at hp
    rw [z_sg_star]
    refine ⟨o.1, ?_⟩
    show z_fol (zs_b s) _ _ p = _
    unfold z_fol
    rw [nb _ p (by omega) hpb]
    exact o.2
  · rw [z_pt_43] at hp
    rw [z_sg_plus]
    refine ⟨o.1, ?_⟩
    show z_fol (zs_b s) _ _ p = _
    unfold z_fol
    rw [nb _ p (by omega) hpb]
    exact o.2
  · rw [z_sg_may]; exact o
  · rw [z_sg_am hs]
    show z_up (zs_t s) _ _ p = _ ∧ z_up (zs_b s) _ _ p = _
    rw [zp_n (by omega), zp_n (by omega)]
    exact o

