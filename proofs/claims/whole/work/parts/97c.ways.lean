def z_mf (L M : List Nat) (s f : Nat) : List Nat := if s ∈ L then M else M ++ [f]
def z_p1 (bg : Nat → Nat) : Nat → List Nat × List Nat
  | 0 => ([], [])
  | n + 1 => (z_meet (z_p1 bg n).1 (bg n), z_mf (z_p1 bg n).1 (z_p1 bg n).2 (bg n) 1)
def z_p2 (go : Nat → Nat → Nat) (s f : Nat) (P : List Nat × List Nat) : Nat → List Nat × List Nat
  | 0 => P
  | n + 1 => if go s n = 0 then z_p2 go s f P n else (z_meet (z_p2 go s f P n).1 (go s n), z_mf (z_p2 go s f P n).1 (z_p2 go s f P n).2 (go s n) (f + 1))
def z_p3 (bg : Nat → Nat) (go : Nat → Nat → Nat) : Nat → List Nat × List Nat
  | 0 => z_p1 bg 6
  | i + 1 => if i < (z_p3 bg go i).1.length then z_p2 go (z_nth (z_p3 bg go i).1 i) (z_nth (z_p3 bg go i).2 i) (z_p3 bg go i) 6 else z_p3 bg go i
theorem z_p1_S (bg : Nat → Nat) (n : Nat) : z_p1 bg (n + 1) = (z_meet (z_p1 bg n).1 (bg n), z_mf (z_p1 bg n).1 (z_p1 bg n).2 (bg n) 1) := rfl
theorem z_p2_S (go : Nat → Nat → Nat) (s f : Nat) (P : List Nat × List Nat) (n : Nat) : z_p2 go s f P (n + 1) = if go s n = 0 then z_p2 go s f P n else (z_meet (z_p2 go s f P n).1 (go s n), z_mf (z_p2 go s f P n).1 (z_p2 go s f P n).2 (go s n) (f + 1)) := rfl
theorem z_p3_S (bg : Nat → Nat) (go : Nat → Nat → Nat) (i : Nat) : z_p3 bg go (i + 1) = if i < (z_p3 bg go i).1.length then z_p2 go (z_nth (z_p3 bg go i).1 i) (z_nth (z_p3 bg go i).2 i) (z_p3 bg go i) 6 else z_p3 bg go i := rfl
/-- a pair of lists: ways, and the letters that each takes -/
def zQ (P : List Nat × List Nat) : Prop := zL P.1 ∧ P.2.length = P.1.length
theorem z_mf_len {L M : List Nat} {s f : Nat} (h : M.length = L.length) : (z_mf L M s f).length = (z_meet L s).length := by
  unfold z_mf z_meet
  by_cases e : s ∈ L
  · rw [if_pos e, if_pos e]; exact h
  · rw [if_neg e, if_neg e, List.length_append, List.length_append, h]; rfl
theorem zQ.put {P : List Nat × List Nat} (h : zQ P) {s : Nat} (f : Nat) (hs : s < 1024) : zQ (z_meet P.1 s, z_mf P.1 P.2 s f) := ⟨h.1.meet hs, z_mf_len h.2⟩
theorem zQ_nil : zQ ([], []) := ⟨⟨List.nodup_nil, fun s h => absurd h List.not_mem_nil⟩, rfl⟩
theorem z_p1_Q {bg : Nat → Nat} (hb : ∀ x, x < 6 → bg x < 1024) : ∀ n, n ≤ 6 → zQ (z_p1 bg n)
  | 0, _ => zQ_nil
  | n + 1, h => (z_p1_Q hb n (by omega)).put 1 (hb n (by omega))
theorem z_p2_Q {go : Nat → Nat → Nat} {s f : Nat} {P : List Nat × List Nat} (hP : zQ P) (hg : ∀ x, x < 6 → go s x < 1024) : ∀ n, n ≤ 6 → zQ (z_p2 go s f P n)
  | 0, _ => hP
  | n + 1, h => by
    rw [z_p2_S]
    split
    · exact z_p2_Q hP hg n (by omega)
    · exact (z_p2_Q hP hg n (by omega)).put (f + 1) (hg n (by omega))
theorem z_p3_Q {bg : Nat → Nat} {go : Nat → Nat → Nat} (hb : ∀ x, x < 6 → bg x < 1024) (hg : ∀ s x, x < 6 → go s x < 1024) : ∀ i, zQ (z_p3 bg go i)
  | 0 => z_p1_Q hb 6 (Nat.le_refl _)
  | i + 1 => by
    rw [z_p3_S]
    split
    · exact z_p2_Q (z_p3_Q hb hg i) (hg _) 6 (Nat.le_refl _)
    · exact z_p3_Q hb hg i
theorem z_p3_st {bg : Nat → Nat} {go : Nat → Nat → Nat} {i : Nat} (h : (z_p3 bg go i).1.length ≤ i) : ∀ m, z_p3 bg go (i + m) = z_p3 bg go i
  | 0 => rfl
  | m + 1 => by
    have ih := z_p3_st h m
    rw [show i + (m + 1) = (i + m) + 1 by omega, z_p3_S, ih, if_neg (by omega)]
/-- what is far enough on holds of the lists in the end -/
def z_pe (bg : Nat → Nat) (go : Nat → Nat → Nat) : List Nat × List Nat := z_p3 bg go 1024
theorem z_pe_of {bg : Nat → Nat} {go : Nat → Nat → Nat} {i : Nat} (hi : i ≤ 1024) (h : (z_p3 bg go i).1.length ≤ i) : z_p3 bg go i = z_pe bg go := by
  have := z_p3_st h (1024 - i)
  rw [show i + (1024 - i) = 1024 by omega] at this
  exact this.symm
/-- the letters of the ways, as the class holds them -/
def xF (M : List Nat) (fewest : zF) : Prop := ∀ j, j < M.length → fewest j = nI (z_nth M j)
theorem xF.put {P : List Nat × List Nat} {fewest fewest' : zF} {s f : Nat} (hP : zQ P) (h : xF P.2 fewest) (h1 : ∀ j, j < P.1.length → fewest' j = fewest j) (h2 : ¬ s ∈ P.1 → fewest' P.1.length = nI f) : xF (z_mf P.1 P.2 s f) fewest' := by
  have hl := hP.2
  unfold z_mf
  by_cases e : s ∈ P.1
  · rw [if_pos e]
    exact fun j hj => by rw [h1 j (by omega)]; exact h j hj
  · rw [if_neg e]
    intro j hj
    rw [List.length_append] at hj
    have hj' : j < P.2.length + 1 := hj
    by_cases e2 : j = P.2.length
    · rw [e2, z_nth_r, hl]; exact h2 e
    · rw [z_nth_l _ (by omega), h1 j (by omega)]; exact h j (by omega)
/-- where the beginnings lie -/
def xB (bg : Nat → Nat) (L : List Nat) (begun : zF) (n : Nat) : Prop := ∀ x, x < n → ∃ k, k < L.length ∧ z_nth L k = bg x ∧ begun x = nI k
theorem xB.meet {bg : Nat → Nat} {L : List Nat} {begun : zF} {n : Nat} (h : xB bg L begun n) (s : Nat) : xB bg (z_meet L s) begun n := by
  intro x hx
  obtain ⟨k, h1, h2, h3⟩ := h x hx
  exact ⟨k, Nat.lt_of_lt_of_le h1 (z_len_meet L s), by rw [z_nth_meet s h1]; exact h2, h3⟩
theorem sx_find29 {q : zR} {kn : Nat → Nat} {fi lo : Int32} {on ta st0 fe0 no0 be0 : zF} {E : Int32 → zF → zF → zF → zF → Prop} (hq : zW q) (hS : xS q kn fi lo on ta) (h0 : ∀ s, s < 1024 → no0 s = -4)
    (h : ∀ (number : Int32) (stands fewest numberOf begun : zF), xL (-4) (z_p1 (z_bgn q 0) 6).1 number stands numberOf → xF (z_p1 (z_bgn q 0) 6).2 fewest → xB (z_bgn q 0) (z_p1 (z_bgn q 0) 6).1 begun 6 → E number stands fewest numberOf begun) : ∃ n, lp_X8_find_29 fi ta E n (nI 0) (nI 0) st0 fe0 no0 be0 := by
  have hb : ∀ x, x < 6 → z_bgn q 0 x < 1024 := fun x _ => hq.bnd (z_bgn_lt q 0 x)
  refine zl_inv (σ := Int32 × zF × zF × zF × zF) (fun n x s => lp_X8_find_29 fi ta E n (nI x) s.1 s.2.1 s.2.2.1 s.2.2.2.1 s.2.2.2.2) (fun x s => x ≤ 6 ∧ xL (-4) (z_p1 (z_bgn q 0) x).1 s.1 s.2.1 s.2.2.2.1 ∧ xF (z_p1 (z_bgn q 0) x).2 s.2.2.1 ∧ xB (z_bgn q 0) (z_p1 (z_bgn q 0) x).1 s.2.2.2.2 x) 6 ?_ ?_ 0 (nI 0, st0, fe0, no0, be0) (Nat.zero_le _) ⟨Nat.zero_le _, ⟨rfl, fun i hi => absurd hi (Nat.not_lt_zero _), fun s hs _ => h0 s hs⟩, fun j hj => absurd hj (Nat.not_lt_zero _), fun x hx => absurd hx (Nat.not_lt_zero _)⟩
  · rintro n ⟨s1, s2, s3, s4, s5⟩ ⟨-, h1, h2, h3⟩
    show lp_X8_find_29 _ _ _ _ _ _ _ _ _ _
    rw [lp_X8_find_29]
    exact zb_t (by rw [zn_le (by omega) (by omega)]; omega) (h _ _ _ _ _ h1 h2 h3)
  · rintro n x ⟨s1, s2, s3, s4, s5⟩ hx ⟨-, h1, h2, h3⟩ ih
    have hQ := z_p1_Q hb x (by omega)
    show lp_X8_find_29 _ _ _ _ _ _ _ _ _ _
    rw [lp_X8_find_29]
    refine zb_f (by rw [zn_le (by omega) (by omega)]; omega) ?_
    refine sx_begunBy hS hx ?_
    rw [z_bgn_X]
    refine sx_numberFor hQ.1 h1 (hb x hx) (fun i st' fe' no' g1 g2 g3 g4 g5 => ?_)
    rw [zn_in (by omega), zn_cl (by omega)]
    refine ⟨hx, ?_⟩
    rintro _ rfl
    rintro _ rfl
    rw [zn_add]
    refine ih (_, _, _, _, _) ⟨by omega, g1, h2.put hQ g4 g5, ?_⟩
    intro y hy
    by_cases e : y = x
    · subst e
      exact ⟨i, g2, g3, zu_s⟩
    · obtain ⟨k, k1, k2, k3⟩ := h3.meet (z_bgn q 0 x) y (by omega)
      exact ⟨k, k1, k2, (zu_n e).trans k3⟩
