/-! how many letters a way stands behind: the list of all ways goes by that -/
theorem z_fall_0 (q : zR) (kn : Nat → Nat) (x : Nat) : z_go q kn 0 x = 0 := z_go_0 q kn x
def zI (bg : Nat → Nat) (go : Nat → Nat → Nat) (P : List Nat × List Nat) (hi : Nat) : Prop :=
  zQ P ∧ (∀ a b, a ≤ b → b < P.1.length → z_nth P.2 a ≤ z_nth P.2 b) ∧ (∀ b, b < P.1.length → z_nth P.2 b ≤ hi) ∧
  ∀ k, k < P.1.length → (z_nth P.2 k = 1 ∧ ∃ x, x < 6 ∧ z_nth P.1 k = bg x) ∨ ∃ a x, a < P.1.length ∧ x < 6 ∧ 1 ≤ z_nth P.2 a ∧ z_nth P.2 k = z_nth P.2 a + 1 ∧ z_nth P.1 k = go (z_nth P.1 a) x ∧ ¬ go (z_nth P.1 a) x = 0
theorem zI.put {bg : Nat → Nat} {go : Nat → Nat → Nat} {P : List Nat × List Nat} {hi s : Nat} (h : zI bg go P hi) (hs : s < 1024)
    (hj : (hi = 1 ∧ ∃ x, x < 6 ∧ s = bg x) ∨ ∃ a x, a < P.1.length ∧ x < 6 ∧ 1 ≤ z_nth P.2 a ∧ hi = z_nth P.2 a + 1 ∧ s = go (z_nth P.1 a) x ∧ ¬ go (z_nth P.1 a) x = 0) : zI bg go (z_meet P.1 s, z_mf P.1 P.2 s hi) hi := by
  refine ⟨h.1.put hi hs, ?_⟩
  have hlen := h.1.2
  by_cases e : s ∈ P.1
  · unfold z_mf
    rw [z_meet_in e, if_pos e]
    exact h.2
  · unfold z_mf
    rw [z_meet_out e, if_neg e]
    show (∀ a b, a ≤ b → b < (P.1 ++ [s]).length → z_nth (P.2 ++ [hi]) a ≤ z_nth (P.2 ++ [hi]) b) ∧ (∀ b, b < (P.1 ++ [s]).length → z_nth (P.2 ++ [hi]) b ≤ hi) ∧ ∀ k, k < (P.1 ++ [s]).length → (z_nth (P.2 ++ [hi]) k = 1 ∧ ∃ x, x < 6 ∧ z_nth (P.1 ++ [s]) k = bg x) ∨ ∃ a x, a < (P.1 ++ [s]).length ∧ x < 6 ∧ 1 ≤ z_nth (P.2 ++ [hi]) a ∧ z_nth (P.2 ++ [hi]) k = z_nth (P.2 ++ [hi]) a + 1 ∧ z_nth (P.1 ++ [s]) k = go (z_nth (P.1 ++ [s]) a) x ∧ ¬ go (z_nth (P.1 ++ [s]) a) x = 0
    have l1 : (P.1 ++ [s]).length = P.1.length + 1 := by rw [List.length_append]; rfl
    have m1 : z_nth (P.2 ++ [hi]) P.1.length = hi := by rw [← hlen]; exact z_nth_r _ _
    have m2 : ∀ j, j < P.1.length → z_nth (P.2 ++ [hi]) j = z_nth P.2 j := fun j hj => z_nth_l _ (by rw [hlen]; exact hj)
    rw [l1]
    have mle : ∀ b, b < P.1.length + 1 → z_nth (P.2 ++ [hi]) b ≤ hi := by
      intro b hb
      by_cases q : b = P.1.length
      · rw [q, m1]; exact Nat.le_refl _
      · rw [m2 b (by omega)]; exact h.2.2.1 b (by omega)
    refine ⟨fun a b hab hb => ?_, mle, fun k hk => ?_⟩
    · by_cases q : b = P.1.length
      · rw [q, m1]; exact mle a (by omega)
      · rw [m2 b (by omega), m2 a (by omega)]; exact h.2.1 a b hab (by omega)
    · by_cases q : k = P.1.length
      · rw [q, m1, z_nth_r]
        rcases hj with h1 | ⟨a, x, a1, a2, a3, a4, a5, a6⟩
        · exact Or.inl h1
        · exact Or.inr ⟨a, x, by omega, a2, by rw [m2 a a1]; exact a3, by rw [m2 a a1]; exact a4, by rw [z_nth_l _ a1]; exact a5, by rw [z_nth_l _ a1]; exact a6⟩
      · rw [m2 k (by omega), z_nth_l _ (by omega)]
        rcases h.2.2.2 k (by omega) with h1 | ⟨a, x, a1, a2, a3, a4, a5, a6⟩
        · exact Or.inl h1
        · exact Or.inr ⟨a, x, by omega, a2, by rw [m2 a a1]; exact a3, by rw [m2 a a1]; exact a4, by rw [z_nth_l _ a1]; exact a5, by rw [z_nth_l _ a1]; exact a6⟩
theorem zI.up {bg : Nat → Nat} {go : Nat → Nat → Nat} {P : List Nat × List Nat} {hi hi' : Nat} (h : zI bg go P hi) (hh : ∀ b, b < P.1.length → z_nth P.2 b ≤ hi') : zI bg go P hi' := ⟨h.1, h.2.1, hh, h.2.2.2⟩
theorem z_p1_I {bg : Nat → Nat} (go : Nat → Nat → Nat) (hb : ∀ x, x < 6 → bg x < 1024) : ∀ n, n ≤ 6 → zI bg go (z_p1 bg n) 1
  | 0, _ => ⟨zQ_nil, fun a b _ hb => absurd hb (Nat.not_lt_zero _), fun b hb => absurd hb (Nat.not_lt_zero _), fun k hk => absurd hk (Nat.not_lt_zero _)⟩
  | n + 1, hn => (z_p1_I go hb n (by omega)).put (hb n (by omega)) (Or.inl ⟨rfl, n, by omega, rfl⟩)
theorem z_p1_M {bg : Nat → Nat} (hb : ∀ x, x < 6 → bg x < 1024) : ∀ n, n ≤ 6 → ∀ j, j < (z_p1 bg n).1.length → z_nth (z_p1 bg n).2 j = 1
  | 0, _, j, hj => absurd hj (Nat.not_lt_zero _)
  | n + 1, hn, j, hj => by
    have hQ := z_p1_Q hb n (by omega)
    rw [z_p1_S] at hj ⊢
    by_cases e : bg n ∈ (z_p1 bg n).1
    · have hj' : j < (z_meet (z_p1 bg n).1 (bg n)).length := hj
      rw [z_meet_in e] at hj'
      show z_nth (z_mf (z_p1 bg n).1 (z_p1 bg n).2 (bg n) 1) j = 1
      unfold z_mf
      rw [if_pos e]
      exact z_p1_M hb n (by omega) j hj'
    · have hj' : j < (z_meet (z_p1 bg n).1 (bg n)).length := hj
      rw [z_meet_out e, List.length_append] at hj'
      have hj' : j < (z_p1 bg n).1.length + 1 := hj'
      show z_nth (z_mf (z_p1 bg n).1 (z_p1 bg n).2 (bg n) 1) j = 1
      unfold z_mf
      rw [if_neg e]
      by_cases q : j = (z_p1 bg n).1.length
      · rw [q, ← hQ.2]; exact z_nth_r _ _
      · rw [z_nth_l _ (by rw [hQ.2]; omega)]
        exact z_p1_M hb n (by omega) j (by omega)
/-- where the first i ways lead lies in the list, not far behind them -/
def zCl (go : Nat → Nat → Nat) (P : List Nat × List Nat) (i : Nat) : Prop := ∀ a x, a < i → a < P.1.length → x < 6 → ¬ go (z_nth P.1 a) x = 0 → ∃ k, k < P.1.length ∧ z_nth P.1 k = go (z_nth P.1 a) x ∧ z_nth P.2 k ≤ z_nth P.2 a + 1
theorem z_p2_I {bg : Nat → Nat} {go : Nat → Nat → Nat} {P : List Nat × List Nat} {i : Nat} (hg : ∀ s x, x < 6 → go s x < 1024) (hi : i < P.1.length) (h1 : 1 ≤ z_nth P.2 i) (h : zI bg go P (z_nth P.2 i + 1)) : ∀ n, n ≤ 6 → zI bg go (z_p2 go (z_nth P.1 i) (z_nth P.2 i) P n) (z_nth P.2 i + 1)
  | 0, _ => h
  | n + 1, hn => by
    have ih := z_p2_I hg hi h1 h n (by omega)
    rw [z_p2_S]
    by_cases e : go (z_nth P.1 i) n = 0
    · rw [if_pos e]; exact ih
    · rw [if_neg e]
      obtain ⟨l1, l2⟩ := z_p2_pre (go := go) (s := z_nth P.1 i) (f := z_nth P.2 i) (P := P) n
      have l3 := z_p2_pre2 (f := z_nth P.2 i) h.1 (hg (z_nth P.1 i)) n (by omega) i hi
      refine ih.put (hg _ n (by omega)) (Or.inr ⟨i, n, by omega, by omega, by rw [l3]; exact h1, by rw [l3], by rw [l2 i hi], by rw [l2 i hi]; exact e⟩)
theorem z_p2_mem {go : Nat → Nat → Nat} {s f : Nat} {P : List Nat × List Nat} : ∀ n x, x < n → ¬ go s x = 0 → go s x ∈ (z_p2 go s f P n).1
  | 0, x, hx, _ => absurd hx (Nat.not_lt_zero _)
  | n + 1, x, hx, h => by
    rw [z_p2_S]
    by_cases q : x = n
    · subst q
      rw [if_neg h]
      exact z_meet_self _ _
    · have ih := z_p2_mem (f := f) (P := P) n x (by omega) h
      split
      · exact ih
      · exact z_meet_mem ih
theorem z_p2_C {bg : Nat → Nat} {go : Nat → Nat → Nat} {P : List Nat × List Nat} {i : Nat} (hg : ∀ s x, x < 6 → go s x < 1024) (hi : i < P.1.length) (h1 : 1 ≤ z_nth P.2 i) (h : zI bg go P (z_nth P.2 i + 1)) (hC : zCl go P i) : zCl go (z_p2 go (z_nth P.1 i) (z_nth P.2 i) P 6) (i + 1) := by
  have hI := z_p2_I hg hi h1 h 6 (by omega)
  obtain ⟨l1, l2⟩ := z_p2_pre (go := go) (s := z_nth P.1 i) (f := z_nth P.2 i) (P := P) 6
  have l3 := z_p2_pre2 (f := z_nth P.2 i) h.1 (hg (z_nth P.1 i)) 6 (by omega)
  intro a x ha ha2 hx hne
  by_cases q : a = i
  · subst q
    rw [l2 a hi] at hne ⊢
    rw [l3 a hi]
    obtain ⟨k, k1, k2⟩ := z_nth_of (z_p2_mem (f := z_nth P.2 a) (P := P) 6 x hx hne)
    exact ⟨k, k1, k2, hI.2.2.1 k k1⟩
  · rw [l2 a (by omega)] at hne ⊢
    rw [l3 a (by omega)]
    obtain ⟨k, k1, k2, k3⟩ := hC a x (by omega) (by omega) hx hne
    exact ⟨k, by omega, by rw [l2 k k1]; exact k2, by rw [l3 k k1]; exact k3⟩
theorem zI.one {bg : Nat → Nat} {go : Nat → Nat → Nat} {P : List Nat × List Nat} {hi k : Nat} (h : zI bg go P hi) (hk : k < P.1.length) : 1 ≤ z_nth P.2 k := by
  rcases h.2.2.2 k hk with h1 | ⟨a, x, a1, a2, a3, a4, a5, a6⟩
  · omega
  · omega
theorem z_p3_I {bg : Nat → Nat} {go : Nat → Nat → Nat} (hb : ∀ x, x < 6 → bg x < 1024) (hg : ∀ s x, x < 6 → go s x < 1024) : ∀ i, ∃ hi, hi ≤ i + 1 ∧ zI bg go (z_p3 bg go i) hi ∧ (i < (z_p3 bg go i).1.length → hi ≤ z_nth (z_p3 bg go i).2 i + 1) ∧ zCl go (z_p3 bg go i) i ∧ ∀ x, x < 6 → ∃ k, k < (z_p3 bg go i).1.length ∧ z_nth (z_p3 bg go i).1 k = bg x ∧ z_nth (z_p3 bg go i).2 k = 1
  | 0 => by
    refine ⟨1, by omega, z_p1_I go hb 6 (by omega), fun _ => Nat.le_add_left _ _, fun a x ha => absurd ha (Nat.not_lt_zero _), fun x hx => ?_⟩
    obtain ⟨k, k1, k2⟩ := z_nth_of (z_p1_B bg 6 x hx)
    exact ⟨k, k1, k2, z_p1_M hb 6 (by omega) k k1⟩
  | i + 1 => by
    obtain ⟨hi, hh, h1, h2, h3, h4⟩ := z_p3_I hb hg i
    rw [z_p3_S]
    by_cases e : i < (z_p3 bg go i).1.length
    · rw [if_pos e]
      have h2 := h2 e
      have o1 := h1.one e
      have hI := h1.up (hi' := z_nth (z_p3 bg go i).2 i + 1) (fun b hb => Nat.le_trans (h1.2.2.1 b hb) h2)
      have hI2 := z_p2_I hg e o1 hI 6 (by omega)
      obtain ⟨l1, l2⟩ := z_p2_pre (go := go) (s := z_nth (z_p3 bg go i).1 i) (f := z_nth (z_p3 bg go i).2 i) (P := z_p3 bg go i) 6
      have l3 := z_p2_pre2 (f := z_nth (z_p3 bg go i).2 i) h1.1 (hg (z_nth (z_p3 bg go i).1 i)) 6 (by omega)
      have hh2 := h1.2.2.1 i e
      refine ⟨z_nth (z_p3 bg go i).2 i + 1, by omega, hI2, fun e2 => ?_, z_p2_C hg e o1 hI h3, fun x hx => ?_⟩
      · have s1 := hI2.2.1 i (i + 1) (by omega) e2
        rw [l3 i e] at s1
        omega
      · obtain ⟨k, k1, k2, k3⟩ := h4 x hx
        exact ⟨k, by omega, by rw [l2 k k1]; exact k2, by rw [l3 k k1]; exact k3⟩
    · rw [if_neg e]
      exact ⟨hi, by omega, h1, fun e2 => by omega, fun a x ha ha2 hx hne => h3 a x (by omega) ha2 hx hne, h4⟩
/-- all that is needed of the list in the end -/
theorem z_pe_I {bg : Nat → Nat} {go : Nat → Nat → Nat} (hb : ∀ x, x < 6 → bg x < 1024) (hg : ∀ s x, x < 6 → go s x < 1024) : ∃ hi, hi ≤ 1025 ∧ zI bg go (z_pe bg go) hi ∧ zCl go (z_pe bg go) (z_pe bg go).1.length ∧ ∀ x, x < 6 → ∃ k, k < (z_pe bg go).1.length ∧ z_nth (z_pe bg go).1 k = bg x ∧ z_nth (z_pe bg go).2 k = 1 := by
  obtain ⟨hi, hh, h1, -, h3, h4⟩ := z_p3_I hb hg 1024
  refine ⟨hi, hh, h1, fun a x ha ha2 hx hne => ?_, h4⟩
  have hlen := h1.1.1.len
  exact h3 a x (Nat.lt_of_lt_of_le ha hlen) ha2 hx hne
