theorem sx_find59 {q : zR} {kn : Nat → Nat} {fi lo number0 : Int32} {on ta st0 fe0 no0 nx0 begun : zF} {E : Int32 → zF → zF → zF → zF → Prop} (hq : zW q) (hk : ∀ r, r < 4 → kn r < 4) (hS : xS q kn fi lo on ta) (h1 : xL (-4) (z_p1 (z_bgn q 0) 6).1 number0 st0 no0) (h2 : xF (z_p1 (z_bgn q 0) 6).2 fe0) (h3 : xB (z_bgn q 0) (z_p1 (z_bgn q 0) 6).1 begun 6)
    (h : ∀ (number : Int32) (stands fewest numberOf nexts : zF), xL (-4) (z_pe (z_bgn q 0) (z_go q kn)).1 number stands numberOf → xF (z_pe (z_bgn q 0) (z_go q kn)).2 fewest → xB (z_bgn q 0) (z_pe (z_bgn q 0) (z_go q kn)).1 begun 6 → (∀ a y, y < 6 → a < (z_pe (z_bgn q 0) (z_go q kn)).1.length → xN (z_go q kn) (z_pe (z_bgn q 0) (z_go q kn)).1 nexts a y) → E number stands fewest numberOf nexts) : ∃ n, lp_X8_find_59 lo on ta E n (nI 0) number0 st0 fe0 no0 nx0 := by
  have hb : ∀ x, x < 6 → z_bgn q 0 x < 1024 := fun x _ => hq.bnd (z_bgn_lt q 0 x)
  have hg : ∀ s x, x < 6 → z_go q kn s x < 1024 := fun s x _ => hq.bnd (z_go_lt hq kn s x)
  refine zl_m (σ := Nat × Int32 × zF × zF × zF × zF) (fun n s => lp_X8_find_59 lo on ta E n (nI s.1) s.2.1 s.2.2.1 s.2.2.2.1 s.2.2.2.2.1 s.2.2.2.2.2) (fun s => s.1 ≤ (z_p3 (z_bgn q 0) (z_go q kn) s.1).1.length ∧ xL (-4) (z_p3 (z_bgn q 0) (z_go q kn) s.1).1 s.2.1 s.2.2.1 s.2.2.2.2.1 ∧ xF (z_p3 (z_bgn q 0) (z_go q kn) s.1).2 s.2.2.2.1 ∧ xB (z_bgn q 0) (z_p3 (z_bgn q 0) (z_go q kn) s.1).1 begun 6 ∧ xNs (z_go q kn) (z_p3 (z_bgn q 0) (z_go q kn) s.1).1 s.2.2.2.2.2 s.1 0) (fun s => 1024 - s.1) ?_ (0, number0, st0, fe0, no0, nx0) ⟨Nat.zero_le _, h1, h2, h3, fun a y _ hay => by omega⟩
  rintro n ⟨i, s1, s2, s3, s4, s5⟩ ⟨g0, g1, g2, g3, g4⟩ ih
  have g0 : i ≤ (z_p3 (z_bgn q 0) (z_go q kn) i).1.length := g0
  have g1 : xL (-4) (z_p3 (z_bgn q 0) (z_go q kn) i).1 s1 s2 s4 := g1
  have g2 : xF (z_p3 (z_bgn q 0) (z_go q kn) i).2 s3 := g2
  have g3 : xB (z_bgn q 0) (z_p3 (z_bgn q 0) (z_go q kn) i).1 begun 6 := g3
  have g4 : xNs (z_go q kn) (z_p3 (z_bgn q 0) (z_go q kn) i).1 s5 i 0 := g4
  have hQ := z_p3_Q hb hg i
  have hlen := hQ.1.len
  show lp_X8_find_59 lo on ta E (n + 1) (nI i) s1 s2 s3 s4 s5
  rw [lp_X8_find_59, g1.1, zn_le (by omega) (by omega)]
  refine ⟨fun e => ?_, fun e => zb_f (by rw [zn_le (by omega) (by omega)]; omega) ?_⟩
  · have e2 := z_pe_of (by omega) e
    rw [e2] at g1 g2 g3 g4 e
    rw [e2, ← g1.1]
    exact h _ _ _ _ _ g1 g2 g3 (fun a y hy ha => g4 a y hy (Or.inl (by omega)))
  · intro E2 hE2
    refine sx_find76 (P := z_p3 (z_bgn q 0) (z_go q kn) i) hq hk hS hQ (by omega) (g1.1 ▸ g1) g2 g3 g4 (fun m1 m2 m3 m4 m5 k1 k2 k3 k4 => hE2 _ _ _ _ _ ?_)
    rintro _ rfl
    rw [zn_add]
    have e3 : z_p3 (z_bgn q 0) (z_go q kn) (i + 1) = z_p2 (z_go q kn) (z_nth (z_p3 (z_bgn q 0) (z_go q kn) i).1 i) (z_nth (z_p3 (z_bgn q 0) (z_go q kn) i).2 i) (z_p3 (z_bgn q 0) (z_go q kn) i) 6 := by
      rw [z_p3_S, if_pos (by omega)]
    have hl := (z_p2_pre (go := z_go q kn) (s := z_nth (z_p3 (z_bgn q 0) (z_go q kn) i).1 i) (f := z_nth (z_p3 (z_bgn q 0) (z_go q kn) i).2 i) (P := z_p3 (z_bgn q 0) (z_go q kn) i) 6).1
    refine ih (i + 1, m1, m2, m3, m4, m5) ⟨?_, ?_, ?_, ?_, ?_⟩ ?_
    · show i + 1 ≤ (z_p3 (z_bgn q 0) (z_go q kn) (i + 1)).1.length
      rw [e3]; omega
    · show xL (-4) (z_p3 (z_bgn q 0) (z_go q kn) (i + 1)).1 m1 m2 m4
      rw [e3]; exact k1
    · show xF (z_p3 (z_bgn q 0) (z_go q kn) (i + 1)).2 m3
      rw [e3]; exact k2
    · show xB (z_bgn q 0) (z_p3 (z_bgn q 0) (z_go q kn) (i + 1)).1 begun 6
      rw [e3]; exact k3
    · show xNs (z_go q kn) (z_p3 (z_bgn q 0) (z_go q kn) (i + 1)).1 m5 (i + 1) 0
      rw [e3]; exact k4
    · show 1024 - (i + 1) < 1024 - i
      omega
/-! the model's -/
theorem sp_all2 {at0 : zF} {E : zF → Prop} (h : ∀ at' : zF, (∀ s, s < 1024 → at' s = -1) → E at') : ∃ n, lp_X10_allWays_2 E n (nI 0) at0 := by
  refine zl_inv (σ := zF) (fun n i s => lp_X10_allWays_2 E n (nI i) s) (fun i s => ∀ j, j < i → s j = -1) 1024 ?_ ?_ 0 at0 (Nat.zero_le _) (fun j hj => absurd hj (Nat.not_lt_zero _))
  · intro n s hs
    rw [lp_X10_allWays_2]
    exact zb_t (by rw [zn_le (by omega) (by omega)]; omega) (h s hs)
  · intro n i s hi hs ih
    rw [lp_X10_allWays_2]
    refine zb_f (by rw [zn_le (by omega) (by omega)]; omega) ?_
    rw [zn_in (by omega), zn_cl (by omega)]
    refine ⟨hi, ?_⟩
    rintro _ rfl
    rintro _ rfl
    rw [zn_add]
    refine ih _ (fun j hj => ?_)
    by_cases e : j = i
    · subst e; exact zu_s
    · rw [zu_n e]; exact hs j (by omega)
theorem sp_all29 {q : zR} {rule takes way0 at0 : zF} {E : Int32 → zF → zF → Prop} (hq : zW q) (hr : ∀ r, r < z_nR q → rule r = nI (z_fst q r)) (ht : ∀ p, p < z_nP q → takes p = nI (z_tk q p)) (h0 : ∀ s, s < 1024 → at0 s = -1)
    (h : ∀ (way' at' : zF), xL (-1) (z_p1 (z_bgn q 0) 6).1 (nI (z_p1 (z_bgn q 0) 6).1.length) way' at' → E (nI (z_p1 (z_bgn q 0) 6).1.length) way' at') : ∃ n, lp_X10_allWays_29 (nI (z_nR q)) (nI (z_nP q)) (nI 0) rule takes E n (nI 0) (nI 0) way0 at0 := by
  have hb : ∀ x, x < 6 → z_bgn q 0 x < 1024 := fun x _ => hq.bnd (z_bgn_lt q 0 x)
  refine zl_inv (σ := zF × zF) (fun n x s => lp_X10_allWays_29 (nI (z_nR q)) (nI (z_nP q)) (nI 0) rule takes E n (nI x) (nI (z_p1 (z_bgn q 0) x).1.length) s.1 s.2) (fun x s => x ≤ 6 ∧ xL (-1) (z_p1 (z_bgn q 0) x).1 (nI (z_p1 (z_bgn q 0) x).1.length) s.1 s.2) 6 ?_ ?_ 0 (way0, at0) (Nat.zero_le _) ⟨Nat.zero_le _, rfl, fun i hi => absurd hi (Nat.not_lt_zero _), fun s hs _ => h0 s hs⟩
  · rintro n ⟨s1, s2⟩ ⟨-, h1⟩
    show lp_X10_allWays_29 _ _ _ _ _ _ (n + 1) (nI 6) _ s1 s2
    rw [lp_X10_allWays_29]
    exact zb_t (by rw [zn_le (by omega) (by omega)]; omega) (h _ _ h1)
  · rintro n x ⟨s1, s2⟩ hx ⟨-, h1⟩ ih
    have h1 : xL (-1) (z_p1 (z_bgn q 0) x).1 (nI (z_p1 (z_bgn q 0) x).1.length) s1 s2 := h1
    have hQ := z_p1_Q hb x (by omega)
    show lp_X10_allWays_29 _ _ _ _ _ _ (n + 1) (nI x) _ s1 s2
    rw [lp_X10_allWays_29]
    refine zb_f (by rw [zn_le (by omega) (by omega)]; omega) ?_
    refine sp_begun hq hr ht (by omega) (by omega) ?_
    refine sp_meets hQ.1 h1 (hb x hx) (fun w' a' k1 => ?_)
    rintro _ rfl
    rw [zn_add]
    exact ih (w', a') ⟨by omega, k1⟩
