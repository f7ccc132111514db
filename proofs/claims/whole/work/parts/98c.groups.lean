/-! the model's groups -/
def z_ff (go : Nat → Nat → Nat) (L : List Nat) (t a b i : Nat) : Bool := z_rw go L t a b && z_al (fun x => ((go (z_nth L a) x == 0) == (go (z_nth L b) x == 0)) && (go (z_nth L a) x == 0 || z_rl go t (go (z_nth L a) x) (go (z_nth L b) x))) i
theorem z_ff_S (go : Nat → Nat → Nat) (L : List Nat) (t a b i : Nat) : z_ff go L t a b (i + 1) = (z_ff go L t a b i && (((go (z_nth L a) i == 0) == (go (z_nth L b) i == 0)) && (go (z_nth L a) i == 0 || z_rl go t (go (z_nth L a) i) (go (z_nth L b) i)))) := by
  unfold z_ff
  rw [z_al_S, Bool.and_assoc]
theorem z_ff_6 (go : Nat → Nat → Nat) (L : List Nat) (t a b : Nat) : z_ff go L t a b 6 = z_rw go L (t + 1) a b := by
  have e : z_ff go L t a b 6 = (z_rw go L t a b && z_rw go L (t + 1) a b) := rfl
  rw [e]
  cases h : z_rw go L (t + 1) a b with
  | true => rw [z_rw_m h]; rfl
  | false => rw [Bool.and_false]
theorem z_ff_m {go : Nat → Nat → Nat} {L : List Nat} {t a b i j : Nat} (hi : i ≤ j) (h : z_ff go L t a b i = false) : z_ff go L t a b j = false := by
  induction hi with
  | refl => exact h
  | step _ ih => rw [z_ff_S, ih]; rfl
theorem z_ff_f {go : Nat → Nat → Nat} {L : List Nat} {t a b i : Nat} (hi : i ≤ 6) (h : z_ff go L t a b i = false) : z_rw go L (t + 1) a b = false := by
  rw [← z_ff_6]
  exact z_ff_m hi h
theorem sp_isFiner {bg : Nat → Nat} {go : Nat → Nat → Nat} {L : List Nat} {al on : zF} {t a b : Nat} {K : Int32 → Prop} (hL : zL L) (hG : xG (z_rw go L t) L.length al) (hN : ∀ a y, y < 6 → a < L.length → mN bg go L on a y) (ha : a < L.length) (hb : b < L.length) (h : K (nI (z_rw go L (t + 1) a b).toNat)) : wp_X10_isFiner al on (nI a) (nI b) K := by
  have hlen := hL.len
  unfold wp_X10_isFiner
  rw [zn_in (by omega), zn_in (by omega), zn_cl (by omega), zn_cl (by omega)]
  refine ⟨by omega, by omega, ?_⟩
  intro J hJ
  have fin : J (nI (z_ff go L t a b 0).toNat) := by
    apply hJ
    intro E hE
    have out : E (nI (z_rw go L (t + 1) a b).toNat) := by
      apply hE
      cases hc : z_rw go L (t + 1) a b with
      | true => rw [hc] at h; exact ⟨rfl, h⟩
      | false => rw [hc] at h; exact ⟨rfl, h⟩
    refine zl_cnt (fun n i => lp_X10_isFiner_24 al on (nI a) (nI b) E n (nI (z_ff go L t a b i).toNat) (nI i)) 6 ?_ ?_ 0 (Nat.zero_le _)
    · intro n
      rw [lp_X10_isFiner_24]
      refine zb_t (by rw [zn_le (by omega) (by omega)]; omega) ?_
      rw [z_ff_6]
      exact out
    · intro n i hi ih
      rw [lp_X10_isFiner_24]
      refine zb_f (by rw [zn_le (by omega) (by omega)]; omega) ?_
      cases hf : z_ff go L t a b i with
      | false =>
        rw [z_ff_f (by omega) hf] at out
        exact zb_t rfl out
      | true =>
        rw [z_ff_S, hf, Bool.true_and] at ih
        refine zb_f (by decide) ?_
        have na := hN a i hi ha
        have nb := hN b i hi hb
        rw [zn_mul, zn_mul, zn_add, zn_add, zn_in (by omega), zn_cl (by omega), zn_in (a := 6 * b + i) (by omega), zn_cl (a := 6 * b + i) (by omega)]
        refine ⟨by omega, ?_⟩
        rintro _ rfl
        refine ⟨by omega, ?_⟩
        rintro _ rfl
        by_cases ea : go (z_nth L a) i = 0
        · obtain ⟨k1, a1, a2, a3⟩ := na.1 ea
          by_cases eb : go (z_nth L b) i = 0
          · obtain ⟨k2, b1, b2, b3⟩ := nb.1 eb
            have ek : k1 = k2 := z_nth_inj hL.1 a1 b1 (by rw [a2, b2])
            subst ek
            rw [a3, b3]
            refine zb_t2 rfl ?_
            rw [zn_rem (by omega) (by omega) (by omega), zn_in (by omega), zn_cl (by omega)]
            refine ⟨by omega, by omega, zb_t2 rfl ?_⟩
            rintro _ rfl
            rw [zn_add]
            rw [ea, eb] at ih
            exact ih
          · obtain ⟨k2, b1, b2, b3⟩ := nb.2 eb
            rw [a3, b3, zn_div (by omega) (by omega) (by omega), zn_div (by omega) (by omega) (by omega), zn_eq (by omega) (by omega)]
            refine zb_f2 (by omega) ?_
            rintro _ rfl
            rw [zn_add]
            rw [ea, beq_eq_false_iff_ne.mpr eb] at ih
            exact ih
        · obtain ⟨k1, a1, a2, a3⟩ := na.2 ea
          by_cases eb : go (z_nth L b) i = 0
          · obtain ⟨k2, b1, b2, b3⟩ := nb.1 eb
            rw [a3, b3, zn_div (by omega) (by omega) (by omega), zn_div (by omega) (by omega) (by omega), zn_eq (by omega) (by omega)]
            refine zb_f2 (by omega) ?_
            rintro _ rfl
            rw [zn_add]
            rw [eb, beq_eq_false_iff_ne.mpr ea] at ih
            exact ih
          · obtain ⟨k2, b1, b2, b3⟩ := nb.2 eb
            have hx := hG.iff (z_rw_V go L t) hlen a1 b1
            unfold z_rw at hx
            rw [a2, b2] at hx
            rw [beq_eq_false_iff_ne.mpr ea, beq_eq_false_iff_ne.mpr eb, beq_self_eq_true, Bool.true_and, Bool.false_or] at ih
            rw [a3, b3, zn_rem (by omega) (by omega) (by omega), zn_rem (by omega) (by omega) (by omega), zn_div (by omega) (by omega) (by omega), zn_div (by omega) (by omega) (by omega), zn_eq (by omega) (by omega), zn_in (by omega), zn_cl (by omega), zn_in (a := k2 % 1024) (by omega), zn_cl (a := k2 % 1024) (by omega), Nat.mod_eq_of_lt (by omega : k1 < 1024), Nat.mod_eq_of_lt (by omega : k2 < 1024)]
            refine zb_t2 (by omega) ⟨by omega, by omega, fun e => ?_, fun e => ?_⟩
            · rintro _ rfl
              rw [zn_add]
              have hc : z_rl go t (go (z_nth L a) i) (go (z_nth L b) i) = false := by
                cases hc : z_rl go t (go (z_nth L a) i) (go (z_nth L b) i) with
                | false => rfl
                | true => exact absurd (hx.mpr hc) e
              rw [hc] at ih
              exact ih
            · rintro _ rfl
              rw [zn_add]
              rw [hx.mp e] at ih
              exact ih
  have e0 : z_ff go L t a b 0 = z_rw go L t a b := by
    show (z_rw go L t a b && true) = _
    rw [Bool.and_true]
  rw [e0] at fin
  have hx := hG.iff (z_rw_V go L t) hlen ha hb
  refine ⟨fun e => ?_, fun e => ?_⟩
  · cases hc : z_rw go L t a b with
    | false => rw [hc] at fin; exact fin
    | true => exact absurd (hx.mpr hc) e
  · rw [hx.mp e] at fin; exact fin
theorem sp_unlike49 {bg : Nat → Nat} {go : Nat → Nat → Nat} {L : List Nat} {al on : zF} {t k : Nat} {E : Int32 → Prop} (hL : zL L) (hG : xG (z_rw go L t) L.length al) (hN : ∀ a y, y < 6 → a < L.length → mN bg go L on a y) (hk : k < L.length)
    (h : ∀ e, e ≤ k → (∀ j, j < e → z_rw go L (t + 1) j k = false) → (e < k → z_rw go L (t + 1) e k = true) → E (nI e)) : ∃ n, lp_X10_unlikeWays_49 al on (nI k) E n (nI 0) := by
  have hlen := hL.len
  refine zl_inv (σ := Unit) (fun n i _ => lp_X10_unlikeWays_49 al on (nI k) E n (nI i)) (fun i _ => ∀ j, j < i → z_rw go L (t + 1) j k = false) k ?_ ?_ 0 () (Nat.zero_le _) (fun j hj => absurd hj (Nat.not_lt_zero _))
  · intro n _ hj
    rw [lp_X10_unlikeWays_49]
    exact zb_t (by rw [zn_le (by omega) (by omega)]; omega) (h k (Nat.le_refl _) hj (fun q => absurd q (Nat.lt_irrefl _)))
  · intro n i _ hi hj ih
    rw [lp_X10_unlikeWays_49]
    refine zb_f (by rw [zn_le (by omega) (by omega)]; omega) ?_
    refine sp_isFiner hL hG hN (by omega) hk ?_
    cases hc : z_rw go L (t + 1) i k with
    | true => exact zb_f2 (by decide) (h i (by omega) hj (fun _ => hc))
    | false =>
      refine zb_t2 rfl ?_
      rintro _ rfl
      rw [zn_add]
      refine ih () (fun j q => ?_)
      by_cases q2 : j = i
      · subst q2; exact hc
      · exact hj j (by omega)
theorem sp_unlike38 {bg : Nat → Nat} {go : Nat → Nat → Nat} {L : List Nat} {al on fi : zF} {t : Nat} {E : Int32 → zF → Prop} (hL : zL L) (hG : xG (z_rw go L t) L.length al) (hN : ∀ a y, y < 6 → a < L.length → mN bg go L on a y)
    (h : ∀ fi' : zF, xG (z_rw go L (t + 1)) L.length fi' → E (nI (z_nu go L (t + 1))) fi') : ∃ n, lp_X10_unlikeWays_38 (nI L.length) al on E n (nI 0) (nI 0) fi := by
  have hlen := hL.len
  have hV := z_rw_V go L (t + 1)
  refine zl_inv (σ := zF) (fun n i s => lp_X10_unlikeWays_38 (nI L.length) al on E n (nI (z_ct (z_new (z_rw go L (t + 1))) i)) (nI i) s) (fun i s => xG (z_rw go L (t + 1)) i s) L.length ?_ ?_ 0 fi (Nat.zero_le _) (fun i hi => absurd hi (Nat.not_lt_zero _))
  · intro n s hs
    rw [lp_X10_unlikeWays_38]
    exact zb_t (by rw [zn_le (by omega) (by omega)]; exact Nat.le_refl _) (h s hs)
  · intro n i s hi hs ih
    rw [lp_X10_unlikeWays_38]
    refine zb_f (by rw [zn_le (by omega) (by omega)]; omega) ?_
    intro E2 hE2
    refine sp_unlike49 hL hG hN hi (fun e e1 e2 e3 => hE2 _ ?_)
    intro J hJ
    rw [zn_eq (by omega) (by omega)]
    refine ⟨fun q => ?_, fun q => ?_⟩
    · have r1 := e3 (by omega)
      have hne : z_new (z_rw go L (t + 1)) e = true := z_new_t.mpr (fun j hj => by
        cases hc : z_rw go L (t + 1) j e with
        | false => rfl
        | true => have r2 := e2 j hj; rw [hV.2.2 _ _ _ hc r1] at r2; cases r2)
      have hno := z_new_no (show e < i by omega) r1
      rw [zn_in (by omega), zn_cl (by omega)]
      refine ⟨by omega, hJ _ ?_⟩
      rw [zn_in (by omega), zn_cl (by omega), zn_eq (by omega) (by omega)]
      refine ⟨by omega, ?_⟩
      rintro _ rfl
      refine zb_f2 q ?_
      rintro _ rfl _ rfl
      rw [zn_add, zn_add]
      have h3 := ih _ (hs.old hV (show e < i by omega) hne r1)
      rw [z_ct_S, hno] at h3
      exact h3
    · subst q
      have hne : z_new (z_rw go L (t + 1)) e = true := z_new_t.mpr e2
      refine hJ _ ?_
      rw [zn_in (by omega), zn_cl (by omega)]
      refine ⟨by omega, ?_⟩
      rintro _ rfl
      refine zb_t2 rfl ?_
      rintro _ rfl _ rfl
      rw [zn_add, zn_add]
      have h3 := ih _ (hs.new hV hne)
      rw [z_ct_S, hne] at h3
      exact h3
theorem sp_unlike116 {R : Nat → Nat → Bool} {N : Nat} {al fi : zF} {E : zF → Prop} (hN : N ≤ 1024) (hs : xG R N fi) (h : ∀ al' : zF, xG R N al' → E al') : ∃ n, lp_X10_unlikeWays_116 (nI N) fi E n (nI 0) al := by
  refine zl_inv (σ := zF) (fun n i s => lp_X10_unlikeWays_116 (nI N) fi E n (nI i) s) (fun i s => ∀ j, j < i → s j = fi j) N ?_ ?_ 0 al (Nat.zero_le _) (fun j hj => absurd hj (Nat.not_lt_zero _))
  · intro n s hj
    rw [lp_X10_unlikeWays_116]
    refine zb_t (by rw [zn_le (by omega) (by omega)]; exact Nat.le_refl _) (h s (fun i hi => ?_))
    rw [hj i hi]
    exact hs i hi
  · intro n i s hi hj ih
    rw [lp_X10_unlikeWays_116]
    refine zb_f (by rw [zn_le (by omega) (by omega)]; omega) ?_
    rw [zn_in (by omega), zn_cl (by omega)]
    refine ⟨by omega, ?_⟩
    rintro _ rfl
    refine ⟨by omega, ?_⟩
    rintro _ rfl _ rfl
    rw [zn_add]
    refine ih _ (fun j q => ?_)
    by_cases q2 : j = i
    · subst q2; exact zu_s
    · rw [zu_n q2]; exact hj j (by omega)
theorem sp_unlike6 {N : Nat} {al : zF} {E : zF → Prop} (hN : N ≤ 1024) (h : ∀ al' : zF, (∀ j, j < N → al' j = nI 0) → E al') : ∃ n, lp_X10_unlikeWays_6 (nI N) E n (nI 0) al := by
  refine zl_inv (σ := zF) (fun n i s => lp_X10_unlikeWays_6 (nI N) E n (nI i) s) (fun i s => ∀ j, j < i → s j = nI 0) N ?_ ?_ 0 al (Nat.zero_le _) (fun j hj => absurd hj (Nat.not_lt_zero _))
  · intro n s hj
    rw [lp_X10_unlikeWays_6]
    exact zb_t (by rw [zn_le (by omega) (by omega)]; exact Nat.le_refl _) (h s hj)
  · intro n i s hi hj ih
    rw [lp_X10_unlikeWays_6]
    refine zb_f (by rw [zn_le (by omega) (by omega)]; omega) ?_
    rw [zn_in (by omega), zn_cl (by omega)]
    refine ⟨by omega, ?_⟩
    rintro _ rfl _ rfl
    rw [zn_add]
    refine ih _ (fun j q => ?_)
    by_cases q2 : j = i
    · subst q2; exact zu_s
    · rw [zu_n q2]; exact hj j (by omega)
/-- one time of the model's loop -/
theorem sp_unlikeRound {bg : Nat → Nat} {go : Nat → Nat → Nat} {L : List Nat} {al on fi : zF} {t n v2 : Nat} {E : Int32 → zF → zF → Prop} (hL : zL L) (hG : xG (z_rw go L t) L.length al) (hN : ∀ a y, y < 6 → a < L.length → mN bg go L on a y) (hv : v2 ≤ 1024) (hne : ¬ z_nu go L t = v2)
    (ih : ∀ al' fi' : zF, xG (z_rw go L (t + 1)) L.length al' → lp_X10_unlikeWays_27 (nI L.length) on E n (nI (z_nu go L (t + 1))) (nI (z_nu go L t)) al' fi') : lp_X10_unlikeWays_27 (nI L.length) on E (n + 1) (nI (z_nu go L t)) (nI v2) al fi := by
  have hlen := hL.len
  have n1 := z_nu_le go L t
  rw [lp_X10_unlikeWays_27, zn_eq (by omega) (by omega)]
  refine zb_f hne ?_
  intro E2 hE2
  refine sp_unlike38 hL hG hN (fun fi' h1 => hE2 _ _ ?_)
  intro E3 hE3
  exact sp_unlike116 hlen h1 (fun al' h2 => hE3 _ (ih al' fi' h2))
def z_pr (go : Nat → Nat → Nat) (L : List Nat) : Nat → Nat
  | 0 => 0
  | u + 1 => z_nu go L u
def z_uq (go : Nat → Nat → Nat) (L : List Nat) : Nat → Nat
  | 0 => z_us go L 1024 0
  | u + 1 => z_us go L (1024 - u) u
theorem sp_unlikeWays {bg : Nat → Nat} {go : Nat → Nat → Nat} {L : List Nat} {al on fi : zF} {K : Int32 → zF → zF → Prop} (h0 : 0 < L.length) (hL : zL L) (hN : ∀ a y, y < 6 → a < L.length → mN bg go L on a y)
    (h : ∀ al' fi' : zF, K (nI (z_us go L 1024 0)) al' fi') : wp_X10_unlikeWays (nI L.length) al fi on K := by
  have hlen := hL.len
  unfold wp_X10_unlikeWays
  intro E hE
  refine sp_unlike6 hlen (fun al1 h1 => hE _ ?_)
  intro E2 hE2
  have hG0 : xG (z_rw go L 0) L.length al1 := xG.zero (fun _ _ => rfl) h1
  have key : ∃ n, lp_X10_unlikeWays_27 (nI L.length) on E2 n (nI (z_nu go L 0)) (nI (z_pr go L 0)) al1 fi := by
    refine zl_m (σ := Nat × zF × zF) (fun n s => lp_X10_unlikeWays_27 (nI L.length) on E2 n (nI (z_nu go L s.1)) (nI (z_pr go L s.1)) s.2.1 s.2.2) (fun s => s.1 ≤ z_pr go L s.1 ∧ xG (z_rw go L s.1) L.length s.2.1 ∧ z_uq go L s.1 = z_us go L 1024 0) (fun s => 1025 - s.1) ?_ (0, al1, fi) ⟨Nat.le_refl _, hG0, rfl⟩
    rintro n ⟨u, s1, s2⟩ ⟨g0, g1, g2⟩ ih
    have g0 : u ≤ z_pr go L u := g0
    have g1 : xG (z_rw go L u) L.length s1 := g1
    have g2 : z_uq go L u = z_us go L 1024 0 := g2
    show lp_X10_unlikeWays_27 (nI L.length) on E2 (n + 1) (nI (z_nu go L u)) (nI (z_pr go L u)) s1 s2
    cases u with
    | zero =>
      have n1 := z_nu_0 (go := go) h0
      refine sp_unlikeRound hL g1 hN (by show (0 : Nat) ≤ 1024; omega) (by rw [n1]; show ¬ 1 = 0; omega) (fun al2 fi2 k1 => ?_)
      exact ih (0 + 1, al2, fi2) ⟨by show 0 + 1 ≤ z_nu go L 0; omega, k1, rfl⟩ (by show 1025 - (0 + 1) < 1025 - 0; omega)
    | succ u =>
      have g0 : u + 1 ≤ z_nu go L u := g0
      have g2 : z_us go L (1024 - u) u = z_us go L 1024 0 := g2
      have n1 := z_nu_le go L u
      have n2 := z_nu_le go L (u + 1)
      have n3 := z_nu_m go L u
      rw [show 1024 - u = (1024 - (u + 1)) + 1 by omega, z_us_S] at g2
      show lp_X10_unlikeWays_27 (nI L.length) on E2 (n + 1) (nI (z_nu go L (u + 1))) (nI (z_nu go L u)) s1 s2
      by_cases e : z_nu go L (u + 1) = z_nu go L u
      · rw [lp_X10_unlikeWays_27]
        rw [if_pos e] at g2
        refine zb_t (by rw [e]) (hE2 _ _ _ ?_)
        rw [e, g2]
        exact h _ _
      · rw [if_neg e] at g2
        refine sp_unlikeRound hL g1 hN (by omega) e (fun al2 fi2 k1 => ?_)
        exact ih (u + 1 + 1, al2, fi2) ⟨by show u + 1 + 1 ≤ z_nu go L (u + 1); omega, k1, g2⟩ (by show 1025 - (u + 1 + 1) < 1025 - (u + 1); omega)
  rw [z_nu_0 h0] at key
  exact key
