theorem sp_least34 {q : zR} {rule takes fn : zF} {E : zF → Prop} (hq : zW q) (hr : ∀ r, r < z_nR q → rule r = nI (z_fst q r)) (ht : ∀ p, p < z_nP q → takes p = nI (z_tk q p)) (h0 : ∀ s, s < 1024 → fn s = nI 0)
    (h : ∀ fn' : zF, (∀ s, s < 1024 → (fn' s = nI 1 ∧ ∃ x, x < 6 ∧ z_bgn q 0 x = s) ∨ (fn' s = nI 0 ∧ ∀ x, x < 6 → ¬ z_bgn q 0 x = s)) → E fn') : ∃ m, lp_X10_least_34 (nI (z_nR q)) (nI (z_nP q)) (nI 0) rule takes E m (nI 0) fn := by
  refine zl_inv (σ := zF) (fun m x s => lp_X10_least_34 (nI (z_nR q)) (nI (z_nP q)) (nI 0) rule takes E m (nI x) s) (fun x t => ∀ s, s < 1024 → (t s = nI 1 ∧ ∃ y, y < 6 ∧ z_bgn q 0 y = s) ∨ (t s = nI 0 ∧ ∀ y, y < x → ¬ z_bgn q 0 y = s)) 6 ?_ ?_ 0 fn (Nat.zero_le _) (fun s hs => Or.inr ⟨h0 s hs, fun y hy => absurd hy (Nat.not_lt_zero _)⟩)
  · intro m t ht'
    rw [lp_X10_least_34]
    exact zb_t (by rw [zn_le (by omega) (by omega)]; omega) (h t ht')
  · intro m x t hx ht' ih
    have hb := hq.bnd (z_bgn_lt q 0 x)
    rw [lp_X10_least_34]
    refine zb_f (by rw [zn_le (by omega) (by omega)]; omega) ?_
    refine sp_begun hq hr ht (by omega) (by omega) ?_
    rw [zn_in (by omega), zn_cl (by omega)]
    refine ⟨hb, ?_⟩
    rintro _ rfl _ rfl
    rw [zn_add]
    refine ih _ (fun s hs => ?_)
    by_cases e : s = z_bgn q 0 x
    · rw [e, zu_s]
      exact Or.inl ⟨rfl, x, hx, rfl⟩
    · rw [zu_n e]
      rcases ht' s hs with b | ⟨b1, b2⟩
      · exact Or.inl b
      · refine Or.inr ⟨b1, fun y hy z => ?_⟩
        by_cases e2 : y = x
        · subst e2; exact e z.symm
        · exact b2 y (by omega) z
theorem sp_least12 {fn : zF} {E : zF → Prop} (h : ∀ fn' : zF, (∀ s, s < 1024 → fn' s = nI 0) → E fn') : ∃ m, lp_X10_least_12 E m (nI 0) fn := by
  refine zl_inv (σ := zF) (fun m i s => lp_X10_least_12 E m (nI i) s) (fun i s => ∀ j, j < i → s j = nI 0) 1024 ?_ ?_ 0 fn (Nat.zero_le _) (fun j hj => absurd hj (Nat.not_lt_zero _))
  · intro m s hs
    rw [lp_X10_least_12]
    exact zb_t (by rw [zn_le (by omega) (by omega)]; omega) (h s hs)
  · intro m i s hi hs ih
    rw [lp_X10_least_12]
    refine zb_f (by rw [zn_le (by omega) (by omega)]; omega) ?_
    rw [zn_in (by omega), zn_cl (by omega)]
    refine ⟨hi, ?_⟩
    rintro _ rfl _ rfl
    rw [zn_add]
    refine ih _ (fun j hj => ?_)
    by_cases e : j = i
    · subst e; exact zu_s
    · rw [zu_n e]; exact hs j (by omega)
theorem sp_least {q : zR} {kn : Nat → Nat} {r : Nat} {rule takes behind slot fn : zF} {K : Int32 → zF → Prop} (hq : zW q) (hr : ∀ r, r < z_nR q → rule r = nI (z_fst q r) ∧ rule (4 + r) = nI (z_whl q r) ∧ rule (8 + r) = nI (z_of q r)) (ht : ∀ p, p < z_nP q → takes p = nI (z_tk q p) ∧ behind p = nI (z_bh q p)) (hk : ∀ r, r < 4 → slot (26 + r) = nI (kn r)) (hk4 : ∀ r, r < 4 → kn r < 4) (hrr : r < z_nR q)
    (h1 : ∀ k, k < (z_pe (z_bgn q 0) (z_go q kn)).1.length → ¬ z_nth (z_pe (z_bgn q 0) (z_go q kn)).1 k &&& z_whl q r = 0 → (∀ j, j < (z_pe (z_bgn q 0) (z_go q kn)).1.length → ¬ z_nth (z_pe (z_bgn q 0) (z_go q kn)).1 j &&& z_whl q r = 0 → z_nth (z_pe (z_bgn q 0) (z_go q kn)).2 k ≤ z_nth (z_pe (z_bgn q 0) (z_go q kn)).2 j) → z_nth (z_pe (z_bgn q 0) (z_go q kn)).2 k ≤ 8 → ∀ fn' : zF, K (nI (z_nth (z_pe (z_bgn q 0) (z_go q kn)).2 k)) fn')
    (h2 : (∀ j, j < (z_pe (z_bgn q 0) (z_go q kn)).1.length → ¬ z_nth (z_pe (z_bgn q 0) (z_go q kn)).1 j &&& z_whl q r = 0 → 8 < z_nth (z_pe (z_bgn q 0) (z_go q kn)).2 j) → ∀ fn' : zF, K (-4) fn') : wp_X10_least (nI (z_nR q)) (nI (z_nP q)) (nI 0) rule takes behind slot fn (nI r) K := by
  have hR : z_nR q ≤ 4 := hq.2.1
  have hb : ∀ x, x < 6 → z_bgn q 0 x < 1024 := fun x _ => hq.bnd (z_bgn_lt q 0 x)
  have hg : ∀ s x, x < 6 → z_go q kn s x < 1024 := fun s x _ => hq.bnd (z_go_lt hq kn s x)
  have hW := hq.bnd (hq.2.2.2.1 r hrr).2.1
  obtain ⟨hi, hhi, hI, hC, hB⟩ := z_pe_I hb hg
  have hQ := z_pe_Q hq kn
  have hlen := hQ.1.len
  have hlt : ∀ a, a < (z_pe (z_bgn q 0) (z_go q kn)).1.length → z_nth (z_pe (z_bgn q 0) (z_go q kn)).1 a < 2 ^ z_nP q := by
    intro a ha
    rcases hI.2.2.2 a ha with ⟨-, x, -, e⟩ | ⟨a', x, -, -, -, -, e, -⟩
    · rw [e]; exact z_bgn_lt q 0 x
    · rw [e]; exact z_go_lt hq kn _ x
  unfold wp_X10_least
  refine sp_isRule_t (by omega) hrr (zb_f2 zi_1 ?_)
  intro E hE
  refine sp_least12 (fun fn1 hf1 => hE _ ?_)
  intro E2 hE2
  refine sp_least34 hq (fun r hr' => (hr r hr').1) (fun p hp => (ht p hp).1) hf1 (fun fn2 hf2 => hE2 _ ?_)
  rw [zn_in (by omega), zn_cl (by omega)]
  refine ⟨by omega, ?_⟩
  rintro _ rfl
  intro E3 hE3 E4 hE4
  have lv1 : mLv (z_pe (z_bgn q 0) (z_go q kn)) 1 (upd fn2 0 (nI 0)) := by
    refine ⟨zu_s, fun s s0 s1 => ?_⟩
    rw [zu_n (by omega)]
    rcases hf2 s s1 with ⟨b1, x, b2, b3⟩ | ⟨b1, b2⟩
    · obtain ⟨k, k1, k2, k3⟩ := hB x b2
      exact Or.inl ⟨k, k1, by rw [k2, b3], by omega, by rw [b1, k3]⟩
    · refine Or.inr ⟨b1, fun k k1 k2 => ?_⟩
      rcases hI.2.2.2 k k1 with ⟨-, x, c1, c2⟩ | ⟨a, x, a1, a2, a3, a4, -, -⟩
      · exact absurd (by rw [← c2, k2]) (b2 x c1)
      · omega
  have key : ∃ m, lp_X10_least_66 (nI (z_nR q)) (nI (z_nP q)) rule takes behind slot (nI r) E3 E4 m (nI 1) (upd fn2 0 (nI 0)) := by
    refine zl_inv (σ := zF) (fun m n s => lp_X10_least_66 (nI (z_nR q)) (nI (z_nP q)) rule takes behind slot (nI r) E3 E4 m (nI n) s) (fun n s => 1 ≤ n ∧ mLv (z_pe (z_bgn q 0) (z_go q kn)) n s ∧ ∀ j, j < (z_pe (z_bgn q 0) (z_go q kn)).1.length → ¬ z_nth (z_pe (z_bgn q 0) (z_go q kn)).1 j &&& z_whl q r = 0 → n ≤ z_nth (z_pe (z_bgn q 0) (z_go q kn)).2 j) 9 ?_ ?_ 1 _ (by omega) ⟨Nat.le_refl _, lv1, fun j hj _ => hI.one hj⟩
    · rintro m s ⟨-, -, hs⟩
      rw [lp_X10_least_66]
      exact zb_t (by rw [zn_le (by omega) (by omega)]; omega) (hE4 _ (h2 (fun j hj hj2 => hs j hj hj2) _))
    · rintro m n s hn ⟨hn1, hl, hs⟩ ih
      rw [lp_X10_least_66]
      refine zb_f (by rw [zn_le (by omega) (by omega)]; omega) ?_
      intro E5 hE5
      refine sp_least77 hq hI hhi (z_fall_0 q kn) hlt (by omega) (hr r hrr).2.1 hW hn1 (by omega) hl (fun hx => hE5 _ ?_) (fun hx => hE5 _ ?_)
      · obtain ⟨k, k1, k2, k3⟩ := hx
        refine zb_f zi_1 (hE3 _ _ ?_)
        rw [← k2]
        exact h1 k k1 k3 (fun j hj hj2 => by rw [k2]; exact hs j hj hj2) (by omega) _
      · refine zb_t zi_0 ?_
        intro E6 hE6
        refine sp_least138 hq hr ht hk hk4 hI hhi hC hlt hn1 (by omega) hl (fun fn' hf => hE6 _ ?_)
        rintro _ rfl
        rw [zn_add]
        refine ih fn' ⟨by omega, hf, fun j hj hj2 => ?_⟩
        have q1 := hs j hj hj2
        rcases Nat.lt_or_ge n (z_nth (z_pe (z_bgn q 0) (z_go q kn)).2 j) with q2 | q2
        · exact q2
        · exact absurd (hx j hj (by omega)) hj2
  exact key
theorem zO_least {q : zR} {d : zD} {nu pn fi lo nw un kno fo rules places without : Int32} {P F Wh T Bh on ta st fe no nx be kw gg gf gb gc rule takes behind s fin : zF} (hq : zW q) (hd : zE d) (hR : xR q nu pn P F Wh T Bh) (hS : xS q (z_knd d) fi lo on ta) (hU : xU q (z_knd d) fo nw un kno st fe nx be kw) (hM : mR q rules places rule takes behind) (hm : mD s 0 d) (hwo : without = nI 0) (p : Int32) :
    ∃ r : Int32, (∀ K : Int32 → Int32 → Int32 → Int32 → Int32 → zF → zF → zF → zF → zF → zF → zF → zF → zF → zF → Prop, (∀ (nu' un' kno' fo' : Int32) (st' fe' no' nx' be' kw' gg' gf' gb' gc' : zF), xU q (z_knd d) fo' nu' un' kno' st' fe' nx' be' kw' → K r nu' un' kno' fo' st' fe' no' nx' be' kw' gg' gf' gb' gc') → wp_X9_least nu Wh fi lo on ta nw un kno fo st fe no nx be kw gg gf gb gc p K) ∧ ∀ K : Int32 → zF → Prop, (∀ f' : zF, K r f') → wp_X10_least rules places without rule takes behind s fin p K := by
  have hz := hm.z
  have hR4 : z_nR q ≤ 4 := hq.2.1
  obtain ⟨rfl, rfl, hr9, ht9⟩ := hR
  obtain ⟨rfl, rfl, hr, ht⟩ := hM
  subst hwo
  rcases zc_at p (z_nR q) with ⟨r, hr1, -, rfl⟩ | ho
  · have hb : ∀ x, x < 6 → z_bgn q 0 x < 1024 := fun x _ => hq.bnd (z_bgn_lt q 0 x)
    have hg : ∀ s x, x < 6 → z_go q (z_knd d) s x < 1024 := fun s x _ => hq.bnd (z_go_lt hq (z_knd d) s x)
    have hW := hq.bnd (hq.2.2.2.1 r hr1).2.1
    obtain ⟨hi, hhi, hI, -, -⟩ := z_pe_I hb hg
    have hQ := z_pe_Q hq (z_knd d)
    have hlen := hQ.1.len
    have all : ∀ v : Int32, (∀ k, k < (z_pe (z_bgn q 0) (z_go q (z_knd d))).1.length → ¬ z_nth (z_pe (z_bgn q 0) (z_go q (z_knd d))).1 k &&& z_whl q r = 0 → (∀ j, j < k → z_nth (z_pe (z_bgn q 0) (z_go q (z_knd d))).1 j &&& z_whl q r = 0) → v = if z_nth (z_pe (z_bgn q 0) (z_go q (z_knd d))).2 k ≤ 8 then nI (z_nth (z_pe (z_bgn q 0) (z_go q (z_knd d))).2 k) else -4) → ((∀ j, j < (z_pe (z_bgn q 0) (z_go q (z_knd d))).1.length → z_nth (z_pe (z_bgn q 0) (z_go q (z_knd d))).1 j &&& z_whl q r = 0) → v = -4) → (∀ K : Int32 → Int32 → Int32 → Int32 → Int32 → zF → zF → zF → zF → zF → zF → zF → zF → zF → zF → Prop, (∀ (nu' un' kno' fo' : Int32) (st' fe' no' nx' be' kw' gg' gf' gb' gc' : zF), xU q (z_knd d) fo' nu' un' kno' st' fe' nx' be' kw' → K v nu' un' kno' fo' st' fe' no' nx' be' kw' gg' gf' gb' gc') → wp_X9_least (nI (z_nR q)) Wh fi lo on ta nw un kno fo st fe no nx be kw gg gf gb gc (nI r) K) := by
      intro v v1 v2 K h
      unfold wp_X9_least
      refine sx_isRule_t (by omega) hr1 (zb_f2 zi_1 ?_)
      refine sx_find hq hd.2.1 hS hU (fun nu' un' kno' fo' st' fe' no' nx' be' kw' gg' gf' gb' gc' hfo hV => ?_)
      have h' := h nu' un' kno' fo' st' fe' no' nx' be' kw' gg' gf' gb' gc' (Or.inr ⟨hfo, hV⟩)
      refine sx_wholeOf hR4 hr1 (hr9 r hr1).2.2 ?_
      rw [hV.1.1]
      rw [hV.1.1] at h'
      refine sx_fewest hQ.1 hQ.2 hW hV.2.1 hV.2.2.1 (fun k k1 k2 k3 => ?_) (fun hx => ?_)
      · have o1 := hI.one k1
        have b1 := hI.2.2.1 k k1
        have e := v1 k k1 k2 k3
        rw [zn_lt (by omega) (by omega), zn_le (by omega) (by omega)]
        refine zb_f (by omega) ⟨fun e2 => ?_, fun e2 => ?_⟩
        · rw [if_pos e2] at e; rw [e] at h'; exact h'
        · rw [if_neg e2] at e; rw [e] at h'; exact h'
      · rw [v2 hx] at h'
        exact zb_t (by decide) h'
    by_cases hex : ∃ k, k < (z_pe (z_bgn q 0) (z_go q (z_knd d))).1.length ∧ (¬ z_nth (z_pe (z_bgn q 0) (z_go q (z_knd d))).1 k &&& z_whl q r = 0) ∧ ∀ j, j < k → z_nth (z_pe (z_bgn q 0) (z_go q (z_knd d))).1 j &&& z_whl q r = 0
    · obtain ⟨k0, a1, a2, a3⟩ := hex
      have mono : ∀ j, j < (z_pe (z_bgn q 0) (z_go q (z_knd d))).1.length → ¬ z_nth (z_pe (z_bgn q 0) (z_go q (z_knd d))).1 j &&& z_whl q r = 0 → z_nth (z_pe (z_bgn q 0) (z_go q (z_knd d))).2 k0 ≤ z_nth (z_pe (z_bgn q 0) (z_go q (z_knd d))).2 j := by
        intro j j1 j2
        rcases Nat.lt_or_ge j k0 with q2 | q2
        · exact absurd (a3 j q2) j2
        · exact hI.2.1 k0 j q2 j1
      refine ⟨if z_nth (z_pe (z_bgn q 0) (z_go q (z_knd d))).2 k0 ≤ 8 then nI (z_nth (z_pe (z_bgn q 0) (z_go q (z_knd d))).2 k0) else -4, all _ (fun k k1 k2 k3 => ?_) (fun hx => absurd (hx k0 a1) a2), fun K h => ?_⟩
      · have e : k = k0 := by
          rcases Nat.lt_trichotomy k k0 with q2 | q2 | q2
          · exact absurd (a3 k q2) k2
          · exact q2
          · exact absurd (k3 k0 q2) a2
        rw [e]
      · refine sp_least hq hr ht hz.2.1 hd.2.1 hr1 (fun k k1 k2 k3 k4 fn' => ?_) (fun hx fn' => ?_)
        · have e := mono k k1 k2
          have e2 := k3 k0 a1 a2
          have h' := h fn'
          rw [if_pos (by omega), show z_nth (z_pe (z_bgn q 0) (z_go q (z_knd d))).2 k0 = z_nth (z_pe (z_bgn q 0) (z_go q (z_knd d))).2 k by omega] at h'
          exact h'
        · have e := hx k0 a1 a2
          have h' := h fn'
          rw [if_neg (by omega)] at h'
          exact h'
    · have none : ∀ n j, j < n → j < (z_pe (z_bgn q 0) (z_go q (z_knd d))).1.length → z_nth (z_pe (z_bgn q 0) (z_go q (z_knd d))).1 j &&& z_whl q r = 0 := by
        intro n
        induction n with
        | zero => intro j hj; exact absurd hj (Nat.not_lt_zero _)
        | succ n ih =>
          intro j hj hj2
          apply Classical.byContradiction
          intro hc
          exact hex ⟨j, hj2, hc, fun i hi2 => ih i (by omega) (by omega)⟩
      have none' : ∀ j, j < (z_pe (z_bgn q 0) (z_go q (z_knd d))).1.length → z_nth (z_pe (z_bgn q 0) (z_go q (z_knd d))).1 j &&& z_whl q r = 0 := fun j hj => none (j + 1) j (Nat.lt_succ_self j) hj
      refine ⟨-4, all _ (fun k k1 k2 _ => absurd (none' k k1) k2) (fun _ => rfl), fun K h => ?_⟩
      exact sp_least hq hr ht hz.2.1 hd.2.1 hr1 (fun k k1 k2 _ _ _ => absurd (none' k k1) k2) (fun _ fn' => h fn')
  · refine ⟨-1, fun K h => ?_, fun K h => ?_⟩
    · unfold wp_X9_least
      exact sx_isRule_f (by omega) ho (zb_t2 zi_0 (h _ _ _ _ _ _ _ _ _ _ _ _ _ _ hU))
    · unfold wp_X10_least
      exact sp_isRule_f (by omega) ho (zb_t2 zi_0 (h _))
