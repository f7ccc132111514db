/-! a whole row read by the law's own method: the rules with one more -/
def z_va (c : Nat) : Nat := if c = 46 then 6 else c - 48
theorem z_pt_0 {c : Nat} (hs : z_sn c) (h : z_pt c = 0) : z_am c := by
  rcases hs with rfl | rfl | rfl | rfl | rfl | hs
  · cases h
  · cases h
  · cases h
  · cases h
  · cases h
  · exact hs
theorem z_am_nu {c : Nat} (h : z_am c) : ¬ (c = 38 ∨ c = 124 ∨ c = 42 ∨ c = 43 ∨ c = 63) := by
  unfold z_am at h
  omega
theorem z_rn_T {t : Nat → Nat} {b N base : Nat} {tk bh : Nat → Nat} (hv : z_vr t b N) : ∀ m i, i + m = N → ∀ i', i ≤ i' → i' < N → z_am (t (b + i')) → zs_t (z_rn t b N base tk bh (N - i)) (base + z_ac t b i') = z_va (t (b + i'))
  | 0, i, e, i', h1, h2, _ => by omega
  | m + 1, i, e, i', h1, h2, ha => by
    have ih := z_rn_T (base := base) (tk := tk) (bh := bh) hv m (i + 1) (by omega) i'
    have hk := (z_rn_J base tk bh hv m (i + 1) (by omega)).1.2.1
    obtain ⟨s1, s2⟩ := hv.1 i (by omega)
    rw [z_rn_at t b N base tk bh (by omega)]
    have keep : ∀ s' : zS, zs_t s' = zs_t (z_rn t b N base tk bh (N - (i + 1))) → (t (b + i) = 38 ∨ t (b + i) = 124 ∨ t (b + i) = 42 ∨ t (b + i) = 43 ∨ t (b + i) = 63) → zs_t s' (base + z_ac t b i') = z_va (t (b + i')) := by
      intro s' e1 e2
      rw [e1]
      refine ih ?_ h2 ha
      rcases Nat.lt_or_ge i i' with q | q
      · omega
      · exact absurd e2 (by rw [show i = i' by omega]; exact z_am_nu ha)
    rcases s1 with e1 | e1 | e1 | e1 | e1 | hs
    · refine keep _ ?_ (Or.inl e1)
      rw [e1, z_sg_and]; rfl
    · refine keep _ ?_ (Or.inr (Or.inl e1))
      rw [e1, z_sg_or]; rfl
    · refine keep _ ?_ (Or.inr (Or.inr (Or.inl e1)))
      rw [e1, z_sg_star]; rfl
    · refine keep _ ?_ (Or.inr (Or.inr (Or.inr (Or.inl e1))))
      rw [e1, z_sg_plus]; rfl
    · refine keep _ ?_ (Or.inr (Or.inr (Or.inr (Or.inr e1))))
      rw [e1, z_sg_may]; rfl
    · rw [z_sg_am hs]
      have hp := z_pt_am hs
      have eac : z_ac t b (i + 1) = z_ac t b i + 1 := by rw [z_ac_S, if_pos hp]
      show z_up (zs_t (z_rn t b N base tk bh (N - (i + 1)))) (base + (zs_k (z_rn t b N base tk bh (N - (i + 1))) - 1)) (if t (b + i) = 46 then 6 else t (b + i) - 48) (base + z_ac t b i') = _
      rw [hk, eac, Nat.add_sub_cancel]
      by_cases e2 : i' = i
      · rw [e2, zp_s]; rfl
      · have hm := z_ac_m t b (show i + 1 ≤ i' by omega)
        rw [zp_n (by omega)]
        exact ih (by omega) h2 ha
theorem z_ac_ex {t : Nat → Nat} {b : Nat} : ∀ n, (∀ i, i < n → z_sn (t (b + i))) → ∀ j, j < z_ac t b n → ∃ i, i < n ∧ z_am (t (b + i)) ∧ z_ac t b i = j
  | 0, _, j, hj => absurd hj (Nat.not_lt_zero _)
  | n + 1, hs, j, hj => by
    rw [z_ac_S] at hj
    by_cases e : j < z_ac t b n
    · obtain ⟨i, h1, h2, h3⟩ := z_ac_ex n (fun i hi => hs i (by omega)) j e
      exact ⟨i, by omega, h2, h3⟩
    · by_cases e2 : z_pt (t (b + n)) = 0
      · rw [if_pos e2] at hj
        exact ⟨n, by omega, z_pt_0 (hs n (by omega)) e2, by omega⟩
      · rw [if_neg e2] at hj
        omega
/-- the rules of a set, but how many they are -/
def lQ (q : zR) (x : zF) : Prop := (∀ r, r < z_nR q → x (2 + r) = nI (z_fst q r) ∧ x (6 + r) = nI (z_whl q r) ∧ x (10 + r) = nI (z_of q r)) ∧ ∀ p, p < z_nP q → x (14 + p) = nI (z_bh q p) ∧ x (24 + p) = nI (z_tk q p)
theorem sl_reads {q : zR} {u : Nat → Nat} {N r : Nat} {x y : zF} {K : zF → Prop} (hv : z_vr u 0 N) (h10 : z_nP q + z_ac u 0 N ≤ 10) (hr : r = z_nR q) (hr3 : r < 3) (h1 : x 1 = nI (z_nP q + z_ac u 0 N)) (h34 : x (34 + r) = nI N) (hy : ∀ i, i < N → y (16 * r + i) = nI (u (0 + i))) (hz : ∀ p, z_nP q ≤ p → p < z_nP q + z_ac u 0 N → x (14 + p) = nI 0) (hQ : lQ q x) (htk : ∀ i, i < N → z_am (u (0 + i)) → x (24 + (z_nP q + z_ac u 0 i)) = nI (z_va (u (0 + i))))
    (h : ∀ x' : zF, (∀ j, 24 ≤ j → x' j = x j) → x' 0 = x 0 → x' 1 = x 1 → (∀ p, z_nP q + z_ac u 0 N ≤ p → p < 10 → x' (14 + p) = x (14 + p)) → lQ (z_ad q u 0 N) x' → K x') : wp_L_reads 38 64 x y (nI r) (nI (z_nP q)) K := by
  have hN := hv.2.2
  unfold wp_L_reads
  rw [zn_in (a := 1) (by omega), zn_cl (a := 1) (by omega), h1, zn_add 34 r, zn_in (a := 34 + r) (by omega), zn_cl (a := 34 + r) (by omega), h34]
  refine ⟨by omega, ?_⟩
  rintro _ rfl
  refine ⟨by omega, ?_⟩
  rintro _ rfl
  intro E400 h400
  have key : ∃ n, lp_L_reads_36 38 64 y (nI r) (nI (z_nP q)) E400 n (nI (zs_h (z_rn u 0 N (z_nP q) (z_tk q) (z_bh q) (N - N)))) (nI (z_nP q + zs_k (z_rn u 0 N (z_nP q) (z_tk q) (z_bh q) (N - N)))) (nI N - nI 1) x (fun _ => 0) (fun _ => 0) (fun _ => 0) := by
    refine zl_down (σ := zF × zF × zF × zF) (fun n i s => lp_L_reads_36 38 64 y (nI r) (nI (z_nP q)) E400 n (nI (zs_h (z_rn u 0 N (z_nP q) (z_tk q) (z_bh q) (N - i)))) (nI (z_nP q + zs_k (z_rn u 0 N (z_nP q) (z_tk q) (z_bh q) (N - i)))) (nI i - nI 1) s.1 s.2.1 s.2.2.1 s.2.2.2) (fun i s => i ≤ N ∧ (∀ j, ¬ (14 + z_nP q ≤ j ∧ j < 14 + (z_nP q + z_ac u 0 N)) → s.1 j = x j) ∧ lH (z_nP q) (z_ac u 0 N) (z_rn u 0 N (z_nP q) (z_tk q) (z_bh q) (N - i)) s.1 s.2.1 s.2.2.1 s.2.2.2) ?_ ?_ N (x, (fun _ => 0), (fun _ => 0), (fun _ => 0)) ⟨Nat.le_refl _, fun j _ => rfl, ?_⟩
    · rintro n ⟨x', F, L, W⟩ ⟨-, g1, g2⟩
      have g1 : ∀ j, ¬ (14 + z_nP q ≤ j ∧ j < 14 + (z_nP q + z_ac u 0 N)) → x' j = x j := g1
      have g2 : lH (z_nP q) (z_ac u 0 N) (z_rn u 0 N (z_nP q) (z_tk q) (z_bh q) (N - 0)) x' F L W := g2
      obtain ⟨hJ, hJo⟩ := z_rn_J (z_nP q) (z_tk q) (z_bh q) hv N 0 (by omega)
      have hT := z_rn_T (base := z_nP q) (tk := z_tk q) (bh := z_bh q) hv N 0 (by omega)
      rw [Nat.sub_zero] at g2 hJ hJo hT
      have e1 : zs_h (z_rn u 0 N (z_nP q) (z_tk q) (z_bh q) N) = 1 := hJ.1
      have e2 : zs_k (z_rn u 0 N (z_nP q) (z_tk q) (z_bh q) N) = 0 := hJ.2.1
      show lp_L_reads_36 38 64 y (nI r) (nI (z_nP q)) E400 (n + 1) (nI (zs_h (z_rn u 0 N (z_nP q) (z_tk q) (z_bh q) (N - 0)))) (nI (z_nP q + zs_k (z_rn u 0 N (z_nP q) (z_tk q) (z_bh q) (N - 0)))) (nI 0 - nI 1) x' F L W
      rw [lp_L_reads_36]
      refine zb_t (by decide) (h400 _ _ _ _ ?_)
      have g0 := g2.1 0 (by omega)
      have p2 : (2 : Nat) ^ z_nP q ≤ 2 ^ (z_nP q + z_ac u 0 N) := Nat.pow_le_pow_right (by decide) (by omega)
      rw [zn_in (a := 0) (by omega), zn_cl (a := 0) (by omega), g0.1, g0.2.1, zn_add 2 r, zn_in (a := 2 + r) (by omega), zn_cl (a := 2 + r) (by omega), zn_add 6 r, zn_in (a := 6 + r) (by omega), zn_cl (a := 6 + r) (by omega), zn_add 10 r, zn_in (a := 10 + r) (by omega), zn_cl (a := 10 + r) (by omega), zn_shl (p := z_nP q) (by omega)]
      refine ⟨by omega, ?_⟩
      rintro _ rfl
      refine ⟨by omega, ?_⟩
      rintro _ rfl
      refine ⟨by omega, ?_⟩
      rintro _ rfl
      refine ⟨by omega, ?_⟩
      rintro _ rfl
      refine ⟨by omega, ?_⟩
      rintro _ rfl
      refine ⟨by omega, ?_⟩
      rintro _ rfl
      rw [zu_n (by omega), zu_n (by omega), g1 1 (by omega), h1, zn_shl (p := z_nP q + z_ac u 0 N) (by omega), zn_sub p2]
      refine h _ (fun j hj => ?_) ?_ ?_ (fun p p1 p2 => ?_) ⟨fun s hs => ?_, fun p hp => ?_⟩
      · rw [zu_n (by omega), zu_n (by omega), zu_n (by omega), g1 j (by omega)]
      · rw [zu_n (by omega), zu_n (by omega), zu_n (by omega), g1 0 (by omega)]
      · rw [zu_n (by omega), zu_n (by omega), zu_n (by omega), g1 1 (by omega)]
      · rw [zu_n (by omega), zu_n (by omega), zu_n (by omega), g1 _ (by omega)]
      · have hs : s < z_nR q + 1 := hs
        show _ = nI (z_up (z_fst q) (z_nR q) (zs_f (z_rn u 0 N (z_nP q) (z_tk q) (z_bh q) N) 0) s) ∧ _ = nI (z_up (z_whl q) (z_nR q) (zs_l (z_rn u 0 N (z_nP q) (z_tk q) (z_bh q) N) 0) s) ∧ _ = nI (z_up (z_of q) (z_nR q) (2 ^ (z_nP q + z_ac u 0 N) - 2 ^ z_nP q) s)
        by_cases e : s = z_nR q
        · rw [e, zp_s, zp_s, zp_s, ← hr]
          refine ⟨?_, ?_, zu_s⟩
          · rw [zu_n (by omega), zu_n (by omega), zu_s]
          · rw [zu_n (by omega), zu_s]
        · obtain ⟨o1, o2, o3⟩ := hQ.1 s (by omega)
          rw [zp_n e, zp_n e, zp_n e]
          refine ⟨?_, ?_, ?_⟩
          · rw [zu_n (by omega), zu_n (by omega), zu_n (by omega), g1 _ (by omega)]; exact o1
          · rw [zu_n (by omega), zu_n (by omega), zu_n (by omega), g1 _ (by omega)]; exact o2
          · rw [zu_n (by omega), zu_n (by omega), zu_n (by omega), g1 _ (by omega)]; exact o3
      · have hp : p < z_nP q + z_ac u 0 N := hp
        show _ = nI (zs_b (z_rn u 0 N (z_nP q) (z_tk q) (z_bh q) N) p) ∧ _ = nI (zs_t (z_rn u 0 N (z_nP q) (z_tk q) (z_bh q) N) p)
        rw [zu_n (by omega), zu_n (by omega), zu_n (by omega), zu_n (by omega), zu_n (by omega), zu_n (by omega), g1 (24 + p) (by omega)]
        by_cases e : p < z_nP q
        · obtain ⟨o1, o2⟩ := hQ.2 p e
          obtain ⟨j1, j2⟩ := hJo p e
          rw [j1, j2, g1 (14 + p) (by omega)]
          exact ⟨o1, o2⟩
        · refine ⟨g2.2.1 p (by omega) hp, ?_⟩
          obtain ⟨i, i1, i2, i3⟩ := z_ac_ex N (fun i hi => (hv.1 i hi).1) (p - z_nP q) (by omega)
          have t1 := htk i i1 i2
          have t2 := hT i (Nat.zero_le _) i1 i2
          rw [i3, show z_nP q + (p - z_nP q) = p by omega] at t1 t2
          rw [t1, t2]
    · rintro n i ⟨x', F, L, W⟩ ⟨hi, g1, g2⟩ ih
      have g1 : ∀ j, ¬ (14 + z_nP q ≤ j ∧ j < 14 + (z_nP q + z_ac u 0 N)) → x' j = x j := g1
      have g2 : lH (z_nP q) (z_ac u 0 N) (z_rn u 0 N (z_nP q) (z_tk q) (z_bh q) (N - (i + 1))) x' F L W := g2
      obtain ⟨hJ, hJo⟩ := z_rn_J (z_nP q) (z_tk q) (z_bh q) hv (N - (i + 1)) (i + 1) (by omega)
      have hd := z_vr_du hv (N - (i + 1)) (i + 1) (by omega)
      have hac := z_ac_m u 0 (show i + 1 ≤ N by omega)
      obtain ⟨sn, du⟩ := hv.1 i (by omega)
      have hat := z_rn_at u 0 N (z_nP q) (z_tk q) (z_bh q) (show i < N by omega)
      show lp_L_reads_36 38 64 y (nI r) (nI (z_nP q)) E400 (n + 1) (nI (zs_h (z_rn u 0 N (z_nP q) (z_tk q) (z_bh q) (N - (i + 1))))) (nI (z_nP q + zs_k (z_rn u 0 N (z_nP q) (z_tk q) (z_bh q) (N - (i + 1))))) (nI (i + 1) - nI 1) x' F L W
      rw [hJ.1, hJ.2.1, zn_sub1]
      refine sl_reads36 (many := z_ac u 0 N) h10 (by omega) (by rw [g1 1 (by omega)]; exact h1) (by omega) (by omega) (hy i (by omega)) sn (by rw [z_du_S]; omega) (fun e => ⟨by rw [z_ac_S, if_pos e]; omega, by omega⟩) hac hJ g2 (fun x2 F2 L2 W2 k1 k2 => ?_)
      rw [← hat] at k2 ⊢
      exact ih (x2, F2, L2, W2) ⟨by omega, fun j hj => (k1 j hj).trans (g1 j hj), k2⟩
    · rw [Nat.sub_self]
      refine ⟨fun i hi => absurd hi (Nat.not_lt_zero _), fun p p1 p2 => ?_, fun p p1 p2 => hz p p1 p2⟩
      have p1 : z_nP q + z_ac u 0 N ≤ p := p1
      omega
  rw [Nat.sub_self] at key
  exact key
