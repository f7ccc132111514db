def l_d (z : zF) (m : Nat) : zD := (fun j => (z j).toNatClampNeg, fun r => (z (26 + r)).toNatClampNeg, (List.range m).map (fun k => (z (31 + k)).toNatClampNeg))
theorem l_d_len (z : zF) (m : Nat) : z_len (l_d z m) = m := by
  show ((List.range m).map _).length = m
  rw [List.length_map, List.length_range]
theorem l_d_at (z : zF) {m j : Nat} (hj : j < m) : z_at (l_d z m) j = (z (31 + j)).toNatClampNeg := by
  show ((List.range m).map (fun k => (z (31 + k)).toNatClampNeg)).getD j 0 = _
  rw [List.getD_eq_getElem?_getD, List.getElem?_map, List.getElem?_range hj]
  rfl
theorem zc_k {v : Int32} {n : Nat} (hn : n ≤ 100) (h : ∃ c, c < n ∧ v = nI c) : v.toNatClampNeg < n ∧ v = nI v.toNatClampNeg := by
  obtain ⟨c, hc, rfl⟩ := h
  rw [zn_cl (by omega)]
  exact ⟨hc, rfl⟩
theorem l_d_E {z : zF} {m n : Nat} (hm : m ≤ 30) (hn : n ≤ 4) (h1 : ∀ j, j < 26 → ∃ c, c < 6 ∧ z j = nI c) (h2 : ∀ s, s < 4 → ∃ k, k < 4 ∧ z (26 + s) = nI k) (h3 : z 30 = nI m) (h4 : ∀ j, j < m → ∃ c, c < 26 ∧ z (31 + j) = nI c) : zE (l_d z m) ∧ lD n (l_d z m) z := by
  refine ⟨⟨fun j hj => (zc_k (by omega) (h1 j hj)).1, fun r hr => (zc_k (by omega) (h2 r hr)).1, ?_, fun x hx => ?_⟩, fun j hj => (zc_k (by omega) (h1 j hj)).2, fun r hr => (zc_k (by omega) (h2 r (by omega))).2, by rw [l_d_len]; exact h3, fun j hj => ?_⟩
  · show z_len (l_d z m) ≤ 30
    rw [l_d_len]; exact hm
  · obtain ⟨k, hk, e⟩ := List.mem_map.mp hx
    rw [← e]
    exact (zc_k (by omega) (h4 k (List.mem_range.mp hk))).1
  · rw [l_d_len] at hj
    rw [l_d_at z hj]
    exact (zc_k (by omega) (h4 j hj)).2
theorem sl_draws {L : Nat} {xs x y z : zF} {K : zF → zF → zF → Prop} (hL : L < 2147483648)
    (h : ∀ (n : Nat) (rw : Nat → Nat → Nat) (ln : Nat → Nat) (d : zD) (x' y' z' : zF), 1 ≤ n → n ≤ 3 → lG n n rw ln x' y' → zE d → lD n d z' → K x' y' z') : wp_L_draws L xs 38 64 61 x y z K := by
  unfold wp_L_draws
  refine sl_cell hL (by omega) (fun q4 => ?_)
  intro E28 h28
  refine sl_draws10 (fun x1 hx1 => h28 _ ?_)
  intro E49 h49
  refine sl_draws31 (fun z1 hz1 => h49 _ ?_)
  refine sl_low (by omega) (by omega) (fun a ha => ?_)
  rintro _ rfl
  rw [zn_in (a := 0) (by omega), zn_cl (a := 0) (by omega), zn_add 1 a]
  refine ⟨by omega, ?_⟩
  rintro _ rfl
  intro E493 h493
  refine ⟨(1 + a) + 1, by omega, ?_⟩
  refine sl_draws63 hL (NT := 1 + a) (by omega) (fun rw' ln x2 y2 z2 hG hz => h493 _ _ _ ?_) (1 + a) 0 (by omega) (fun _ _ => 0) (fun _ => 0) _ _ _ ⟨zu_s, ?_, ⟨fun r hr => absurd hr (Nat.not_lt_zero _), fun p hp => absurd hp (Nat.not_lt_zero _)⟩, fun p _ hp => ?_, fun s hs => absurd hs (Nat.not_lt_zero _), fun s hs => ?_⟩ (fun s hs => ⟨0, by omega, hz1 _ (by omega)⟩)
  · intro E558 h558
    refine sl_draws496 hL (fun z3 c1 c2 => h558 _ ?_)
    refine sl_low (by omega) (by omega) (fun b hb => ?_)
    intro J585 h585
    have e585 : ∀ m, 1 ≤ m → m ≤ 31 → J585 (nI m) := by
      intro m hm1 hm
      apply h585
      refine sl_low hm1 (by omega) (fun c hc => ?_)
      rw [zn_in (a := 30) (by omega), zn_cl (a := 30) (by omega)]
      refine ⟨by omega, ?_⟩
      rintro _ rfl
      intro E639 h639
      refine sl_draws592 hL (m := c) (by omega) zu_s (fun z4 d1 d2 => h639 _ ?_)
      have k1 : ∀ j, j < 30 → z4 j = z3 j := fun j hj => by rw [d1 j (by omega), zu_n (by omega)]
      obtain ⟨e1, e2⟩ := l_d_E (z := z4) (m := c) (n := 1 + a) (by omega) (by omega) (fun j hj => by rw [k1 j (by omega)]; exact c1 j hj) (fun s hs => by rw [k1 _ (by omega), c2 _ (by omega)]; exact hz s hs) (by rw [d1 30 (by omega), zu_s]) d2
      exact h (1 + a) rw' ln (l_d z4 c) _ _ _ (by omega) (by omega) hG e1 e2
    exact ⟨fun _ => e585 13 (by omega) (by omega), fun _ => e585 31 (by omega) (by omega)⟩
  · rw [zu_n (by omega)]; exact hx1 1 (by omega)
  · rw [zu_n (by omega)]; exact hx1 _ (by omega)
  · rw [show s = 0 by omega]; exact Nat.le_refl 0
