theorem sl_lays9 {cl : Nat → Nat} {w : zF} {E : Int32 → zF → Prop} (hw : ∀ j, j < 26 → w j = nI (cl j)) (hcl : ∀ j, j < 26 → cl j < 6) {v4 tl : Int32} {signs : zF} {t0 : Nat → Nat} (hT : zT 0 t0) (hx : xT 0 t0 tl signs)
    (h : ∀ (m : Nat) (t : Nat → Nat) (k : Nat) (tl : Int32) (signs : zF), zT m t → xT m t tl signs → m ≤ 46 → k ≤ 5 → zX m t k z_q0 → E tl signs) : ∃ n, lp_L_lays_9 61 w E n v4 (nI 1) tl signs := by
  refine zl_inv (σ := Int32 × Nat × (Nat → Nat) × Nat × Int32 × zF) (fun n x s => lp_L_lays_9 61 w E n s.1 (nI x) s.2.2.2.2.1 s.2.2.2.2.2) (fun x s => zT s.2.1 s.2.2.1 ∧ xT s.2.1 s.2.2.1 s.2.2.2.2.1 s.2.2.2.2.2 ∧ zX s.2.1 s.2.2.1 s.2.2.2.1 z_q0 ∧ s.2.2.2.1 + 1 ≤ x ∧ s.2.1 + 4 ≤ 4 * x + z_ct (fun j => decide (1 ≤ cl j ∧ cl j < x)) 26) 6 ?_ ?_ 1 (v4, 0, t0, 0, tl, signs) (by omega) ⟨hT, hx, zX_0 t0, Nat.le_refl _, Nat.le_add_right _ _⟩
  · rintro n ⟨v4, m, t, k, tl, signs⟩ ⟨g1, g2, g3, g4, g5⟩
    replace g4 : k + 1 ≤ 6 := g4
    replace g5 : m + 4 ≤ 4 * 6 + z_ct (fun j => decide (1 ≤ cl j ∧ cl j < 6)) 26 := g5
    have hB := z_ct_le (fun j => decide (1 ≤ cl j ∧ cl j < 6)) 26
    show lp_L_lays_9 61 w E (n + 1) v4 (nI 6) tl signs
    rw [lp_L_lays_9]
    exact zb_t (by rw [zn_le (by omega) (by omega)]; omega) (h m t k tl signs g1 g2 (by omega) (by omega) g3)
  · rintro n x ⟨v4, m, t, k, tl, signs⟩ hx6 ⟨g1, g2, g3, g4, g5⟩ ih
    replace g1 : zT m t := g1
    replace g2 : xT m t tl signs := g2
    replace g3 : zX m t k z_q0 := g3
    replace g4 : k + 1 ≤ x := g4
    replace g5 : m + 4 ≤ 4 * x + z_ct (fun j => decide (1 ≤ cl j ∧ cl j < x)) 26 := g5
    have hB := z_ct_le (fun j => decide (1 ≤ cl j ∧ cl j < x)) 26
    have hB2 := z_ct_le (fun j => cl j == x) 26
    have hdis := z_ct_dis (f := fun j => decide (1 ≤ cl j ∧ cl j < x)) (g := fun j => cl j == x) (k := fun j => decide (1 ≤ cl j ∧ cl j < x + 1)) (fun j => by
      show (decide (1 ≤ cl j ∧ cl j < x)).toNat + (cl j == x).toNat = (decide (1 ≤ cl j ∧ cl j < x + 1)).toNat
      by_cases e : cl j = x
      · rw [decide_eq_false (show ¬ (1 ≤ cl j ∧ cl j < x) by omega), decide_eq_true (show 1 ≤ cl j ∧ cl j < x + 1 by omega), show (cl j == x) = true from by simp [e]]
        rfl
      · rw [show (cl j == x) = false from by simp [e]]
        by_cases e2 : 1 ≤ cl j ∧ cl j < x
        · rw [decide_eq_true e2, decide_eq_true (show 1 ≤ cl j ∧ cl j < x + 1 by omega)]
          rfl
        · rw [decide_eq_false e2, decide_eq_false (show ¬ (1 ≤ cl j ∧ cl j < x + 1) by omega)]
          rfl) 26
    show lp_L_lays_9 61 w E (n + 1) v4 (nI x) tl signs
    rw [lp_L_lays_9, zn_add x 1]
    refine zb_f (by rw [zn_le (by omega) (by omega)]; omega) ?_
    intro E90 h90
    refine sl_lays22 hw hcl (x := x) (by omega) (by omega) g1 g2 (fun v4' v6' m2 t2 tl2 s2 a1 a2 a3 => h90 _ _ _ _ ?_)
    obtain ⟨f0, hc⟩ := a3
    rcases hc with ⟨hv, hmm⟩ | ⟨hv, cnt, c1, c2, c3, c4, c5, c6, c7⟩
    · subst hv
      subst hmm
      refine zb_t zi_0 ?_
      rintro _ rfl
      refine ih (v4', m2, t2, k, tl2, s2) ⟨a1, a2, g3.agree f0, by show k + 1 ≤ x + 1; omega, ?_⟩
      show m2 + 4 ≤ 4 * (x + 1) + z_ct (fun j => decide (1 ≤ cl j ∧ cl j < x + 1)) 26
      omega
    · subst hv
      refine zb_f zi_1 (sx_write a1 a2 (by omega) (by omega) (by omega) (fun tl3 s3 b1 b2 => ?_))
      rintro _ rfl
      refine ih (nI (m2 + 1), m2 + 1, z_up t2 m2 59, k + 1, tl3, s3) ⟨b1, b2, ?_, by show k + 1 + 1 ≤ x + 1; omega, ?_⟩
      · show zX (m2 + 1) (z_up t2 m2 59) (k + 1) z_q0
        refine g3.step (e := m2) (by omega) (fun i hi => by rw [zp_n (by omega)]; exact f0 i hi) (fun t' ht m' hm' => ⟨hm', ?_, Or.inl ⟨?_, ?_, ?_, ?_, ?_, fun j j1 j2 => ?_, ?_⟩⟩) (fun t' ht D => ?_)
        · rw [ht m2 (by omega), zp_s]
        · rw [ht m (by omega), zp_n (by omega), c4]
        · omega
        · rw [ht (m + 1) (by omega), zp_n (by omega), c5]; omega
        · rw [ht (m + 1) (by omega), zp_n (by omega), c5]; omega
        · rw [ht (m + 2) (by omega), zp_n (by omega), c6]
        · have := c7 j j1 j2
          unfold z_lt at this ⊢
          rw [ht j (by omega), zp_n (by omega)]
          exact this
        · omega
        · rw [z_tl_c (by rw [ht m (by omega), zp_n (by omega), c4])]
      · show m2 + 1 + 4 ≤ 4 * (x + 1) + z_ct (fun j => decide (1 ≤ cl j ∧ cl j < x + 1)) 26
        omega
theorem z_sn_p {c : Nat} (h : z_sn c) : 32 ≤ c ∧ c ≤ 126 := by
  rcases h with rfl | rfl | rfl | rfl | rfl | h
  · omega
  · omega
  · omega
  · omega
  · omega
  · unfold z_am at h; omega
theorem sl_lays160 {r N m0 : Nat} {u t0 : Nat → Nat} {y z : zF} {E : Int32 → zF → Prop} (hr : r < 3) (hN : N ≤ 16) (hy : y (34 + r) = nI N) (hz : ∀ i, i < N → z (16 * r + i) = nI (u (0 + i))) (hu : ∀ i, i < N → z_sn (u (0 + i))) (hm : m0 ≤ 180) {tl : Int32} {signs : zF} (hT : zT m0 t0) (hx : xT m0 t0 tl signs)
    (h : ∀ (t : Nat → Nat) (tl : Int32) (signs : zF), zT (m0 + N) t → xT (m0 + N) t tl signs → (∀ i, i < m0 → t i = t0 i) → (∀ i, i < N → t (m0 + i) = u (0 + i)) → E tl signs) : ∃ n, lp_L_lays_160 38 64 y z (nI r) E n (nI 0) tl signs := by
  refine zl_inv (σ := (Nat → Nat) × Int32 × zF) (fun n i s => lp_L_lays_160 38 64 y z (nI r) E n (nI i) s.2.1 s.2.2) (fun i s => zT (m0 + i) s.1 ∧ xT (m0 + i) s.1 s.2.1 s.2.2 ∧ (∀ j, j < m0 → s.1 j = t0 j) ∧ ∀ j, j < i → s.1 (m0 + j) = u (0 + j)) N ?_ ?_ 0 (t0, tl, signs) (Nat.zero_le _) ⟨hT, hx, fun _ _ => rfl, fun j hj => absurd hj (Nat.not_lt_zero _)⟩
  · rintro n ⟨t, tl, signs⟩ ⟨g1, g2, g3, g4⟩
    show lp_L_lays_160 38 64 y z (nI r) E (n + 1) (nI N) tl signs
    rw [lp_L_lays_160, zn_add 34 r, zn_in (a := 34 + r) (by omega), zn_cl (a := 34 + r) (by omega), hy]
    exact ⟨by omega, zb_t (by rw [zn_le (by omega) (by omega)]; omega) (h t tl signs g1 g2 g3 g4)⟩
  · rintro n i ⟨t, tl, signs⟩ hi ⟨g1, g2, g3, g4⟩ ih
    replace g1 : zT (m0 + i) t := g1
    replace g2 : xT (m0 + i) t tl signs := g2
    replace g3 : ∀ j, j < m0 → t j = t0 j := g3
    replace g4 : ∀ j, j < i → t (m0 + j) = u (0 + j) := g4
    obtain ⟨p1, p2⟩ := z_sn_p (hu i hi)
    show lp_L_lays_160 38 64 y z (nI r) E (n + 1) (nI i) tl signs
    rw [lp_L_lays_160, zn_add 34 r, zn_in (a := 34 + r) (by omega), zn_cl (a := 34 + r) (by omega), hy, zn_mul 16 r, zn_add (16 * r) i, zn_in (a := 16 * r + i) (by omega), zn_cl (a := 16 * r + i) (by omega), hz i hi, zn_add i 1]
    refine ⟨by omega, zb_f (by rw [zn_le (by omega) (by omega)]; omega) ⟨by omega, sx_write g1 g2 (by omega) p1 p2 (fun tl3 s3 b1 b2 => ?_)⟩⟩
    rintro _ rfl
    refine ih (z_up t (m0 + i) (u (0 + i)), tl3, s3) ⟨b1, b2, fun j hj => ?_, fun j hj => ?_⟩
    · show z_up t (m0 + i) (u (0 + i)) j = t0 j
      rw [zp_n (by omega)]; exact g3 j hj
    · show z_up t (m0 + i) (u (0 + i)) (m0 + j) = u (0 + j)
      by_cases e : j = i
      · rw [e, zp_s]
      · rw [zp_n (by omega)]; exact g4 j (by omega)
theorem sl_lays219 {n m0 : Nat} {d : zD} {t0 : Nat → Nat} {w : zF} {E : Int32 → zF → Prop} (hd : zE d) (hw : lD n d w) (hm : m0 ≤ 160) {tl : Int32} {signs : zF} (hT : zT m0 t0) (hx : xT m0 t0 tl signs)
    (h : ∀ (t : Nat → Nat) (tl : Int32) (signs : zF), zT (m0 + z_len d) t → xT (m0 + z_len d) t tl signs → (∀ i, i < m0 → t i = t0 i) → (∀ i, i < z_len d → z_lt t (m0 + i)) → E tl signs) : ∃ n, lp_L_lays_219 61 w E n (nI 0) tl signs := by
  have hl : z_len d ≤ 30 := hd.2.2.1
  refine zl_inv (σ := (Nat → Nat) × Int32 × zF) (fun n i s => lp_L_lays_219 61 w E n (nI i) s.2.1 s.2.2) (fun i s => zT (m0 + i) s.1 ∧ xT (m0 + i) s.1 s.2.1 s.2.2 ∧ (∀ j, j < m0 → s.1 j = t0 j) ∧ ∀ j, j < i → z_lt s.1 (m0 + j)) (z_len d) ?_ ?_ 0 (t0, tl, signs) (Nat.zero_le _) ⟨hT, hx, fun _ _ => rfl, fun j hj => absurd hj (Nat.not_lt_zero _)⟩
  · rintro n ⟨t, tl, signs⟩ ⟨g1, g2, g3, g4⟩
    show lp_L_lays_219 61 w E (n + 1) (nI (z_len d)) tl signs
    rw [lp_L_lays_219, zn_in (a := 30) (by omega), zn_cl (a := 30) (by omega), hw.2.2.1]
    exact ⟨by omega, zb_t (by rw [zn_le (by omega) (by omega)]; omega) (h t tl signs g1 g2 g3 g4)⟩
  · rintro n i ⟨t, tl, signs⟩ hi ⟨g1, g2, g3, g4⟩ ih
    replace g1 : zT (m0 + i) t := g1
    replace g2 : xT (m0 + i) t tl signs := g2
    replace g3 : ∀ j, j < m0 → t j = t0 j := g3
    replace g4 : ∀ j, j < i → z_lt t (m0 + j) := g4
    have hat := hd.at hi
    show lp_L_lays_219 61 w E (n + 1) (nI i) tl signs
    rw [lp_L_lays_219, zn_in (a := 30) (by omega), zn_cl (a := 30) (by omega), hw.2.2.1, zn_add 31 i, zn_in (a := 31 + i) (by omega), zn_cl (a := 31 + i) (by omega), hw.2.2.2 i hi, zn_add 97 (z_at d i), zn_add i 1]
    refine ⟨by omega, zb_f (by rw [zn_le (by omega) (by omega)]; omega) ⟨by omega, sx_write g1 g2 (by omega) (by omega) (by omega) (fun tl3 s3 b1 b2 => ?_)⟩⟩
    rintro _ rfl
    refine ih (z_up t (m0 + i) (97 + z_at d i), tl3, s3) ⟨b1, b2, fun j hj => ?_, fun j hj => ?_⟩
    · show z_up t (m0 + i) (97 + z_at d i) j = t0 j
      rw [zp_n (by omega)]; exact g3 j hj
    · show 97 ≤ z_up t (m0 + i) (97 + z_at d i) (m0 + j) ∧ z_up t (m0 + i) (97 + z_at d i) (m0 + j) ≤ 122
      by_cases e : j = i
      · rw [e, zp_s]; omega
      · rw [zp_n (by omega)]; exact g4 j (by omega)
