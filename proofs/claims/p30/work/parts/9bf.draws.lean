/-! a row drawn, sign by sign -/
theorem z_du_cong {t t' : Nat → Nat} {b b' n : Nat} (h : ∀ i, i < n → t (b + i) = t' (b' + i)) : ∀ i, i ≤ n → z_du t b i = z_du t' b' i
  | 0, _ => rfl
  | i + 1, hi => by rw [z_du_S, z_du_S, z_du_cong h i (by omega), h i (by omega)]
theorem z_ac_cong {t t' : Nat → Nat} {b b' n : Nat} (h : ∀ i, i < n → t (b + i) = t' (b' + i)) : ∀ i, i ≤ n → z_ac t b i = z_ac t' b' i
  | 0, _ => rfl
  | i + 1, hi => by rw [z_ac_S, z_ac_S, z_ac_cong h i (by omega), h i (by omega)]
theorem z_up_0 {u : Nat → Nat} {n c : Nat} {i : Nat} (hi : i < n) : z_up u n c (0 + i) = u (0 + i) := zp_n (by omega)
theorem z_up_n {u : Nat → Nat} {n c : Nat} : z_up u n c (0 + n) = c := by rw [Nat.zero_add]; exact zp_s
/-- n signs of rule r, due and places so far, what places take -/
def lP (r n du ac base : Nat) (u : Nat → Nat) (x y : zF) : Prop := (∀ i, i < n → z_sn (u (0 + i)) ∧ 0 < z_du u 0 i) ∧ z_du u 0 n = du ∧ z_ac u 0 n = ac ∧ (∀ i, i < n → y (16 * r + i) = nI (u (0 + i))) ∧ ∀ i, i < n → z_am (u (0 + i)) → x (24 + (base + z_ac u 0 i)) = nI (z_va (u (0 + i)))
theorem lP.non {r n du ac base c : Nat} {u : Nat → Nat} {x y : zF} (h : lP r n du ac base u x y) (hd : 0 < du) (hc : z_sn c) (hp : z_pt c ≠ 0) : lP r (n + 1) (du - 1 + z_pt c) ac base (z_up u n c) x (upd y (16 * r + n) (nI c)) := by
  obtain ⟨h1, h2, h3, h4, h5⟩ := h
  have cg : ∀ i, i < n → z_up u n c (0 + i) = u (0 + i) := fun i hi => z_up_0 hi
  have cd := z_du_cong cg
  have ca := z_ac_cong cg
  refine ⟨fun i hi => ?_, ?_, ?_, fun i hi => ?_, fun i hi ha => ?_⟩
  · by_cases e : i = n
    · rw [e, z_up_n, cd n (Nat.le_refl _), h2]; exact ⟨hc, hd⟩
    · rw [cg i (by omega), cd i (by omega)]; exact h1 i (by omega)
  · rw [z_du_S, cd n (Nat.le_refl _), z_up_n, h2]
  · rw [z_ac_S, ca n (Nat.le_refl _), z_up_n, if_neg hp, h3]; rfl
  · by_cases e : i = n
    · rw [e, z_up_n, zu_s]
    · rw [cg i (by omega), zu_n (by omega)]; exact h4 i (by omega)
  · by_cases e : i = n
    · rw [e, z_up_n] at ha
      exact absurd (z_pt_am ha) hp
    · rw [cg i (by omega)] at ha ⊢
      rw [ca i (by omega)]
      exact h5 i (by omega) ha
theorem lP.atom {r n du ac base c : Nat} {u : Nat → Nat} {x y : zF} {t : Int32} (h : lP r n du ac base u x y) (hd : 0 < du) (hc : z_am c) : lP r (n + 1) (du - 1) (ac + 1) base (z_up u n c) (upd (upd x (24 + (base + ac)) (nI (z_va c))) 1 t) (upd y (16 * r + n) (nI c)) := by
  obtain ⟨h1, h2, h3, h4, h5⟩ := h
  have cg : ∀ i, i < n → z_up u n c (0 + i) = u (0 + i) := fun i hi => z_up_0 hi
  have cd := z_du_cong cg
  have ca := z_ac_cong cg
  have hp := z_pt_am hc
  refine ⟨fun i hi => ?_, ?_, ?_, fun i hi => ?_, fun i hi ha => ?_⟩
  · by_cases e : i = n
    · rw [e, z_up_n, cd n (Nat.le_refl _), h2]; exact ⟨Or.inr (Or.inr (Or.inr (Or.inr (Or.inr hc)))), hd⟩
    · rw [cg i (by omega), cd i (by omega)]; exact h1 i (by omega)
  · rw [z_du_S, cd n (Nat.le_refl _), z_up_n, h2, hp]; rfl
  · rw [z_ac_S, ca n (Nat.le_refl _), z_up_n, if_pos hp, h3]
  · by_cases e : i = n
    · rw [e, z_up_n, zu_s]
    · rw [cg i (by omega), zu_n (by omega)]; exact h4 i (by omega)
  · by_cases e : i = n
    · rw [e, z_up_n, ca n (Nat.le_refl _), h3, zu_n (by omega), zu_s]
    · rw [cg i (by omega)] at ha ⊢
      rw [ca i (by omega), zu_n (by omega)]
      have hlt : z_ac u 0 i < ac := by
        have h6 := z_ac_m u 0 (show i + 1 ≤ n by omega)
        rw [z_ac_S, if_pos (z_pt_am ha), h3] at h6
        omega
      rw [zu_n (by omega)]
      exact h5 i (by omega) ha
theorem z_sn_u {c : Nat} (h : c = 42 ∨ c = 43 ∨ c = 63) : z_sn c ∧ z_pt c = 1 := by
  rcases h with rfl | rfl | rfl
  · exact ⟨Or.inr (Or.inr (Or.inl rfl)), rfl⟩
  · exact ⟨Or.inr (Or.inr (Or.inr (Or.inl rfl))), rfl⟩
  · exact ⟨Or.inr (Or.inr (Or.inr (Or.inr (Or.inl rfl)))), rfl⟩
theorem z_va_at {v : Nat} (h : v ≤ 6) : z_am (if v = 6 then 46 else 48 + v) ∧ z_va (if v = 6 then 46 else 48 + v) = v := by
  unfold z_am z_va
  by_cases e : v = 6
  · rw [if_pos e]; exact ⟨Or.inl rfl, e.symm⟩
  · rw [if_neg e, if_neg (by omega)]; exact ⟨Or.inr (by omega), by omega⟩
theorem sl_unary' {v : Int32} {K : Int32 → Prop} (h : ∀ c, (c = 0 ∨ c = 42 ∨ c = 43 ∨ c = 63) → K (nI c)) : wp_L_unary v K := sl_unary (h 0 (by omega)) (h 42 (by omega)) (h 43 (by omega)) (h 63 (by omega))
theorem sl_draws141 {r A base : Nat} {q6 q7 : Int32} {x y w : zF} {E : Int32 → zF → zF → zF → Prop} (hr : r < 3) (hA1 : 1 ≤ A) (hA3 : A ≤ 3) (hb : base ≤ 7) (h1 : x 1 = nI base)
    (h : ∀ (N : Nat) (u : Nat → Nat) (x' y' w' : zF), N ≤ 12 → lP r N 0 A base u x' y' → (∀ j, j < 16 * r → y' j = y j) → (∀ j, j ≠ 1 → ¬ (24 + base ≤ j ∧ j < 24 + (base + A)) → x' j = x j) → x' 1 = nI (base + A) → E (nI N) x' y' w') : ∃ n, lp_L_draws_141 38 64 (nI r) q6 q7 (nI A) E n (nI 0) (nI 0) x y w := by
  have sg : ∀ n : Nat, nI (16 * r + n + 1) - nI (16 * r) = nI (n + 1) := by
    intro n
    rw [zn_sub (by omega)]
    congr 1
    omega
  refine zl_inv (σ := Nat × (Nat → Nat) × zF × zF × zF) (fun m k s => lp_L_draws_141 38 64 (nI r) q6 q7 (nI A) E m (nI s.1) (nI k) s.2.2.1 s.2.2.2.1 s.2.2.2.2) (fun k s => s.1 ≤ 4 * k ∧ lP r s.1 (if k < A then 1 else 0) k base s.2.1 s.2.2.1 s.2.2.2.1 ∧ (∀ j, j < 16 * r → s.2.2.2.1 j = y j) ∧ (∀ j, j ≠ 1 → ¬ (24 + base ≤ j ∧ j < 24 + (base + A)) → s.2.2.1 j = x j) ∧ s.2.2.1 1 = nI (base + k)) A ?_ ?_ 0 (0, (fun _ => 0), x, y, w) (Nat.zero_le _) ⟨Nat.zero_le _, ⟨fun i hi => absurd hi (Nat.not_lt_zero _), by rw [if_pos (show 0 < A from hA1)]; rfl, rfl, fun i hi => absurd hi (Nat.not_lt_zero _), fun i hi => absurd hi (Nat.not_lt_zero _)⟩, fun j _ => rfl, fun j _ _ => rfl, h1⟩
  · rintro m ⟨n, u, x', y', w'⟩ ⟨g1, g2, g3, g4, g5⟩
    have g2 : lP r n (if A < A then 1 else 0) A base u x' y' := g2
    rw [if_neg (Nat.lt_irrefl _)] at g2
    show lp_L_draws_141 38 64 (nI r) q6 q7 (nI A) E (m + 1) (nI n) (nI A) x' y' w'
    rw [lp_L_draws_141]
    have g1 : n ≤ 4 * A := g1
    exact zb_t (by rw [zn_le (by omega) (by omega)]; omega) (h n u x' y' w' (by omega) g2 g3 g4 g5)
  · rintro m k ⟨n, u, x', y', w'⟩ hk ⟨g1, g2, g3, g4, g5⟩ ih
    have g1 : n ≤ 4 * k := g1
    have g2 : lP r n (if k < A then 1 else 0) k base u x' y' := g2
    have g3 : ∀ j, j < 16 * r → y' j = y j := g3
    have g4 : ∀ j, j ≠ 1 → ¬ (24 + base ≤ j ∧ j < 24 + (base + A)) → x' j = x j := g4
    have g5 : x' 1 = nI (base + k) := g5
    rw [if_pos hk] at g2
    show lp_L_draws_141 38 64 (nI r) q6 q7 (nI A) E (m + 1) (nI n) (nI k) x' y' w'
    rw [lp_L_draws_141, zn_mul 16 r]
    refine zb_f (by rw [zn_le (by omega) (by omega)]; omega) ?_
    rintro v13 -
    intro J280 h280
    have e280 : ∀ (n2 : Nat) (u2 : Nat → Nat) (y2 w2 : zF), n2 ≤ n + 2 → lP r n2 (if k + 1 < A then 2 else 1) k base u2 x' y2 → (∀ j, j < 16 * r → y2 j = y j) → J280 (nI n2) y2 w2 := by
      intro n2 u2 y2 w2 hn2 p2 f2
      apply h280
      refine sl_unary' (fun c hc => ?_)
      intro J317 h317
      have e317 : ∀ (n3 : Nat) (u3 : Nat → Nat) (y3 : zF), n3 ≤ n + 3 → lP r n3 (if k + 1 < A then 2 else 1) k base u3 x' y3 → (∀ j, j < 16 * r → y3 j = y j) → J317 (nI n3) y3 := by
        intro n3 u3 y3 hn3 p3 f3
        apply h317
        refine sl_low (by omega) (by omega) (fun a9 ha9 => ?_)
        intro J361 h361
        have e361 : ∀ v, v ≤ 6 → J361 (nI v) := by
          intro v hv
          apply h361
          refine sl_low (by omega) (by omega) (fun a7 ha7 => ?_)
          intro J387 h387
          have e387 : ∀ v, v ≤ 6 → J387 (nI v) := by
            intro v hv
            obtain ⟨am, va⟩ := z_va_at hv
            apply h387
            rw [zn_in (a := 1) (by omega), zn_cl (a := 1) (by omega), g5, zn_add 24 (base + k), zn_in (a := 24 + (base + k)) (by omega), zn_cl (a := 24 + (base + k)) (by omega)]
            refine ⟨by omega, by omega, ?_⟩
            rintro _ rfl
            refine ⟨by omega, ?_⟩
            rintro _ rfl
            refine ⟨by omega, ?_⟩
            rintro _ rfl
            intro J432 h432
            have e432 : J432 (nI (if v = 6 then 46 else 48 + v)) := by
              apply h432
              rw [zn_add (16 * r) n3]
              refine sl_sign (by omega) (by omega) ?_
              rintro _ rfl _ rfl
              rw [sg, zn_add k 1]
              have hp := p3.atom (t := upd x' (24 + (base + k)) (nI v) 1 + nI 1) (by split <;> omega) am
              rw [va] at hp
              refine ih (n3 + 1, z_up u3 n3 (if v = 6 then 46 else 48 + v), _, _, w2) ⟨by show n3 + 1 ≤ 4 * (k + 1); omega, ?_, fun j hj => ?_, fun j j1 j2 => ?_, ?_⟩
              · show lP r (n3 + 1) (if k + 1 < A then 1 else 0) (k + 1) base _ _ _
                by_cases e : k + 1 < A
                · rw [if_pos e] at hp ⊢; exact hp
                · rw [if_neg e] at hp ⊢; exact hp
              · show upd y3 (16 * r + n3) _ j = y j
                rw [zu_n (by omega)]; exact f3 j hj
              · show upd (upd x' (24 + (base + k)) (nI v)) 1 _ j = x j
                rw [zu_n (by omega), zu_n (by omega)]; exact g4 j j1 j2
              · show upd (upd x' (24 + (base + k)) (nI v)) 1 _ 1 = nI (base + (k + 1))
                rw [zu_s, zu_n (by omega), g5, zn_add]
                rfl
            rw [zn_eq (by omega) (by omega), zn_add 48 v]
            refine ⟨fun e => ?_, fun e => ?_⟩
            · rw [if_neg e] at e432; exact e432
            · rw [if_pos e] at e432; exact e432
          exact ⟨fun _ => e387 v hv, fun _ => e387 5 (by omega)⟩
        refine ⟨fun _ => sl_low (by omega) (by omega) (fun a4 ha4 => ?_), fun _ => e361 6 (by omega)⟩
        intro J358 h358
        exact ⟨fun _ => h358 _ (sl_low (by omega) (by omega) (fun a ha => e361 a (by omega))), fun _ => h358 _ (sl_low (by omega) (by omega) (fun a ha => e361 a (by omega)))⟩
      rw [zn_add (16 * r) n2, zn_eq0 (by omega)]
      refine ⟨fun e => ?_, fun _ => e317 n2 u2 y2 (by omega) p2 f2⟩
      obtain ⟨s1, s2⟩ := z_sn_u (c := c) (by omega)
      refine sl_sign (by omega) (by omega) ?_
      rw [sg]
      have hp := p2.non (by split <;> omega) s1 (by omega)
      rw [s2, show (if k + 1 < A then 2 else 1) - 1 + 1 = (if k + 1 < A then 2 else 1) from by split <;> rfl] at hp
      exact e317 (n2 + 1) _ _ (by omega) hp (fun j hj => by rw [zu_n (by omega)]; exact f2 j hj)
    rw [zn_sub hA1, zn_le (by omega) (by omega)]
    refine ⟨fun e => e280 n u y' w' (by omega) (by rw [if_neg (by omega)]; exact g2) g3, fun e => sl_low (by omega) (by omega) (fun a3 ha3 => ?_)⟩
    intro J195 h195
    have e195 : ∀ c, (c = 38 ∨ c = 124) → J195 (nI c) := by
      intro c hc
      have hs : z_sn c ∧ z_pt c = 2 := by
        rcases hc with rfl | rfl
        · exact ⟨Or.inl rfl, rfl⟩
        · exact ⟨Or.inr (Or.inl rfl), rfl⟩
      apply h195
      rw [zn_in (a := k) (by omega), zn_cl (a := k) (by omega)]
      refine ⟨by omega, ?_⟩
      rintro _ rfl
      rw [zu_s]
      refine sl_low (by omega) (by omega) (fun a4 ha4 => ?_)
      intro J221 h221
      have e221 : ∀ b, (b = 0 ∨ b = 42 ∨ b = 43 ∨ b = 63) → J221 (nI b) := by
        intro b hb2
        apply h221
        intro J253 h253
        have e253 : ∀ (n3 : Nat) (u3 : Nat → Nat) (y3 : zF), n3 ≤ n + 1 → lP r n3 1 k base u3 x' y3 → (∀ j, j < 16 * r → y3 j = y j) → J253 (nI n3) y3 := by
          intro n3 u3 y3 hn3 p3 f3
          apply h253
          rw [zn_add (16 * r) n3]
          refine ⟨by omega, sl_sign (by omega) (by omega) ?_⟩
          rintro _ rfl
          rw [sg]
          have hp := p3.non (by omega) hs.1 (by omega)
          rw [hs.2] at hp
          exact e280 (n3 + 1) _ _ _ (by omega) (by rw [if_pos (by omega)]; exact hp) (fun j hj => by rw [zu_n (by omega)]; exact f3 j hj)
        rw [zn_add (16 * r) n, zn_eq0 (by omega)]
        refine ⟨fun e2 => ?_, fun _ => e253 n u y' (by omega) g2 g3⟩
        obtain ⟨s1, s2⟩ := z_sn_u (c := b) (by omega)
        refine sl_sign (by omega) (by omega) ?_
        rw [sg]
        have hp := g2.non (by omega) s1 (by omega)
        rw [s2] at hp
        exact e253 (n + 1) _ _ (by omega) hp (fun j hj => by rw [zu_n (by omega)]; exact g3 j hj)
      exact ⟨fun _ => e221 0 (by omega), fun _ => sl_unary' (fun b hb2 => e221 b hb2)⟩
    exact ⟨fun _ => e195 38 (by omega), fun _ => e195 124 (by omega)⟩
