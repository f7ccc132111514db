/-! all that is drawn: rules, classes, kinds, a line -/
def zqs (rw : Nat → Nat → Nat) (ln : Nat → Nat) : Nat → zR
  | 0 => z_q0
  | r + 1 => z_ad (zqs rw ln r) (rw r) 0 (ln r)
theorem zqs_cong {rw rw' : Nat → Nat → Nat} {ln ln' : Nat → Nat} : ∀ n, (∀ s, s < n → rw s = rw' s ∧ ln s = ln' s) → zqs rw ln n = zqs rw' ln' n
  | 0, _ => rfl
  | n + 1, h => by
    rw [zqs, zqs, zqs_cong n (fun s hs => h s (by omega)), (h n (by omega)).1, (h n (by omega)).2]
theorem zqs_nR (rw : Nat → Nat → Nat) (ln : Nat → Nat) : ∀ n, z_nR (zqs rw ln n) = n
  | 0 => rfl
  | n + 1 => by
    show z_nR (zqs rw ln n) + 1 = n + 1
    rw [zqs_nR rw ln n]
theorem zqs_nP (rw : Nat → Nat → Nat) (ln : Nat → Nat) (n : Nat) : z_nP (zqs rw ln (n + 1)) = z_nP (zqs rw ln n) + z_ac (rw n) 0 (ln n) := rfl
theorem zqs_W (rw : Nat → Nat → Nat) (ln : Nat → Nat) : ∀ n, n ≤ 4 → (∀ r, r < n → z_vr (rw r) 0 (ln r)) → (∀ r, r ≤ n → z_nP (zqs rw ln r) ≤ 10) → zW0 (zqs rw ln n)
  | 0, _, _, _ => z_q0_W
  | n + 1, hn, hv, h10 => by
    have ih := zqs_W rw ln n (by omega) (fun r hr => hv r (by omega)) (fun r hr => h10 r (by omega))
    exact ih.ad (hv n (by omega)) (by rw [zqs_nR]; omega) (h10 (n + 1) (Nat.le_refl _))
theorem zqs_Co (rw : Nat → Nat → Nat) (ln : Nat → Nat) : ∀ n, ∃ ro, zCo (zqs rw ln n) ro
  | 0 => ⟨fun _ => 0, fun p hp => absurd hp (Nat.not_lt_zero _)⟩
  | n + 1 => by
    obtain ⟨ro, h⟩ := zqs_Co rw ln n
    refine ⟨fun p => if p < z_nP (zqs rw ln n) then ro p else n, fun p hp => ?_⟩
    have hp : p < z_nP (zqs rw ln n) + z_ac (rw n) 0 (ln n) := hp
    have hn := zqs_nR rw ln n
    show (if p < z_nP (zqs rw ln n) then ro p else n) < z_nR (zqs rw ln n) + 1 ∧ (z_up (z_of (zqs rw ln n)) (z_nR (zqs rw ln n)) (2 ^ (z_nP (zqs rw ln n) + z_ac (rw n) 0 (ln n)) - 2 ^ z_nP (zqs rw ln n)) (if p < z_nP (zqs rw ln n) then ro p else n)).testBit p = true
    by_cases e : p < z_nP (zqs rw ln n)
    · obtain ⟨h1, h2⟩ := h p e
      rw [if_pos e, zp_n (by omega)]
      exact ⟨by omega, h2⟩
    · rw [if_neg e, hn, zp_s]
      exact ⟨by omega, (z_of_bit _ _ _).mpr ⟨by omega, hp⟩⟩
theorem sl_draws10 {x : zF} {E : zF → Prop} (h : ∀ x' : zF, (∀ j, j < 38 → x' j = nI 0) → E x') : ∃ n, lp_L_draws_10 38 E n (nI 0) x := by
  refine zl_inv (σ := zF) (fun n i s => lp_L_draws_10 38 E n (nI i) s) (fun i s => ∀ j, j < i → s j = nI 0) 38 ?_ ?_ 0 x (Nat.zero_le _) (fun j hj => absurd hj (Nat.not_lt_zero _))
  · intro n s hs
    rw [lp_L_draws_10]
    exact zb_t (by rw [zn_le (by omega) (by omega)]; omega) (h s hs)
  · intro n i s hi hs ih
    rw [lp_L_draws_10, zn_in (a := i) (by omega), zn_cl (a := i) (by omega), zn_add i 1]
    refine zb_f (by rw [zn_le (by omega) (by omega)]; omega) ⟨by omega, ?_⟩
    rintro _ rfl _ rfl
    refine ih _ (fun j hj => ?_)
    by_cases e : j = i
    · rw [e, zu_s]
    · rw [zu_n e]; exact hs j (by omega)
theorem sl_draws31 {x : zF} {E : zF → Prop} (h : ∀ x' : zF, (∀ j, j < 61 → x' j = nI 0) → E x') : ∃ n, lp_L_draws_31 61 E n (nI 0) x := by
  refine zl_inv (σ := zF) (fun n i s => lp_L_draws_31 61 E n (nI i) s) (fun i s => ∀ j, j < i → s j = nI 0) 61 ?_ ?_ 0 x (Nat.zero_le _) (fun j hj => absurd hj (Nat.not_lt_zero _))
  · intro n s hs
    rw [lp_L_draws_31]
    exact zb_t (by rw [zn_le (by omega) (by omega)]; omega) (h s hs)
  · intro n i s hi hs ih
    rw [lp_L_draws_31, zn_in (a := i) (by omega), zn_cl (a := i) (by omega), zn_add i 1]
    refine zb_f (by rw [zn_le (by omega) (by omega)]; omega) ⟨by omega, ?_⟩
    rintro _ rfl _ rfl
    refine ih _ (fun j hj => ?_)
    by_cases e : j = i
    · rw [e, zu_s]
    · rw [zu_n e]; exact hs j (by omega)
theorem sl_draws496 {L : Nat} {xs x : zF} {E : zF → Prop} (hL : L < 2147483648) (h : ∀ x' : zF, (∀ j, j < 26 → ∃ c, c < 6 ∧ x' j = nI c) → (∀ j, 26 ≤ j → x' j = x j) → E x') : ∃ n, lp_L_draws_496 L xs 61 E n (nI 0) x := by
  refine zl_inv (σ := zF) (fun n i s => lp_L_draws_496 L xs 61 E n (nI i) s) (fun i s => (∀ j, j < i → ∃ c, c < 6 ∧ s j = nI c) ∧ ∀ j, 26 ≤ j → s j = x j) 26 ?_ ?_ 0 x (Nat.zero_le _) ⟨fun j hj => absurd hj (Nat.not_lt_zero _), fun j _ => rfl⟩
  · intro n s hs
    rw [lp_L_draws_496]
    exact zb_t (by rw [zn_le (by omega) (by omega)]; omega) (h s hs.1 hs.2)
  · intro n i s hi hs ih
    rw [lp_L_draws_496, zn_mul 3 i, zn_in (a := i) (by omega), zn_cl (a := i) (by omega), zn_add i 1]
    refine zb_f (by rw [zn_le (by omega) (by omega)]; omega) (sl_cell hL (by omega) (fun v => sl_low (by omega) (by omega) (fun a ha => ?_)))
    rintro v6 -
    have put : ∀ c, c < 6 → i < 61 ∧ ∀ z_37 : zF, z_37 = upd s i (nI c) → ∀ v : Int32, v = nI (i + 1) → lp_L_draws_496 L xs 61 E n v z_37 := by
      intro c hc
      refine ⟨by omega, ?_⟩
      rintro _ rfl _ rfl
      refine ih _ ⟨fun j hj => ?_, fun j hj => ?_⟩
      · by_cases e : j = i
        · exact ⟨c, hc, by rw [e, zu_s]⟩
        · rw [zu_n e]; exact hs.1 j (by omega)
      · rw [zu_n (by omega)]; exact hs.2 j hj
    exact sl_low (by omega) (by omega) (fun b hb => ⟨fun _ => sl_low (by omega) (by omega) (fun c hc => put c hc), fun _ => sl_low (by omega) (by omega) (fun c hc => put c (by omega))⟩)
theorem sl_draws592 {L m : Nat} {xs x : zF} {E : zF → Prop} (hL : L < 2147483648) (hm : m ≤ 30) (h30 : x 30 = nI m) (h : ∀ x' : zF, (∀ j, j < 31 → x' j = x j) → (∀ j, j < m → ∃ c, c < 26 ∧ x' (31 + j) = nI c) → E x') : ∃ n, lp_L_draws_592 L xs 61 E n (nI 0) x := by
  refine zl_inv (σ := zF) (fun n i s => lp_L_draws_592 L xs 61 E n (nI i) s) (fun i s => (∀ j, j < 31 → s j = x j) ∧ ∀ j, j < i → ∃ c, c < 26 ∧ s (31 + j) = nI c) m ?_ ?_ 0 x (Nat.zero_le _) ⟨fun j _ => rfl, fun j hj => absurd hj (Nat.not_lt_zero _)⟩
  · intro n s hs
    rw [lp_L_draws_592, zn_in (a := 30) (by omega), zn_cl (a := 30) (by omega), hs.1 30 (by omega), h30]
    exact ⟨by omega, zb_t (by rw [zn_le (by omega) (by omega)]; omega) (h s hs.1 hs.2)⟩
  · intro n i s hi hs ih
    rw [lp_L_draws_592, zn_in (a := 30) (by omega), zn_cl (a := 30) (by omega), hs.1 30 (by omega), h30, zn_div (a := i) (d := 6) (by omega) (by omega) (by omega), zn_add 8 (i / 6), zn_add 31 i, zn_in (a := 31 + i) (by omega), zn_cl (a := 31 + i) (by omega), zn_add i 1]
    refine ⟨by omega, zb_f (by rw [zn_le (by omega) (by omega)]; omega) (sl_cell hL (by omega) (fun v => sl_low (by omega) (by omega) (fun c hc => ⟨by omega, ?_⟩)))⟩
    rintro _ rfl _ rfl
    refine ih _ ⟨fun j hj => ?_, fun j hj => ?_⟩
    · rw [zu_n (by omega)]; exact hs.1 j hj
    · by_cases e : j = i
      · exact ⟨c, hc, by rw [e, zu_s]⟩
      · rw [zu_n (by omega)]; exact hs.2 j (by omega)
/-- the rules drawn so far, in the set, the signs -/
def lG (NT r : Nat) (rw : Nat → Nat → Nat) (ln : Nat → Nat) (x y : zF) : Prop := x 0 = nI NT ∧ x 1 = nI (z_nP (zqs rw ln r)) ∧ lQ (zqs rw ln r) x ∧ (∀ p, z_nP (zqs rw ln r) ≤ p → p < 10 → x (14 + p) = nI 0) ∧ (∀ s, s < r → z_vr (rw s) 0 (ln s) ∧ x (34 + s) = nI (ln s) ∧ ∀ i, i < ln s → y (16 * s + i) = nI (rw s (0 + i))) ∧ ∀ s, s ≤ r → z_nP (zqs rw ln s) ≤ 3 * s
theorem sl_draws63 {L NT : Nat} {xs : zF} {q4 : Int32} {E : zF → zF → zF → Prop} (hL : L < 2147483648) (hNT : NT ≤ 3)
    (h : ∀ (rw : Nat → Nat → Nat) (ln : Nat → Nat) (x y z : zF), lG NT NT rw ln x y → (∀ s, s < 4 → ∃ k, k < 4 ∧ z (26 + s) = nI k) → E x y z) : ∀ (j r : Nat), r + j = NT → ∀ (rw : Nat → Nat → Nat) (ln : Nat → Nat) (x y z : zF), lG NT r rw ln x y → (∀ s, s < 4 → ∃ k, k < 4 ∧ z (26 + s) = nI k) → lp_L_draws_63 L xs 38 64 61 q4 E (j + 1) (nI r) x y z := by
  intro j
  induction j with
  | zero =>
    intro r hr rw ln x y z hG hz
    have e : r = NT := by omega
    subst e
    rw [lp_L_draws_63, zn_in (a := 0) (by omega), zn_cl (a := 0) (by omega), hG.1]
    exact ⟨by omega, zb_t (by rw [zn_le (by omega) (by omega)]; omega) (h rw ln x y z hG hz)⟩
  | succ j ih =>
    intro r hr rw ln x y z hG hz
    obtain ⟨g0, g1, g2, g3, g4, g5⟩ := hG
    have g5r := g5 r (Nat.le_refl _)
    have hnR := zqs_nR rw ln r
    rw [lp_L_draws_63, zn_in (a := 0) (by omega), zn_cl (a := 0) (by omega), g0, zn_mul 2 r, zn_add 1 (2 * r), zn_add 2 (2 * r)]
    refine ⟨by omega, zb_f (by rw [zn_le (by omega) (by omega)]; omega) (sl_cell hL (by omega) (fun q6 => sl_cell hL (by omega) (fun q7 => ?_)))⟩
    intro J119 h119
    have e119 : ∀ a, 1 ≤ a → a ≤ 3 → J119 (nI a) := by
      intro a ha1 ha3
      apply h119
      refine sl_low ha1 (by omega) (fun b hb => ?_)
      rintro _ rfl
      rw [zn_in (a := 1) (by omega), zn_cl (a := 1) (by omega), g1, zn_add 1 b]
      refine ⟨by omega, ?_⟩
      rintro _ rfl
      intro E449 h449
      refine sl_draws141 (A := 1 + b) (base := z_nP (zqs rw ln r)) (by omega) (by omega) (by omega) (by omega) g1 (fun N u x2 y2 w2 hN hP f1 f2 f3 => h449 _ _ _ _ ?_)
      obtain ⟨p1, p2, p3, p4, p5⟩ := hP
      have hv : z_vr u 0 N := ⟨p1, p2, by omega⟩
      rw [zn_add 34 r, zn_in (a := 34 + r) (by omega), zn_cl (a := 34 + r) (by omega)]
      refine ⟨by omega, ?_⟩
      rintro _ rfl
      have fx : ∀ j, j ≠ 1 → j ≠ 34 + r → ¬ (24 + z_nP (zqs rw ln r) ≤ j ∧ j < 24 + (z_nP (zqs rw ln r) + (1 + b))) → upd x2 (34 + r) (nI N) j = x j := fun j j1 j2 j3 => by rw [zu_n j2]; exact f2 j j1 j3
      refine sl_reads (q := zqs rw ln r) (u := u) (N := N) hv (by omega) hnR.symm (by omega) (by rw [zu_n (by omega), f3, p3]) zu_s p4 (fun p p1 p2 => ?_) ⟨fun s hs => ?_, fun p hp => ?_⟩ (fun i hi ha => ?_) (fun x3 k1 k2 k3 k4 k5 => ?_)
      · rw [fx _ (by omega) (by omega) (by omega)]; exact g3 p p1 (by omega)
      · obtain ⟨o1, o2, o3⟩ := g2.1 s hs
        rw [fx _ (by omega) (by omega) (by omega), fx _ (by omega) (by omega) (by omega), fx _ (by omega) (by omega) (by omega)]
        exact ⟨o1, o2, o3⟩
      · obtain ⟨o1, o2⟩ := g2.2 p hp
        rw [fx _ (by omega) (by omega) (by omega), fx _ (by omega) (by omega) (by omega)]
        exact ⟨o1, o2⟩
      · have hm := z_ac_m u 0 (show i ≤ N by omega)
        rw [zu_n (by omega)]; exact p5 i hi ha
      · refine sl_low (by omega) (by omega) (fun kd hkd => ?_)
        rw [zn_add 26 r, zn_in (a := 26 + r) (by omega), zn_cl (a := 26 + r) (by omega)]
        refine ⟨by omega, ?_⟩
        rintro _ rfl _ rfl
        rw [zn_add r 1]
        have cg : ∀ s, s ≤ r → zqs (z_up rw r u) (z_up ln r N) s = zqs rw ln s := fun s hs => zqs_cong s (fun i hi => ⟨zp_n (by omega), zp_n (by omega)⟩)
        have cS : zqs (z_up rw r u) (z_up ln r N) (r + 1) = z_ad (zqs rw ln r) u 0 N := by rw [zqs, cg r (Nat.le_refl _), zp_s, zp_s]
        have cP : z_nP (z_ad (zqs rw ln r) u 0 N) = z_nP (zqs rw ln r) + z_ac u 0 N := rfl
        refine ih (r + 1) (by omega) (z_up rw r u) (z_up ln r N) _ _ _ ⟨?_, ?_, ?_, fun p p1 p2 => ?_, fun s hs => ?_, fun s hs => ?_⟩ (fun s hs => ?_)
        · rw [k2, fx _ (by omega) (by omega) (by omega)]; exact g0
        · rw [k3, zu_n (by omega), f3, cS, cP, p3]
        · rw [cS]; exact k5
        · rw [cS, cP] at p1
          rw [k4 p p1 p2, fx _ (by omega) (by omega) (by omega)]
          exact g3 p (by omega) p2
        · rw [k1 _ (by omega)]
          by_cases e : s = r
          · rw [e, zp_s, zp_s, zu_s]
            exact ⟨hv, rfl, p4⟩
          · obtain ⟨o1, o2, o3⟩ := g4 s (by omega)
            rw [zp_n e, zp_n e, fx _ (by omega) (by omega) (by omega)]
            refine ⟨o1, o2, fun i hi => ?_⟩
            have hl := o1.2.2
            rw [f1 _ (by omega)]
            exact o3 i hi
        · by_cases e : s = r + 1
          · rw [e, cS, cP]; omega
          · rw [cg s (by omega)]; exact g5 s (by omega)
        · by_cases e : s = r
          · exact ⟨kd, hkd, by rw [e, zu_s]⟩
          · rw [zu_n (by omega)]; exact hz s hs
    exact ⟨fun _ => ⟨fun _ => e119 3 (by omega) (by omega), fun _ => e119 2 (by omega) (by omega)⟩, fun _ => e119 1 (by omega) (by omega)⟩
