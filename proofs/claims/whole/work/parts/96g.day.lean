def z_run (B : Nat → Bool) : Nat → Nat
  | 0 => 0
  | n + 1 => if B n then 1 else z_run B n + 1
def z_mx (B : Nat → Bool) : Nat → Nat
  | 0 => 0
  | n + 1 => if z_mx B n < z_run B (n + 1) then z_run B (n + 1) else z_mx B n
theorem z_run_S (B : Nat → Bool) (n : Nat) : z_run B (n + 1) = if B n then 1 else z_run B n + 1 := rfl
theorem z_mx_S (B : Nat → Bool) (n : Nat) : z_mx B (n + 1) = if z_mx B n < z_run B (n + 1) then z_run B (n + 1) else z_mx B n := rfl
theorem z_run_le (B : Nat → Bool) : ∀ n, z_run B n ≤ n
  | 0 => Nat.le_refl _
  | n + 1 => by have := z_run_le B n; rw [z_run_S]; split <;> omega
theorem z_mx_le (B : Nat → Bool) : ∀ n, z_mx B n ≤ n
  | 0 => Nat.le_refl _
  | n + 1 => by have := z_mx_le B n; have := z_run_le B (n + 1); rw [z_mx_S]; split <;> omega
theorem z_run_gap {B : Nat → Bool} {a : Nat} (ha : B a = true) : ∀ m, (∀ j, a < j → j < a + 1 + m → B j = false) → z_run B (a + 1 + m) = m + 1
  | 0, _ => by rw [Nat.add_zero, z_run_S, if_pos ha]
  | m + 1, h => by
    have ih := z_run_gap ha m (fun j h1 h2 => h j h1 (by omega))
    rw [show a + 1 + (m + 1) = (a + 1 + m) + 1 by omega, z_run_S, if_neg (by rw [h (a + 1 + m) (by omega) (by omega)]; decide), ih]
theorem z_mx_gap {B : Nat → Bool} {a : Nat} (ha : B a = true) : ∀ m, (∀ j, a < j → j < a + 1 + m → B j = false) → z_mx B (a + 1 + m) = if z_mx B a < m + 1 then m + 1 else z_mx B a
  | 0, h => by
    have h1 := z_run_gap ha 0 h
    rw [Nat.add_zero] at h1 ⊢
    rw [z_mx_S, h1]
  | m + 1, h => by
    have ih := z_mx_gap ha m (fun j h1 h2 => h j h1 (by omega))
    have h1 := z_run_gap ha (m + 1) h
    rw [show a + 1 + (m + 1) = (a + 1 + m) + 1 by omega] at h1 ⊢
    rw [z_mx_S, h1, ih]
    by_cases e : z_mx B a < m + 1
    · rw [if_pos e, if_pos (show m + 1 < m + 1 + 1 by omega), if_pos (show z_mx B a < m + 1 + 1 by omega)]
    · rw [if_neg e]
theorem z_mx_nx {B : Nat → Bool} {a k : Nat} (ha : B a = true) (h : a < k) (h4 : ∀ j, a < j → j < k → B j = false) : z_mx B k = if z_mx B a < k - a then k - a else z_mx B a := by
  obtain ⟨m, rfl⟩ : ∃ m, k = a + 1 + m := ⟨k - (a + 1), by omega⟩
  rw [z_mx_gap ha m h4, show a + 1 + m - a = m + 1 by omega]
theorem sx_longest {q : zR} {d : zD} {kn : Nat → Nat} {wo : Nat} {K : Int32 → Prop} (hd : zE d) (h : K (nI (z_mx (z_bd q d kn wo) (z_len d)))) : wp_X3_longest (nI (z_len d)) (nI (z_bds q d kn wo)) K := by
  have hl : z_len d ≤ 30 := hd.2.2.1
  have b0 := z_bd_0 q d kn wo
  have bn := z_bd_n q d kn wo
  have hN := z_ct_le (z_bd q d kn wo) (z_len d)
  unfold wp_X3_longest
  intro E hE
  refine zl_inv (σ := Nat) (fun n i x => lp_X3_longest_6 (nI (z_len d)) (nI (z_bds q d kn wo)) E n (nI (z_mx (z_bd q d kn wo) x)) (nI x) (nI i)) (fun i x => x ≤ z_len d ∧ z_bd q d kn wo x = true ∧ z_ct (z_bd q d kn wo) x = i) (z_ct (z_bd q d kn wo) (z_len d)) ?_ ?_ 0 0 (Nat.zero_le _) ⟨by omega, b0, rfl⟩
  · rintro n x ⟨h1, h2, h3⟩
    rw [lp_X3_longest_6]
    refine sx_number hd (zb_t (by rw [zn_le (by omega) (by omega)]; omega) ?_)
    have e : x = z_len d := z_ct_inj h2 bn h3
    rw [e]
    exact hE _ h
  · rintro n i x hi ⟨h1, h2, h3⟩ ih
    rw [lp_X3_longest_6]
    refine sx_number hd (zb_f (by rw [zn_le (by omega) (by omega)]; omega) ?_)
    have hx : x < z_len d := by
      apply Classical.byContradiction
      intro hn
      have e : x = z_len d := by omega
      rw [e] at h3
      omega
    obtain ⟨y, h4, h5, h6, h7⟩ := z_nx' (z_bd q d kn wo) bn hx
    refine sx_behindT hd h4 h5 h6 h7 ?_
    have hm := z_mx_nx h2 h4 h7
    have hmx := z_mx_le (z_bd q d kn wo) x
    rw [zn_sub (by omega)]
    rintro _ rfl
    rintro _ rfl
    rw [zn_add]
    have := ih y ⟨h5, h6, by rw [z_ct_gap h2 h4 h7, h3]⟩
    rw [hm] at this
    by_cases e : z_mx (z_bd q d kn wo) x < y - x
    · rw [if_pos e] at this
      rw [if_pos (by rw [zn_lt (by omega) (by omega)]; exact e)]
      exact this
    · rw [if_neg e] at this
      rw [if_neg (by rw [zn_lt (by omega) (by omega)]; exact e)]
      exact this
theorem sp_longest {q : zR} {d : zD} {kn : Nat → Nat} {wo : Nat} {s pt : zF} {E : Int32 → Prop} (hd : zE d) (hlen : s 701 = nI (z_len d)) (hw : ∀ k, k ≤ z_len d → pt k = nI (z_bd q d kn wo k).toNat) (h : E (nI (z_mx (z_bd q d kn wo) (z_len d)))) : ∃ n, lp_X10_day_227 s pt E n (nI 0) (nI 0) (nI 0) := by
  have hl : z_len d ≤ 30 := hd.2.2.1
  refine zl_cnt (fun n i => lp_X10_day_227 s pt E n (nI (z_mx (z_bd q d kn wo) i)) (nI (z_run (z_bd q d kn wo) i)) (nI i)) (z_len d) ?_ ?_ 0 (Nat.zero_le _)
  · intro n
    rw [lp_X10_day_227, zn_in (by omega), zn_cl (by omega), hlen]
    exact ⟨by omega, zb_t (by rw [zn_le (by omega) (by omega)]; omega) h⟩
  · intro n i hi ih
    have h1 := z_run_le (z_bd q d kn wo) i
    have h2 := z_mx_le (z_bd q d kn wo) i
    have h3 := z_run_le (z_bd q d kn wo) (i + 1)
    rw [lp_X10_day_227, zn_in (by omega), zn_cl (by omega), hlen, zn_in (by omega), zn_cl (by omega)]
    refine ⟨by omega, zb_f (by rw [zn_le (by omega) (by omega)]; omega) ⟨by omega, ?_⟩⟩
    intro J hJ
    have fin : J (nI (z_run (z_bd q d kn wo) (i + 1))) := by
      apply hJ
      unfold wp_X10_larger
      rw [zn_le (by omega) (by omega)]
      rw [z_mx_S] at ih
      refine ⟨fun e => ?_, fun e => ?_⟩
      · rintro _ rfl
        rw [zn_add]
        rw [if_neg (by omega)] at ih
        exact ih
      · rintro _ rfl
        rw [zn_add]
        rw [if_pos (by omega)] at ih
        exact ih
    rw [z_run_S] at fin
    refine zp_bt (B := z_bd q d kn wo) (hw i (by omega)) (fun e => ?_) (fun e => ?_)
    · rw [if_pos e] at fin; exact fin
    · rw [if_neg (by rw [e]; decide)] at fin
      rw [zn_add]; exact fin
theorem zO_day {q : zR} {n0 kn0 : Nat} {hs kp : Nat → zD} {d : zD} {l fi lo xl tl tb rules places without : Int32} {c k f on ta xc xk xf ts rule takes behind s st pt : zF} (hq : zW q) (hd : zE d) (hD : xD d l c k f) (hS : xS q (z_knd d) fi lo on ta) (hM : mR q rules places rule takes behind) (hm : mD s 0 d) (hwo : without = nI 0) (p1 p2 p3 : Int32) :
    ∃ r : Int32, (∀ K : Int32 → Int32 → zF → zF → zF → Int32 → Int32 → zF → Prop, (∀ xl' xc' xk' xf' tl' tb' ts', K r xl' xc' xk' xf' tl' tb' ts') → wp_X9_day l c k f fi lo on ta xl xc xk xf tl tb ts p1 p2 p3 K) ∧ ∀ K : Int32 → zF → zF → zF → Prop, (∀ s' st' pt', (∀ j, j < 671 → s' j = s j) → K r s' st' pt') → wp_X10_day rules places without rule takes behind s st pt p1 p2 p3 K := by
  have hl : z_len d ≤ 30 := hd.2.2.1
  rcases zc_at p1 10000 with ⟨z, hz, -, rfl⟩ | ho
  · by_cases h2 : ∃ N, 1 ≤ N ∧ N ≤ 40 ∧ p2 = nI N
    · obtain ⟨N, hN1, hN, rfl⟩ := h2
      rcases zc_at p3 3 with ⟨w, hw, -, rfl⟩ | ho3
      · have hE := z_gbs_E hd z N
        have hk := z_gbs_knd d z N
        have hlN : z_len (z_gbs d z N) ≤ 30 := hE.2.2.1
        have hct := z_ct_le (z_bd q (z_gbs d z N) (z_knd d) 0) (z_len (z_gbs d z N))
        have hX : ∀ (r : Int32) (K : Int32 → Int32 → zF → zF → zF → Int32 → Int32 → zF → Prop), (w = 0 → nI (z_len (z_gbs d z N)) = r) → (w = 1 → nI (z_ct (z_bd q (z_gbs d z N) (z_knd d) 0) (z_len (z_gbs d z N))) = r) → (w = 2 → nI (z_mx (z_bd q (z_gbs d z N) (z_knd d) 0) (z_len (z_gbs d z N))) = r) → (∀ xl' xc' xk' xf' tl' tb' ts', K r xl' xc' xk' xf' tl' tb' ts') → wp_X9_day l c k f fi lo on ta xl xc xk xf tl tb ts (nI z) (nI N) (nI w) K := by
          intro r K e0 e1 e2 h
          unfold wp_X9_day
          refine zt_ltr (by omega) (by omega) (zb_f (by rw [zn_lt (by omega) (by omega)]; omega) (zb_f (by rw [zn_lt (by omega) (by omega)]; omega) (zt_ler (by omega) (by omega) ?_)))
          refine sx_become hd hD (fun l' c' k' f' hD' => ?_)
          intro E hEE
          refine zl_inv (σ := Int32 × zF × zF) (fun n i x => lp_X9_day_47 (nI z) (nI N) E n (nI i) x.1 x.2.1 x.2.2) (fun i x => xD (z_gbs d z i) x.1 x.2.1 k' x.2.2) N ?_ ?_ 0 (l', c', f') (Nat.zero_le _) hD'
          · rintro n ⟨x1, x2, x3⟩ hx
            have hx' : xD (z_gbs d z N) x1 x2 k' x3 := hx
            show lp_X9_day_47 _ _ _ _ _ _ _ _
            rw [lp_X9_day_47]
            refine zb_t (by rw [zn_le (by omega) (by omega)]; omega) (hEE _ _ _ ?_)
            refine sx_read (wo := 0) (m := 0) hq hE hd.2.1 hx' hS (by omega) (fun x _ => zx_bgn0 q x) (fun st' _ => ?_)
            rw [zn_eq (by omega) (by omega), zn_eq (by omega) (by omega)]
            refine ⟨fun e => ?_, fun n0 => ⟨fun e => sx_number hE (by rw [e1 e]; exact h _ _ _ _ _ _ _), fun n1 => sx_longest hE (by rw [e2 (by omega)]; exact h _ _ _ _ _ _ _)⟩⟩
            have e3 : x1 = r := by rw [← e0 e]; exact hx'.1
            show K x1 _ _ _ _ _ _ _
            rw [e3]
            exact h _ _ _ _ _ _ _
          · rintro n i ⟨x1, x2, x3⟩ hi hx ih
            have hx' : xD (z_gbs d z i) x1 x2 k' x3 := hx
            show lp_X9_day_47 _ _ _ _ _ _ _ _
            rw [lp_X9_day_47]
            refine zb_f (by rw [zn_le (by omega) (by omega)]; omega) ?_
            unfold wp_X9_draw
            rintro _ rfl
            rw [z_draw (by omega) (by omega)]
            refine sx_goOnBy (z_gbs_E hd z i) (z_dr_lt z i) hx' (fun y1 y2 y3 hy => ?_)
            rintro _ rfl
            rw [zn_add]
            exact ih (y1, y2, y3) hy
        have hY : ∀ (r : Int32) (K : Int32 → zF → zF → zF → Prop), (w = 0 → nI (z_len (z_gbs d z N)) = r) → (w = 1 → nI (z_ct (z_bd q (z_gbs d z N) (z_knd d) 0) (z_len (z_gbs d z N))) = r) → (w = 2 → nI (z_mx (z_bd q (z_gbs d z N) (z_knd d) 0) (z_len (z_gbs d z N))) = r) → (∀ s' st' pt', (∀ j, j < 671 → s' j = s j) → K r s' st' pt') → wp_X10_day rules places without rule takes behind s st pt (nI z) (nI N) (nI w) K := by
          intro r K e0 e1 e2 h
          obtain ⟨rfl, rfl, hr, ht⟩ := hM
          subst hwo
          unfold wp_X10_day
          refine sp_in_t (by omega) (by omega) (zb_f zi_1 (sp_in_lo (by omega) (by omega) (by omega) (fun _ _ => zb_f zi_1 ?_) (fun _ => by omega)))
          refine sp_in_t (by omega) (by omega) (zb_f2 zi_1 ?_)
          refine sp_copies (b := 0) (b' := 671) (by omega) (by omega) (by omega) (fun s1 h1 h2 => ?_)
          intro E hEE
          refine sp_day1 hd (by omega) hN (hm.copy hd h1) (fun s2 h3 h4 => hEE _ ?_)
          have h5 : ∀ j, j < 671 → s2 j = s j := fun j hj => by rw [h4 j hj, h2 j (by omega)]
          refine sp_walks (kn := z_knd d) (b := 671) hq hE hr (fun p hp => (ht p hp).1) (fun p hp => (ht p hp).2) (fun r hr' => by rw [h5 _ (by omega)]; exact hm.z.2.1 r hr') hd.2.1 h3 (by omega) (by omega) (fun st' pt' w1 w2 w3 => ?_)
          have w4 : ∀ k, k ≤ z_len (z_gbs d z N) → pt' k = nI (z_bd q (z_gbs d z N) (z_knd d) 0 k).toNat := by
            intro k hk'
            by_cases e : k = z_len (z_gbs d z N)
            · rw [e, w2, z_bd_n]; rfl
            · exact w1 k (by omega)
          intro E2 hE2
          refine sp_longest hE h3.2.2.1 w4 (hE2 _ ?_)
          rw [zn_eq0 (by omega), zn_eq (by omega) (by omega), zn_in (by omega), zn_cl (by omega), show s2 701 = nI (z_len (z_gbs d z N)) from h3.2.2.1]
          refine ⟨fun n0 => ⟨fun n1 => by rw [e2 (by omega)]; exact h _ _ _ h5, fun e => sp_pieces (b := 671) hE (by omega) h3.2.2.1 w4 (by rw [e1 e]; exact h _ _ _ h5)⟩, fun e => ⟨by omega, by rw [e0 e]; exact h _ _ _ h5⟩⟩
        have hw4 : w = 0 ∨ w = 1 ∨ w = 2 := by omega
        rcases hw4 with rfl | rfl | rfl
        · exact ⟨_, fun K h => hX _ K (fun _ => rfl) (fun e => by omega) (fun e => by omega) h, fun K h => hY _ K (fun _ => rfl) (fun e => by omega) (fun e => by omega) h⟩
        · exact ⟨_, fun K h => hX _ K (fun e => by omega) (fun _ => rfl) (fun e => by omega) h, fun K h => hY _ K (fun e => by omega) (fun _ => rfl) (fun e => by omega) h⟩
        · exact ⟨_, fun K h => hX _ K (fun e => by omega) (fun e => by omega) (fun _ => rfl) h, fun K h => hY _ K (fun e => by omega) (fun e => by omega) (fun _ => rfl) h⟩
      · refine ⟨-1, fun K h => ?_, fun K h => ?_⟩
        · unfold wp_X9_day
          exact zt_ltr (by omega) (by omega) (zb_f (by rw [zn_lt (by omega) (by omega)]; omega) (zb_f (by rw [zn_lt (by omega) (by omega)]; omega) (zg_ler (by omega) ho3 (h _ _ _ _ _ _ _))))
        · unfold wp_X10_day
          exact sp_in_t (by omega) (by omega) (zb_f zi_1 (sp_in_lo (by omega) (by omega) (by omega) (fun _ _ => zb_f zi_1 (sp_in_f (by omega) ho3 (zb_t2 zi_0 (h _ _ _ (fun _ _ => rfl))))) (fun _ => by omega)))
    · refine ⟨-1, fun K h => ?_, fun K h => ?_⟩
      · unfold wp_X9_day
        refine zt_ltr (by omega) (by omega) ?_
        rcases zc_of p2 with hn | ⟨j, hj, rfl⟩
        · refine zb_t ?_ (h _ _ _ _ _ _ _)
          have h1 := Int32.lt_iff_toInt_lt.mp hn
          rw [Int32.lt_iff_toInt_lt]
          have h3 : (0 : Int32).toInt = 0 := by decide
          have h4 : (nI 1).toInt = 1 := by decide
          omega
        · rw [zn_lt hj (by omega), zn_lt (by omega) hj]
          exact ⟨fun _ => h _ _ _ _ _ _ _, fun h1 => zb_t (by apply Classical.byContradiction; intro h3; exact h2 ⟨j, by omega, by omega, rfl⟩) (h _ _ _ _ _ _ _)⟩
      · unfold wp_X10_day
        refine sp_in_t (by omega) (by omega) (zb_f zi_1 ?_)
        rcases zc_of p2 with hn | ⟨j, hj, rfl⟩
        · exact sp_in_neg hn (by omega) (zb_t zi_0 (h _ _ _ (fun _ _ => rfl)))
        · exact sp_in_lo hj (by omega) (by omega) (fun h1 h3 => absurd ⟨j, h1, h3, rfl⟩ h2) (fun _ => zb_t zi_0 (h _ _ _ (fun _ _ => rfl)))
  · refine ⟨-1, fun K h => ?_, fun K h => ?_⟩
    · unfold wp_X9_day; exact zg_ltr (by omega) ho (h _ _ _ _ _ _ _)
    · unfold wp_X10_day; exact sp_in_f (by omega) ho (zb_t zi_0 (h _ _ _ (fun _ _ => rfl)))
