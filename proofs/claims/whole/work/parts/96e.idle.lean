def z_aq (f g : Nat → Bool) : Nat → Bool
  | 0 => true
  | n + 1 => z_aq f g n && (f n == g n)
theorem z_aq_S (f g : Nat → Bool) (n : Nat) : z_aq f g (n + 1) = (z_aq f g n && (f n == g n)) := rfl
theorem z_aq_iff {f g : Nat → Bool} : ∀ n, z_aq f g n = true ↔ ∀ k, k < n → f k = g k
  | 0 => ⟨fun _ k hk => absurd hk (Nat.not_lt_zero _), fun _ => rfl⟩
  | n + 1 => by
    rw [z_aq_S, Bool.and_eq_true, z_aq_iff n, beq_iff_eq]
    constructor
    · rintro ⟨h1, h2⟩ k hk
      by_cases e : k = n
      · rw [e]; exact h2
      · exact h1 k (by omega)
    · intro h
      exact ⟨fun k hk => h k (by omega), h n (by omega)⟩
theorem z_bds_inj (q : zR) (d : zD) (kn : Nat → Nat) (a b : Nat) : (z_bds q d kn a = z_bds q d kn b) ↔ z_aq (z_bd q d kn a) (z_bd q d kn b) (z_len d + 1) = true := by
  rw [z_aq_iff]
  constructor
  · intro h k hk
    rw [← z_bds_bit q d kn a (by omega), ← z_bds_bit q d kn b (by omega), h]
  · intro h
    apply zs_ext
    intro j
    unfold z_bds
    rw [zs_mk_bit, zs_mk_bit]
    by_cases hj : j < z_len d + 1
    · rw [h j hj]
    · rw [decide_eq_false hj, Bool.false_and, Bool.false_and]
def z_id (q : zR) (d : zD) (r : Nat) : Bool := z_aq (z_bd q d (z_knd d) (2 ^ r)) (z_bd q d (z_knd d) 0) (z_len d + 1)
theorem zO_idle {q : zR} {d : zD} {nu pn l fi lo pl pb tl0 tb0 rules places without : Int32} {P F Wh T Bh c k f on ta ps ts0 rule takes behind s st pt ot : zF} (hq : zW q) (hd : zE d) (hR : xR q nu pn P F Wh T Bh) (hD : xD d l c k f) (hS : xS q (z_knd d) fi lo on ta) (hP : xP q d pl pb ps) (hM : mR q rules places rule takes behind) (hm : mD s 0 d) (hwo : without = nI 0) :
    ∃ r : Int32, (∀ K : Int32 → Int32 → Int32 → zF → Prop, (∀ tl' tb' ts', K r tl' tb' ts') → wp_X9_idle nu P l c f fi lo on ta pb tl0 tb0 ts0 K) ∧ ∀ K : Int32 → Int32 → zF → zF → zF → Prop, (∀ st' pt' ot', K r (nI 0) st' pt' ot') → wp_X10_idle rules places without rule takes behind s st pt ot K := by
  have hl : z_len d ≤ 30 := hd.2.2.1
  have hn : z_nR q ≤ 4 := hq.2.1
  have hz := hm.z
  refine ⟨nI (zs_mk (z_id q d) (z_nR q)), fun K h => ?_, fun K h => ?_⟩
  · obtain ⟨rfl, rfl, hr, -⟩ := hR
    obtain ⟨rfl, rfl, -⟩ := hP
    unfold wp_X9_idle
    intro E hE
    refine zl_inv (σ := Int32 × Int32 × zF) (fun n i x => lp_X9_idle_4 (nI (z_nR q)) P l c f fi lo on ta (nI (z_bds q d (z_knd d) 0)) E n (nI (zs_mk (z_id q d) i)) (nI i) x.1 x.2.1 x.2.2) (fun _ _ => True) (z_nR q) ?_ ?_ 0 (tl0, tb0, ts0) (Nat.zero_le _) trivial
    · rintro n ⟨x1, x2, x3⟩ _
      show lp_X9_idle_4 _ _ _ _ _ _ _ _ _ _ _ _ _ _ _ _ _
      rw [lp_X9_idle_4]
      exact zb_t (by rw [zn_le (by omega) (by omega)]; omega) (hE _ _ _ _ (h _ _ _))
    · rintro n i ⟨x1, x2, x3⟩ hi _ ih
      show lp_X9_idle_4 _ _ _ _ _ _ _ _ _ _ _ _ _ _ _ _ _
      rw [lp_X9_idle_4]
      refine zb_f (by rw [zn_le (by omega) (by omega)]; omega) ?_
      have hof := hq.bnd (hq.2.2.2.1 i hi).2.2.1
      refine sx_placesOf hn hi (hr i hi).1 ?_
      refine sx_read (wo := 2 ^ i) hq hd hd.2.1 hD hS hof (fun x _ => z_bgn_wo hq hi) (fun st' _ => ?_)
      unfold wp_X3_bounds
      have b1 := z_bds_lt q hd (z_knd d) (2 ^ i)
      have b2 := z_bds_lt q hd (z_knd d) 0
      refine ⟨fun e => ?_, fun e => ?_⟩
      · rw [zn_eq b1 b2] at e
        rintro _ rfl
        rw [zn_add]
        have e2 : z_id q d i = false := by
          cases h2 : z_id q d i with
          | false => rfl
          | true => exact absurd ((z_bds_inj q d (z_knd d) (2 ^ i) 0).mpr h2) e
        have h3 := ih (nI (z_len d), nI (z_bds q d (z_knd d) (2 ^ i)), st') trivial
        rw [zs_mk_f e2, Nat.or_zero] at h3
        exact h3
      · rw [zn_eq b1 b2] at e
        rintro _ rfl _ rfl
        rw [zn_shl (by omega), zn_or, zn_add]
        have e2 : z_id q d i = true := (z_bds_inj q d (z_knd d) (2 ^ i) 0).mp e
        have h3 := ih (nI (z_len d), nI (z_bds q d (z_knd d) (2 ^ i)), st') trivial
        rw [zs_mk_t e2] at h3
        exact h3
  · have hM' := hM
    obtain ⟨rfl, rfl, -⟩ := hM'
    unfold wp_X10_idle
    refine sp_walk0 hq hd hM hm hwo (by omega) (fun st1 pt1 hw1 => ?_)
    intro E hE
    refine zl_inv (σ := zF) (fun n i x => lp_X10_idle_7 s pt1 E n (nI i) x) (fun i x => ∀ k, k < i → x k = nI (z_bd q d (z_knd d) 0 k).toNat) (z_len d + 1) ?_ ?_ 0 ot (Nat.zero_le _) (fun k hk => absurd hk (Nat.not_lt_zero _))
    · intro n x hx
      rw [lp_X10_idle_7, zn_in (by omega), zn_cl (by omega), hz.2.2.1]
      refine ⟨by omega, zb_t (by rw [zn_lt (by omega) (by omega)]; omega) (hE _ ?_)⟩
      intro E2 hE2
      refine zl_inv (σ := Int32 × zF × zF) (fun n i y => lp_X10_idle_48 (nI (z_nR q)) (nI (z_nP q)) rule takes behind s x E2 n (nI (zs_mk (z_id q d) i)) (nI i) y.1 y.2.1 y.2.2) (fun _ _ => True) (z_nR q) ?_ ?_ 0 (without, st1, pt1) (Nat.zero_le _) trivial
      · rintro n ⟨y1, y2, y3⟩ _
        show lp_X10_idle_48 _ _ _ _ _ _ _ _ _ _ _ _ _ _
        rw [lp_X10_idle_48]
        exact zb_t (by rw [zn_le (by omega) (by omega)]; omega) (hE2 _ _ _ _ (h _ _ _))
      · rintro n i ⟨y1, y2, y3⟩ hi _ ih
        show lp_X10_idle_48 _ _ _ _ _ _ _ _ _ _ _ _ _ _
        rw [lp_X10_idle_48]
        refine zb_f (by rw [zn_le (by omega) (by omega)]; omega) ?_
        rintro _ rfl
        have hp2 : 2 ^ i < 2147483648 := by
          have : i = 0 ∨ i = 1 ∨ i = 2 ∨ i = 3 := by omega
          rcases this with rfl | rfl | rfl | rfl <;> decide
        rw [zn_shl (by omega)]
        refine sp_walk0 (wo := 2 ^ i) hq hd hM hm rfl hp2 (fun st2 pt2 hw2 => ?_)
        intro E3 hE3
        have fin : E3 (nI (z_id q d i).toNat) := by
          apply hE3
          cases e2 : z_id q d i with
          | false =>
            refine zb_t rfl ?_
            rintro _ rfl _ rfl
            rw [zn_or, zn_add]
            have h3 := ih (nI (2 ^ i), st2, pt2) trivial
            rw [zs_mk_f e2] at h3
            exact h3
          | true =>
            refine zb_f (by decide) ?_
            rintro _ rfl _ rfl
            rw [zn_or, zn_add]
            have h3 := ih (nI (2 ^ i), st2, pt2) trivial
            rw [zs_mk_t e2] at h3
            exact h3
        refine zl_cnt (fun n j => lp_X10_idle_73 s pt2 x E3 n (nI (z_aq (z_bd q d (z_knd d) (2 ^ i)) (z_bd q d (z_knd d) 0) j).toNat) (nI j)) (z_len d + 1) ?_ ?_ 0 (Nat.zero_le _)
        · intro n
          rw [lp_X10_idle_73, zn_in (by omega), zn_cl (by omega), hz.2.2.1]
          exact ⟨by omega, zb_t (by rw [zn_lt (by omega) (by omega)]; omega) fin⟩
        · intro n j hj ih2
          rw [lp_X10_idle_73, zn_in (by omega), zn_cl (by omega), hz.2.2.1]
          refine ⟨by omega, zb_f (by rw [zn_lt (by omega) (by omega)]; omega) ?_⟩
          rw [z_aq_S] at ih2
          cases e3 : z_aq (z_bd q d (z_knd d) (2 ^ i)) (z_bd q d (z_knd d) 0) j with
          | false =>
            rw [e3] at ih2
            refine zb_t rfl ?_
            rintro _ rfl
            rw [zn_add]
            exact ih2
          | true =>
            rw [e3, Bool.true_and] at ih2
            refine zb_f (by decide) ?_
            rw [zn_in (by omega), zn_cl (by omega), hw2.1 j (by omega), hx j hj]
            refine ⟨by omega, by omega, ?_⟩
            intro J hJ
            have fin2 : ∀ b : Bool, z_bd q d (z_knd d) 0 j = b → J (nI b.toNat) := by
              intro b hb
              apply hJ
              rw [hb] at ih2
              cases ha : z_bd q d (z_knd d) (2 ^ i) j with
              | false =>
                rw [ha] at ih2
                cases b with
                | false =>
                  refine zb_t2 rfl ?_
                  rintro _ rfl
                  rw [zn_add]; exact ih2
                | true =>
                  refine zb_f2 (by decide) ?_
                  rintro _ rfl
                  rw [zn_add]; exact ih2
              | true =>
                rw [ha] at ih2
                cases b with
                | false =>
                  refine zb_f2 (by decide) ?_
                  rintro _ rfl
                  rw [zn_add]; exact ih2
                | true =>
                  refine zb_t2 rfl ?_
                  rintro _ rfl
                  rw [zn_add]; exact ih2
            cases hb : z_bd q d (z_knd d) 0 j with
            | false => exact zb_f2 (by decide) (fin2 false hb)
            | true => exact zb_t2 rfl (fin2 true hb)
    · intro n i x hi hx ih
      rw [lp_X10_idle_7, zn_in (by omega), zn_cl (by omega), hz.2.2.1, zn_in (by omega), zn_cl (by omega)]
      refine ⟨by omega, zb_f (by rw [zn_lt (by omega) (by omega)]; omega) ⟨by omega, ?_⟩⟩
      have up : ∀ b : Bool, z_bd q d (z_knd d) 0 i = b → ∀ k, k < i + 1 → upd x i (nI b.toNat) k = nI (z_bd q d (z_knd d) 0 k).toNat := by
        intro b hb k hk
        by_cases e : k = i
        · subst e; rw [zu_s, hb]
        · rw [zu_n e]; exact hx k (by omega)
      refine zp_bt (B := z_bd q d (z_knd d) 0) (hw1.1 i (by omega)) (fun e => ⟨by omega, ?_⟩) (fun e => ⟨by omega, ?_⟩)
      · rintro _ rfl _ rfl
        rw [zn_add]
        exact ih _ (up true e)
      · rintro _ rfl _ rfl
        rw [zn_add]
        exact ih _ (up false e)
