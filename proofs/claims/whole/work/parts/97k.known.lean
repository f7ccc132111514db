def z_kF (q : zR) (kn : Nat → Nat) (j : Nat) : Bool := z_kt q kn (j / 6) (j % 6)
theorem z_kF_xy (q : zR) (kn : Nat → Nat) (x : Nat) {y : Nat} (hy : y < 6) : z_kF q kn (x * 6 + y) = z_kt q kn x y := by
  unfold z_kF
  rw [show (x * 6 + y) / 6 = x by omega, show (x * 6 + y) % 6 = y by omega]
theorem zk_bool (b : Bool) : vp_nar .boolean (nI b.toNat) = nI b.toNat := by
  cases b with
  | true => exact zn_b1
  | false => exact zn_b0
theorem sx_findKnown {q : zR} {kn : Nat → Nat} {number kno0 : Int32} {nexts begun known0 : zF} {K : Int32 → zF → Prop} (hq : zW q) (hY : xY q kn number nexts begun) (h : ∀ known : zF, (∀ j, j < 36 → known j = nI (z_kF q kn j).toNat) → K (nI (z_ct (z_kF q kn) 36)) known) : wp_X8_findKnown number kno0 nexts begun known0 K := by
  unfold wp_X8_findKnown
  intro E hE
  have key : ∃ n, lp_X8_findKnown_7 number nexts begun E n (nI 0) (nI (z_ct (z_kF q kn) (0 * 6))) known0 := by
    refine zl_inv (σ := zF) (fun n x s => lp_X8_findKnown_7 number nexts begun E n (nI x) (nI (z_ct (z_kF q kn) (x * 6))) s) (fun x s => ∀ j, j < x * 6 → s j = nI (z_kF q kn j).toNat) 6 ?_ ?_ 0 known0 (Nat.zero_le _) (fun j hj => by omega)
    · intro n s hs
      rw [lp_X8_findKnown_7]
      exact zb_t (by rw [zn_le (by omega) (by omega)]; omega) (hE _ _ (h s hs))
    · intro n x s hx hs ih
      rw [lp_X8_findKnown_7]
      refine zb_f (by rw [zn_le (by omega) (by omega)]; omega) ?_
      intro E2 hE2
      refine zl_inv (σ := zF) (fun n y t => lp_X8_findKnown_15 number nexts begun (nI x) E2 n (nI y) (nI (z_ct (z_kF q kn) (x * 6 + y))) t) (fun y t => ∀ j, j < x * 6 + y → t j = nI (z_kF q kn j).toNat) 6 ?_ ?_ 0 s (Nat.zero_le _) hs
      · intro n t ht
        rw [lp_X8_findKnown_15]
        refine zb_t (by rw [zn_le (by omega) (by omega)]; omega) (hE2 _ _ ?_)
        rintro _ rfl
        rw [zn_add]
        have := ih t (fun j hj => ht j (by omega))
        rw [show (x + 1) * 6 = x * 6 + 6 by omega] at this
        exact this
      · intro n y t hy ht ih2
        rw [lp_X8_findKnown_15]
        refine zb_f (by rw [zn_le (by omega) (by omega)]; omega) ?_
        refine sx_leadTogether hq hY hx hy ?_
        rw [zn_mul, zn_add, zn_in (by omega), zn_cl (by omega), zk_bool]
        refine ⟨by omega, ?_⟩
        rintro _ rfl
        refine ⟨by omega, ?_⟩
        rw [zu_s]
        have hk := z_kF_xy q kn x hy
        have up : ∀ j, j < x * 6 + (y + 1) → upd t (x * 6 + y) (nI (z_kt q kn x y).toNat) j = nI (z_kF q kn j).toNat := by
          intro j hj
          by_cases e : j = x * 6 + y
          · rw [e, zu_s, hk]
          · rw [zu_n e]; exact ht j (by omega)
        have h3 := ih2 _ up
        rw [show x * 6 + (y + 1) = (x * 6 + y) + 1 by omega, z_ct_S, hk] at h3
        cases hb : z_kt q kn x y with
        | false =>
          rw [hb] at h3
          refine zb_t rfl ?_
          rintro _ rfl _ rfl
          rw [zn_add, zn_add]
          exact h3
        | true =>
          rw [hb] at h3
          refine zb_f (by decide) ?_
          rintro _ rfl _ rfl
          rw [zn_add, zn_add]
          exact h3
  exact key
theorem sx_isKnown {q : zR} {kn : Nat → Nat} {known : zF} {x y : Nat} {K : Int32 → Prop} (hn : ∀ j, j < 36 → known j = nI (z_kF q kn j).toNat) (hx : x < 6) (hy : y < 6) (h : K (nI (z_kt q kn x y).toNat)) : wp_X8_isKnown known (nI x) (nI y) K := by
  unfold wp_X8_isKnown
  refine sx_isClass_t hx (zb_f zi_1 (sx_isClass_t hy (zb_f zi_1 ?_)))
  rw [zn_mul, zn_add, zn_in (by omega), zn_cl (by omega), hn _ (by omega), z_kF_xy q kn x hy]
  refine ⟨by omega, ?_⟩
  cases hb : z_kt q kn x y with
  | false => rw [hb] at h; exact zb_t rfl h
  | true => rw [hb] at h; exact zb_f (by decide) h
