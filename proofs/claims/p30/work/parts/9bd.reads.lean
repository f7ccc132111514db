theorem zk_or1 (a : Bool) : nI a.toNat ||| nI 1 = nI true.toNat := by
  rw [zn_or]
  cases a <;> rfl
theorem sl_reads36 {base many h k c i r n : Nat} {S : zS} {x F L W y : zF} {E : zF → zF → zF → zF → Prop} (hb : base + many ≤ 10) (hh : h ≤ 16) (h1 : x 1 = nI (base + many)) (hr : r < 4) (hi : i < 16) (hy : y (16 * r + i) = nI c) (hc : z_sn c) (hp : z_pt c ≤ h) (hk : z_pt c = 0 → 0 < k ∧ h < 16) (hkm : k ≤ many) (hJ : zJ base many h k S) (hH : lH base many S x F L W)
    (ih : ∀ x' F' L' W' : zF, (∀ j, ¬ (14 + base ≤ j ∧ j < 14 + (base + many)) → x' j = x j) → lH base many (z_sg base c S) x' F' L' W' → lp_L_reads_36 38 64 y (nI r) (nI base) E n (nI (zs_h (z_sg base c S))) (nI (base + zs_k (z_sg base c S))) (nI i - nI 1) x' F' L' W') :
    lp_L_reads_36 38 64 y (nI r) (nI base) E (n + 1) (nI h) (nI (base + k)) (nI i) x F L W := by
  have hs := hJ.1
  have hkS := hJ.2.1
  have hlt := fun i hi => hJ.lt hb (i := i) hi
  have hrg := hJ.2.2.1
  obtain ⟨hA, hB, hB0⟩ := hH
  rw [hkS] at hB hB0
  have two : z_pt c = 2 → ∃ g, h = g + 2 := fun e => ⟨h - 2, by omega⟩
  have one : 1 ≤ z_pt c → ∃ g, h = g + 1 := fun e => ⟨h - 1, by omega⟩
  rw [lp_L_reads_36, zn_mul 16 r, zn_add (16 * r) i, zn_in (a := 16 * r + i) (by omega), zn_cl (a := 16 * r + i) (by omega), hy]
  refine zb_f (nI_pos (by omega)) ⟨by omega, ?_⟩
  rintro _ rfl
  rcases hc with rfl | rfl | rfl | rfl | rfl | hc
  · obtain ⟨g, rfl⟩ := two rfl
    obtain ⟨a1, a2, a3⟩ := hA (g + 1) (by omega)
    obtain ⟨b1, b2, b3⟩ := hA g (by omega)
    have s1 : zs_h S - 1 = g + 1 := by omega
    have s2 : zs_h S - 2 = g := by omega
    intro J66 h66
    have e66 : J66 := by
      apply h66
      rintro _ rfl _ rfl
      rw [show nI (g + 2) - nI 1 = nI (g + 1) from zn_sub1 (g + 1), show nI (g + 2) - nI 2 = nI g from by rw [zn_sub (by omega), Nat.add_sub_cancel]]
      refine zb_t2 rfl ?_
      intro E135 h135
      refine sl_reads88 h1 hb (by omega) (by omega) a2 b1 (hlt _ (by omega)).2 (fun x' k1 k2 => h135 _ ?_)
      rw [zn_in (a := g + 1) (by omega), zn_cl (a := g + 1) (by omega), zn_in (a := g) (by omega), zn_cl (a := g) (by omega), a1, a2, a3, b1, b2, b3]
      refine ⟨by omega, by omega, ?_⟩
      intro J162 h162
      have e162 : J162 (nI (if zs_w S (g + 1) then zs_f S g else 0)) := by
        apply h162
        rintro _ rfl
        refine ⟨by omega, ?_⟩
        rintro _ rfl
        refine ⟨by omega, by omega, ?_⟩
        intro J191 h191
        have e191 : J191 (nI (if zs_w S g then zs_l S (g + 1) else 0)) := by
          apply h191
          rintro _ rfl
          refine ⟨by omega, ?_⟩
          rintro _ rfl
          refine ⟨by omega, by omega, ?_⟩
          rintro _ rfl
          refine ⟨by omega, ?_⟩
          rintro _ rfl _ rfl _ rfl
          rw [zn_or, zn_or, zk_bb, zn_m1 (a := g + 2) (by omega), show g + 2 - 1 = g + 1 by omega, zn_p1 (nI i)]
          have hf := lH_fol (hrg (g + 1) (by omega)).2 k2 hkm hB hB0
          have hh2 := ih x' (upd F g (nI (zs_f S (g + 1) ||| (if zs_w S (g + 1) then zs_f S g else 0)))) (upd L g (nI (zs_l S g ||| (if zs_w S g then zs_l S (g + 1) else 0)))) (upd W g (nI (zs_w S (g + 1) && zs_w S g).toNat)) k1 (by
            rw [z_sg_and, s1, s2]
            refine ⟨fun i hi => ?_, fun p p1 p2 => ?_, fun p p1 p2 => ?_⟩
            · have hi : i < g + 1 := hi
              have q := hA i (by omega)
              exact ⟨zu_up (fun _ => q.1), zu_up (fun _ => q.2.1), zu_upb (fun _ => q.2.2)⟩
            · have p1 : base + zs_k S ≤ p := p1
              exact hf.1 p (by omega) p2
            · have p2 : p < base + zs_k S := p2
              exact hf.2 p p1 (by omega))
          have e3 : zs_h (z_sg base 38 S) = g + 1 := by rw [z_sg_and]; exact s1
          have e4 : zs_k (z_sg base 38 S) = k := by rw [z_sg_and]; exact hkS
          rw [e3, e4] at hh2
          exact hh2
        cases hw : zs_w S g with
        | false => rw [hw, if_neg (by decide)] at e191; exact zb_f2 (by decide) e191
        | true => rw [hw, if_pos rfl] at e191; exact zb_t2 rfl ⟨by omega, e191⟩
      cases hw : zs_w S (g + 1) with
      | false => rw [hw, if_neg (by decide)] at e162; exact zb_f2 (by decide) e162
      | true => rw [hw, if_pos rfl] at e162; exact zb_t2 rfl ⟨by omega, e162⟩
    exact zb_t rfl e66
  · obtain ⟨g, rfl⟩ := two rfl
    obtain ⟨a1, a2, a3⟩ := hA (g + 1) (by omega)
    obtain ⟨b1, b2, b3⟩ := hA g (by omega)
    have s1 : zs_h S - 1 = g + 1 := by omega
    have s2 : zs_h S - 2 = g := by omega
    intro J66 h66
    have e66 : J66 := by
      apply h66
      rintro _ rfl _ rfl
      rw [show nI (g + 2) - nI 1 = nI (g + 1) from zn_sub1 (g + 1), show nI (g + 2) - nI 2 = nI g from by rw [zn_sub (by omega), Nat.add_sub_cancel]]
      refine zb_f2 (by decide) ?_
      rw [zn_in (a := g + 1) (by omega), zn_cl (a := g + 1) (by omega), zn_in (a := g) (by omega), zn_cl (a := g) (by omega), a1, a2, a3, b1, b2, b3]
      refine ⟨by omega, by omega, ?_⟩
      rintro _ rfl
      refine ⟨by omega, ?_⟩
      rintro _ rfl
      refine ⟨by omega, by omega, ?_⟩
      rintro _ rfl
      refine ⟨by omega, ?_⟩
      rintro _ rfl
      refine ⟨by omega, by omega, ?_⟩
      rintro _ rfl
      refine ⟨by omega, ?_⟩
      rintro _ rfl _ rfl _ rfl
      rw [zn_or (zs_f S g), zn_or (zs_l S g), zn_m1 (a := g + 2) (by omega), show g + 2 - 1 = g + 1 by omega, zn_p1 (nI i), show nI (zs_w S g).toNat ||| nI (zs_w S (g + 1)).toNat = nI (zs_w S (g + 1) || zs_w S g).toNat from by rw [zn_or]; cases zs_w S g <;> cases zs_w S (g + 1) <;> rfl]
      have hh2 := ih x (upd F g (nI (zs_f S g ||| zs_f S (g + 1)))) (upd L g (nI (zs_l S g ||| zs_l S (g + 1)))) (upd W g (nI (zs_w S (g + 1) || zs_w S g).toNat)) (fun j _ => rfl) (by
        rw [z_sg_or, s1, s2]
        refine ⟨fun i hi => ?_, fun p p1 p2 => ?_, fun p p1 p2 => ?_⟩
        · have hi : i < g + 1 := hi
          have q := hA i (by omega)
          exact ⟨zu_up (fun _ => q.1), zu_up (fun _ => q.2.1), zu_upb (fun _ => q.2.2)⟩
        · have p1 : base + zs_k S ≤ p := p1
          exact hB p (by omega) p2
        · have p2 : p < base + zs_k S := p2
          exact hB0 p p1 (by omega))
      have e3 : zs_h (z_sg base 124 S) = g + 1 := by rw [z_sg_or]; exact s1
      have e4 : zs_k (z_sg base 124 S) = k := by rw [z_sg_or]; exact hkS
      rw [e3, e4] at hh2
      exact hh2
    exact zb_f (by decide) (zb_t2 rfl e66)
  · obtain ⟨g, rfl⟩ := one (by decide)
    obtain ⟨a1, a2, a3⟩ := hA g (by omega)
    have s1 : zs_h S - 1 = g := by omega
    intro J66 h66
    refine zb_f (by decide) (zb_f2 (by decide) ?_)
    intro J278 h278
    have e278 : J278 := by
      apply h278
      intro E339 h339
      refine sl_reads281 h1 hb (by omega) a2 a1 (hlt _ (by omega)).2 (by omega) (by omega) (fun x' k1 k2 => h339 _ ?_)
      rw [zn_sub1, zn_in (a := g) (by omega), zn_cl (a := g) (by omega), a3]
      refine ⟨by omega, zb_f2 (by decide) ?_⟩
      rintro _ rfl
      refine ⟨by omega, ?_⟩
      rintro _ rfl _ rfl
      rw [zk_or1, zn_p1 (nI i)]
      have hf := lH_fol (hrg g (by omega)).2 k2 hkm hB hB0
      have hh2 := ih x' F L (upd W g (nI true.toNat)) k1 (by
        rw [z_sg_star, s1]
        refine ⟨fun i hi => ?_, fun p p1 p2 => ?_, fun p p1 p2 => ?_⟩
        · have hi : i < zs_h S := hi
          have q := hA i (by omega)
          exact ⟨q.1, q.2.1, zu_upb (fun _ => q.2.2)⟩
        · have p1 : base + zs_k S ≤ p := p1
          exact hf.1 p (by omega) p2
        · have p2 : p < base + zs_k S := p2
          exact hf.2 p p1 (by omega))
      have e3 : zs_h (z_sg base 42 S) = g + 1 := by rw [z_sg_star]; exact hs
      have e4 : zs_k (z_sg base 42 S) = k := by rw [z_sg_star]; exact hkS
      rw [e3, e4] at hh2
      exact hh2
    exact zb_t rfl e278
  · obtain ⟨g, rfl⟩ := one (by decide)
    obtain ⟨a1, a2, a3⟩ := hA g (by omega)
    have s1 : zs_h S - 1 = g := by omega
    intro J66 h66
    refine zb_f (by decide) (zb_f2 (by decide) ?_)
    intro J278 h278
    have e278 : J278 := by
      apply h278
      intro E339 h339
      refine sl_reads281 h1 hb (by omega) a2 a1 (hlt _ (by omega)).2 (by omega) (by omega) (fun x' k1 k2 => h339 _ ?_)
      rw [zn_sub1, zn_in (a := g) (by omega), zn_cl (a := g) (by omega), a3]
      refine ⟨by omega, zb_t2 rfl ?_⟩
      rintro _ rfl
      refine ⟨by omega, ?_⟩
      rintro _ rfl _ rfl
      rw [zn_or0, zn_p1 (nI i)]
      have hf := lH_fol (hrg g (by omega)).2 k2 hkm hB hB0
      have hh2 := ih x' F L (upd W g (nI (zs_w S g).toNat)) k1 (by
        rw [z_sg_plus, s1]
        refine ⟨fun i hi => ?_, fun p p1 p2 => ?_, fun p p1 p2 => ?_⟩
        · have hi : i < zs_h S := hi
          have q := hA i (by omega)
          refine ⟨q.1, q.2.1, ?_⟩
          show upd W g _ i = nI (zs_w S i).toNat
          by_cases e : i = g
          · rw [e, zu_s]
          · rw [zu_n e]; exact q.2.2
        · have p1 : base + zs_k S ≤ p := p1
          exact hf.1 p (by omega) p2
        · have p2 : p < base + zs_k S := p2
          exact hf.2 p p1 (by omega))
      have e3 : zs_h (z_sg base 43 S) = g + 1 := by rw [z_sg_plus]; exact hs
      have e4 : zs_k (z_sg base 43 S) = k := by rw [z_sg_plus]; exact hkS
      rw [e3, e4] at hh2
      exact hh2
    exact zb_f (by decide) (zb_t rfl e278)
  · obtain ⟨g, rfl⟩ := one (by decide)
    obtain ⟨a1, a2, a3⟩ := hA g (by omega)
    have s1 : zs_h S - 1 = g := by omega
    intro J66 h66
    refine zb_f (by decide) (zb_f2 (by decide) ?_)
    intro J278 h278
    have e278 : J278 := by
      apply h278
      intro E339 h339
      refine sl_reads281' h1 (by omega) (by omega) (h339 _ ?_)
      rw [zn_sub1, zn_in (a := g) (by omega), zn_cl (a := g) (by omega), a3]
      refine ⟨by omega, zb_f2 (by decide) ?_⟩
      rintro _ rfl
      refine ⟨by omega, ?_⟩
      rintro _ rfl _ rfl
      rw [zk_or1, zn_p1 (nI i)]
      have hh2 := ih x F L (upd W g (nI true.toNat)) (fun j _ => rfl) (by
        rw [z_sg_may, s1]
        refine ⟨fun i hi => ?_, fun p p1 p2 => ?_, fun p p1 p2 => ?_⟩
        · have hi : i < zs_h S := hi
          have q := hA i (by omega)
          exact ⟨q.1, q.2.1, zu_upb (fun _ => q.2.2)⟩
        · have p1 : base + zs_k S ≤ p := p1
          exact hB p (by omega) p2
        · have p2 : p < base + zs_k S := p2
          exact hB0 p p1 (by omega))
      have e3 : zs_h (z_sg base 63 S) = g + 1 := by rw [z_sg_may]; exact hs
      have e4 : zs_k (z_sg base 63 S) = k := by rw [z_sg_may]; exact hkS
      rw [e3, e4] at hh2
      exact hh2
    exact zb_f (by decide) (zb_f (by decide) (zb_t2 rfl e278))
  · obtain ⟨k0, h16⟩ := hk (z_pt_am hc)
    have hc2 := hc
    unfold z_am at hc2
    intro J66 h66
    rw [zn_eq (by omega) (by omega), zn_eq (by omega) (by omega), zn_eq (by omega) (by omega), zn_eq (by omega) (by omega), zn_eq (by omega) (by omega)]
    refine zb_f (by omega) (zb_f2 (by omega) ?_)
    intro J278 h278
    refine zb_f (by omega) (zb_f (by omega) (zb_f2 (by omega) ?_))
    rintro _ rfl _ rfl
    rw [zn_m1 (a := base + k) (by omega), zn_shl (p := base + k - 1) (by omega), zn_in (a := h) (by omega), zn_cl (a := h) (by omega), zn_add h 1]
    refine ⟨by omega, ?_⟩
    rintro _ rfl _ rfl
    refine ⟨by omega, ?_⟩
    rintro _ rfl
    refine ⟨by omega, ?_⟩
    rintro _ rfl _ rfl _ rfl
    rw [zn_p1 (nI i)]
    have hh2 := ih x (upd F h (nI (2 ^ (base + k - 1)))) (upd L h (nI (2 ^ (base + k - 1)))) (upd W h (nI false.toNat)) (fun j _ => rfl) (by
      rw [z_sg_am hc, hs, hkS, show base + (k - 1) = base + k - 1 by omega]
      refine ⟨fun j hj => ?_, fun p p1 p2 => ?_, fun p p1 p2 => ?_⟩
      · have hj : j < h + 1 := hj
        exact ⟨zu_up (fun e => (hA j (by omega)).1), zu_up (fun e => (hA j (by omega)).2.1), zu_upb (fun e => (hA j (by omega)).2.2)⟩
      · have p1 : base + (k - 1) ≤ p := p1
        show x (14 + p) = nI (z_up (zs_b S) (base + k - 1) 0 p)
        by_cases e : p = base + k - 1
        · rw [e, zp_s]; exact hB0 _ (by omega) (by omega)
        · rw [zp_n e]; exact hB p (by omega) p2
      · have p2 : p < base + (k - 1) := p2
        exact hB0 p p1 (by omega))
    have e3 : zs_h (z_sg base c S) = h + 1 := by rw [z_sg_am hc]; show zs_h S + 1 = _; rw [hs]
    have e4 : zs_k (z_sg base c S) = k - 1 := by rw [z_sg_am hc]; show zs_k S - 1 = _; rw [hkS]
    rw [e3, e4, show base + (k - 1) = base + k - 1 by omega] at hh2
    exact hh2
