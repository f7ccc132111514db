theorem sl_lays117 {NT : Nat} {rw' : Nat → Nat → Nat} {ln : Nat → Nat} {d : zD} {y z w : zF} {E : Int32 → zF → Prop} (hG : lG NT NT rw' ln y z) (hNT : NT ≤ 3) (hd : zE d) (hw : lD NT d w) {m0 k0 : Nat} {t0 : Nat → Nat} {tl : Int32} {signs : zF} (hT : zT m0 t0) (hx : xT m0 t0 tl signs) (hm : m0 ≤ 46) (hk : k0 ≤ 5) (hX : zX m0 t0 k0 z_q0)
    (h : ∀ (m : Nat) (t : Nat → Nat) (k : Nat) (tl : Int32) (signs : zF), zT m t → xT m t tl signs → m ≤ 106 → k ≤ 8 → zX m t k (zqs rw' ln NT) → E tl signs) : ∃ n, lp_L_lays_117 38 64 61 y z w E n (nI 0) tl signs := by
  obtain ⟨h0, -, -, -, h4, h5⟩ := hG
  refine zl_inv (σ := Nat × (Nat → Nat) × Nat × Int32 × zF) (fun n r s => lp_L_lays_117 38 64 61 y z w E n (nI r) s.2.2.2.1 s.2.2.2.2) (fun r s => zT s.1 s.2.1 ∧ xT s.1 s.2.1 s.2.2.2.1 s.2.2.2.2 ∧ s.1 ≤ 46 + 20 * r ∧ s.2.2.1 ≤ 5 + r ∧ zX s.1 s.2.1 s.2.2.1 (zqs rw' ln r)) NT ?_ ?_ 0 (m0, t0, k0, tl, signs) (Nat.zero_le _) ⟨hT, hx, hm, hk, hX⟩
  · rintro n ⟨m, t, k, tl, signs⟩ ⟨g1, g2, g3, g4, g5⟩
    replace g3 : m ≤ 46 + 20 * NT := g3
    replace g4 : k ≤ 5 + NT := g4
    show lp_L_lays_117 38 64 61 y z w E (n + 1) (nI NT) tl signs
    rw [lp_L_lays_117, zn_in (a := 0) (by omega), zn_cl (a := 0) (by omega), h0]
    exact ⟨by omega, zb_t (by rw [zn_le (by omega) (by omega)]; omega) (h m t k tl signs g1 g2 (by omega) (by omega) g5)⟩
  · rintro n r ⟨m, t, k, tl, signs⟩ hr ⟨g1, g2, g3, g4, g5⟩ ih
    replace g1 : zT m t := g1
    replace g2 : xT m t tl signs := g2
    replace g3 : m ≤ 46 + 20 * r := g3
    replace g4 : k ≤ 5 + r := g4
    replace g5 : zX m t k (zqs rw' ln r) := g5
    obtain ⟨hv, hl, hs⟩ := h4 r hr
    have hN := hv.2.2
    have hkd := hd.2.1 r (by omega)
    have hnP := h5 (r + 1) (by omega)
    rw [zqs_nP] at hnP
    show lp_L_lays_117 38 64 61 y z w E (n + 1) (nI r) tl signs
    rw [lp_L_lays_117, zn_in (a := 0) (by omega), zn_cl (a := 0) (by omega), h0, zn_add 26 r, zn_in (a := 26 + r) (by omega), zn_cl (a := 26 + r) (by omega), hw.2.1 r hr, zn_add 48, zn_add r 1]
    refine ⟨by omega, zb_f (by rw [zn_le (by omega) (by omega)]; omega) (sx_write g1 g2 (by omega) (by omega) (by omega) (fun tl1 s1 b1 b2 => ⟨by omega, sx_write b1 b2 (by omega) (by omega) (by omega) (fun tl2 s2 d1 d2 => sx_write d1 d2 (by omega) (by omega) (by omega) (fun tl3 s3 k1 k2 => ?_))⟩))⟩
    intro E194 h194
    refine sl_lays160 (u := rw' r) (by omega) hN hl hs (fun i hi => (hv.1 i hi).1) (by omega) k1 k2 (fun t4 tl4 s4 a1 a2 a3 a4 => h194 _ _ ?_)
    refine sx_write a1 a2 (by omega) (by omega) (by omega) (fun tl5 s5 c1 c2 => ?_)
    rintro _ rfl
    have e0 : t4 m = 114 := by rw [a3 m (by omega), zp_n (by omega), zp_n (by omega), zp_s]
    have e1 : t4 (m + 1) = 48 + z_knd d r := by rw [a3 (m + 1) (by omega), zp_n (by omega), zp_s]
    have e2 : t4 (m + 2) = 44 := by rw [a3 (m + 2) (by omega)]; exact zp_s
    have e3 : ∀ i, i < m → t4 i = t i := fun i hi => by rw [a3 i (by omega), zp_n (by omega), zp_n (by omega), zp_n (by omega)]
    refine ih (m + 1 + 1 + 1 + ln r + 1, z_up t4 (m + 1 + 1 + 1 + ln r) 59, k + 1, tl5, s5) ⟨c1, c2, ?_, ?_, ?_⟩
    · show m + 1 + 1 + 1 + ln r + 1 ≤ 46 + 20 * (r + 1)
      omega
    · show k + 1 ≤ 5 + (r + 1)
      omega
    · show zX (m + 1 + 1 + 1 + ln r + 1) (z_up t4 (m + 1 + 1 + 1 + ln r) 59) (k + 1) (zqs rw' ln (r + 1))
      have ag : ∀ t' : Nat → Nat, (∀ i, i < m + 1 + 1 + 1 + ln r + 1 → t' i = z_up t4 (m + 1 + 1 + 1 + ln r) 59 i) → ∀ i, i < m + 1 + 1 + 1 + ln r → t' i = t4 i := fun t' ht i hi => by rw [ht i (by omega), zp_n (by omega)]
      have row : ∀ t' : Nat → Nat, (∀ i, i < m + 1 + 1 + 1 + ln r + 1 → t' i = z_up t4 (m + 1 + 1 + 1 + ln r) 59 i) → ∀ i, i < ln r → t' (m + 3 + i) = rw' r (0 + i) := fun t' ht i hi => by
        rw [ag t' ht _ (by omega)]
        have := a4 i hi
        rw [← this]
      have eN : m + 1 + 1 + 1 + ln r - (m + 3) = ln r := by omega
      refine g5.step (e := m + 1 + 1 + 1 + ln r) (by omega) (fun i hi => by rw [zp_n (by omega)]; exact e3 i hi) (fun t' ht m' hm' => ⟨hm', ?_, Or.inr (Or.inl ⟨?_, ?_⟩)⟩) (fun t' ht D => ?_)
      · rw [ht _ (by omega), zp_s]
      · rw [ag t' ht m (by omega)]; exact e0
      · refine ⟨by omega, ?_, ?_, ?_, ?_, ?_, ?_⟩
        · rw [ag t' ht _ (by omega), e1]; omega
        · rw [ag t' ht _ (by omega), e1]; omega
        · rw [ag t' ht _ (by omega), e2]
        · rw [eN]; exact z_vr_cong (row t' ht) hv
        · rw [zqs_nR]; omega
        · rw [eN, z_ac_cong (row t' ht) (ln r) (Nat.le_refl _)]; omega
      · rw [z_tl_r (by rw [ag t' ht m (by omega)]; exact e0), eN]
        exact z_ad_cong _ (row t' ht)
theorem sl_lays {NT : Nat} {rw' : Nat → Nat → Nat} {ln : Nat → Nat} {d : zD} {kI tl rs ps0 nu pn ph l an fi lo pl pb fo : Int32} {signs P F Wh T B pf pla pw c k f on ta ps y z w : zF} {K : Int32 → Int32 → Int32 → Int32 → Int32 → zF → Int32 → Int32 → zF → zF → zF → zF → zF → Int32 → zF → zF → zF → Int32 → zF → zF → zF → Int32 → Int32 → Int32 → zF → zF → Int32 → Int32 → zF → Int32 → Prop} (hG : lG NT NT rw' ln y z) (hN1 : 1 ≤ NT) (hNT : NT ≤ 3) (hd : zE d) (hw : lD NT d w)
    (h : ∀ (D : zD) (tl' rs' ps0' nu' pn' ph' l' fi' lo' pl' pb' fo' : Int32) (signs' P' F' Wh' T' B' pf' pla' pw' c' k' f' on' ta' ps' : zF), zW (zqs rw' ln NT) → zE D → xR (zqs rw' ln NT) nu' pn' P' F' Wh' T' B' → xD D l' c' k' f' → xS (zqs rw' ln NT) (z_knd D) fi' lo' on' ta' → xP (zqs rw' ln NT) D pl' pb' ps' → K (nI NT) (nI 0) tl' rs' ps0' signs' nu' pn' P' F' Wh' T' B' ph' pf' pla' pw' l' c' k' f' (nI 0) fi' lo' on' ta' pl' pb' ps' fo') : wp_L_lays 38 64 61 kI tl rs ps0 signs nu pn P F Wh T B ph pf pla pw l c k f an fi lo on ta pl pb ps fo y z w K := by
  unfold wp_L_lays
  refine sx_wipe (t := fun _ => 0) (signs := signs) (fun hx0 => ?_)
  intro E114 h114
  refine sl_lays9 (cl := z_cls d) hw.1 hd.1 (t0 := fun _ => 0) ⟨Nat.zero_le _, fun i hi => absurd hi (Nat.not_lt_zero _)⟩ hx0 (fun m1 t1 k1 tl1 s1 a1 a2 a3 a4 a5 => h114 _ _ ?_)
  intro E208 h208
  refine sl_lays117 hG hNT hd hw a1 a2 a3 a4 a5 (fun m2 t2 k2 tl2 s2 b1 b2 b3 b4 b5 => h208 _ _ ?_)
  refine sx_write b1 b2 (by omega) (by omega) (by omega) (fun tl3 s3 c1 c2 => ?_)
  intro E250 h250
  refine sl_lays219 hd hw (by omega) c1 c2 (fun t4 tl4 s4 d1 d2 d3 d4 => h250 _ _ ?_)
  have hl : z_len d ≤ 30 := hd.2.2.1
  refine sx_write d1 d2 (by omega) (by omega) (by omega) (fun tl5 s5 e1 e2 => ?_)
  have ag : ∀ t' : Nat → Nat, (∀ i, i < m2 + 1 + z_len d + 1 → t' i = z_up t4 (m2 + 1 + z_len d) 59 i) → ∀ i, i < m2 + 1 + z_len d → t' i = t4 i := fun t' ht i hi => by rw [ht i (by omega), zp_n (by omega)]
  have f0 : t4 m2 = 115 := by rw [d3 m2 (by omega), zp_s]
  have hX : zX (m2 + 1 + z_len d + 1) (z_up t4 (m2 + 1 + z_len d) 59) (k2 + 1) (zqs rw' ln NT) := by
    refine b5.step (e := m2 + 1 + z_len d) (by omega) (fun i hi => by rw [zp_n (by omega), d3 i (by omega), zp_n (by omega)]) (fun t' ht m' hm' => ⟨hm', ?_, Or.inr (Or.inr ⟨?_, ?_⟩)⟩) (fun t' ht D => ?_)
    · rw [ht _ (by omega), zp_s]
    · rw [ag t' ht m2 (by omega)]; exact f0
    · refine ⟨by omega, fun j j1 j2 => ?_, by omega⟩
      have := d4 (j - (m2 + 1)) (by omega)
      rw [show m2 + 1 + (j - (m2 + 1)) = j by omega] at this
      unfold z_lt at this ⊢
      rw [ag t' ht j (by omega)]
      exact this
    · rw [z_tl_s (by rw [ag t' ht m2 (by omega)]; exact f0)]
  obtain ⟨q1, q2⟩ := hX.fin (by omega)
  obtain ⟨-, hE, -⟩ := z_sq_W (m2 + 1 + z_len d + 1) (z_up t4 (m2 + 1 + z_len d) 59) 200
  have hE : zE (z_sF (m2 + 1 + z_len d + 1) (z_up t4 (m2 + 1 + z_len d) 59)).2.2 := hE
  have hW0 : zW0 (zqs rw' ln NT) := zqs_W rw' ln NT (by omega) (fun r hr => (hG.2.2.2.2.1 r hr).1) (fun r hr => by have := hG.2.2.2.2.2 r hr; omega)
  have hR := zqs_nR rw' ln NT
  have hW : zW (zqs rw' ln NT) := hW0.w (by omega)
  refine sx_lay e1 e2 q1 (by rw [q2]; omega) (fun rs' ps0' nu' pn' ph' l' fi' lo' pl' pb' fo' P' F' Wh' T' B' pf' pla' pw' c' k' f' on' ta' ps' x1 x2 x3 x4 => ?_)
  rw [q2] at x1 x3 x4 ⊢
  rw [hR]
  exact h _ _ _ _ _ _ _ _ _ _ _ _ _ _ _ _ _ _ _ _ _ _ _ _ _ _ _ _ hW hE x1 x2 x3 x4
