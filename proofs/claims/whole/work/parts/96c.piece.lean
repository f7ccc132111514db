theorem sp_stepUp {q : zR} {d : zD} {wo a k : Nat} {s st pt : zF} {E : Int32 → Prop} {E2 : Prop} (hd : zE d) (hm : mD s 0 d) (hw : mW q d wo st pt) (h1 : a < k) (h2 : k ≤ z_len d) (h3 : z_bd q d (z_knd d) wo k = true) (h4 : ∀ j, a < j → j < k → z_bd q d (z_knd d) wo j = false) (h : E (nI k)) : ∃ n, lp_X10_boundary_40 s pt (nI 1) E E2 n (nI (a + 1)) := by
  have hl : z_len d ≤ 30 := hd.2.2.1
  have hz := hm.z
  refine zl_from (fun n i => lp_X10_boundary_40 s pt (nI 1) E E2 n (nI i)) (a + 1) k ?_ ?_ (by omega)
  · intro n
    rw [lp_X10_boundary_40, zn_in (by omega), zn_cl (by omega), hz.2.2.1, zn_in (by omega), zn_cl (by omega)]
    refine ⟨by omega, sp_inn_t (by omega) h2 (zb_f zi_1 ⟨by omega, zp_bt (B := z_bd q d (z_knd d) wo) (hw.1 k h2) (fun _ => h) (fun e => ?_)⟩)⟩
    rw [h3] at e; cases e
  · intro n i h5 h6 ih
    rw [lp_X10_boundary_40, zn_in (by omega), zn_cl (by omega), hz.2.2.1, zn_in (by omega), zn_cl (by omega)]
    refine ⟨by omega, sp_inn_t (by omega) (by omega) (zb_f zi_1 ⟨by omega, zp_bt (B := z_bd q d (z_knd d) wo) (hw.1 i (by omega)) (fun e => ?_) (fun _ => ?_)⟩)⟩
    · rw [h4 i (by omega) h6] at e; cases e
    · rintro _ rfl
      rw [zn_add]; exact ih
theorem zi_add_m1 {a : Nat} (h : 0 < a) : nI a + (-1) = nI (a - 1) := zn_m1 h
theorem sp_stepDown {q : zR} {d : zD} {wo a k : Nat} {s st pt : zF} {E : Int32 → Prop} {E2 : Prop} (hd : zE d) (hm : mD s 0 d) (hw : mW q d wo st pt) (ha : a ≤ z_len d) (h1 : k < a) (h3 : z_bd q d (z_knd d) wo k = true) (h4 : ∀ j, k < j → j < a → z_bd q d (z_knd d) wo j = false) (h : E (nI k)) : ∃ n, lp_X10_boundary_40 s pt (-1) E E2 n (nI (a - 1)) := by
  have hl : z_len d ≤ 30 := hd.2.2.1
  have hz := hm.z
  have key : ∃ n, lp_X10_boundary_40 s pt (-1) E E2 n (nI (k + (a - 1 - k))) := by
    refine zl_down (σ := Unit) (fun n i _ => lp_X10_boundary_40 s pt (-1) E E2 n (nI (k + i))) (fun i _ => k + i < a) ?_ ?_ (a - 1 - k) () (by omega)
    · intro n _ h5
      rw [lp_X10_boundary_40, zn_in (by omega), zn_cl (by omega), hz.2.2.1, zn_in (by omega), zn_cl (by omega)]
      refine ⟨by omega, sp_inn_t (by omega) (by omega) (zb_f zi_1 ⟨by omega, zp_bt (B := z_bd q d (z_knd d) wo) (hw.1 _ (by omega)) (fun _ => h) (fun e => ?_)⟩)⟩
      rw [Nat.add_zero, h3] at e; cases e
    · intro n i _ h5 ih
      rw [lp_X10_boundary_40, zn_in (by omega), zn_cl (by omega), hz.2.2.1, zn_in (by omega), zn_cl (by omega)]
      refine ⟨by omega, sp_inn_t (by omega) (by omega) (zb_f zi_1 ⟨by omega, zp_bt (B := z_bd q d (z_knd d) wo) (hw.1 _ (by omega)) (fun e => ?_) (fun _ => ?_)⟩)⟩
      · rw [h4 _ (by omega) h5] at e; cases e
      · rintro _ rfl
        rw [zn_m1 (by omega), show k + (i + 1) - 1 = k + i by omega]
        exact ih () (by omega)
  rw [show k + (a - 1 - k) = a - 1 by omega] at key
  exact key
theorem zO_boundary {q : zR} {d : zD} {l pl pb rules places without : Int32} {c k f ps rule takes behind s st pt : zF} (hq : zW q) (hd : zE d) (hD : xD d l c k f) (hP : xP q d pl pb ps) (hM : mR q rules places rule takes behind) (hm : mD s 0 d) (hwo : without = nI 0) (p p2 : Int32) :
    ∃ r : Int32, (∀ K : Int32 → Prop, K r → wp_X9_boundary l pl pb p p2 K) ∧ ∀ K : Int32 → zF → zF → Prop, (∀ st' pt', K r st' pt') → wp_X10_boundary rules places without rule takes behind s st pt p p2 K := by
  have hl : z_len d ≤ 30 := hd.2.2.1
  have hz := hm.z
  obtain ⟨rfl, -, -, -⟩ := hD
  obtain ⟨rfl, rfl, -⟩ := hP
  have b0 := z_bd_0 q d (z_knd d) 0
  have bn := z_bd_n q d (z_knd d) 0
  rcases zc_at p (z_len d + 1) with ⟨j, hj, -, rfl⟩ | ho
  · rcases zc_at p2 2 with ⟨w, hw, -, rfl⟩ | ho2
    · by_cases e0 : w = 0
      · by_cases en : j = z_len d
        · refine ⟨-4, fun K h => ?_, fun K h => ?_⟩
          · unfold wp_X9_boundary
            refine sx_isPlace_t (by omega) (by omega) (zb_f zi_1 (zt_ler (by omega) (by omega) (zb_t2 (by rw [e0]; rfl) ?_)))
            rw [en]; exact sx_behindN hd h
          · unfold wp_X10_boundary
            refine sp_isPlace_t hz.2.2.1 (by omega) (by omega) (zb_f zi_1 (sp_in_t (by omega) (by omega) (zb_f2 zi_1 ?_)))
            refine sp_walk0 hq hd hM hm hwo (by omega) (fun st' pt' hww => ?_)
            intro J hJ
            refine zb_t2 (by rw [e0]; rfl) (hJ _ ?_)
            rintro _ rfl
            intro E hE E2 hE2
            refine ⟨1, ?_⟩
            rw [zn_add, lp_X10_boundary_40, zn_in (by omega), zn_cl (by omega), hz.2.2.1]
            exact ⟨by omega, sp_inn_f (by omega) (Or.inr ⟨j + 1, by omega, by omega, rfl⟩) (zb_t zi_0 (hE2 (h _ _)))⟩
        · obtain ⟨x, h1, h2, h3, h4⟩ := z_nx' (z_bd q d (z_knd d) 0) bn (show j < z_len d by omega)
          refine ⟨nI x, fun K h => ?_, fun K h => ?_⟩
          · unfold wp_X9_boundary
            refine sx_isPlace_t (by omega) (by omega) (zb_f zi_1 (zt_ler (by omega) (by omega) (zb_t2 (by rw [e0]; rfl) ?_)))
            exact sx_behindT hd h1 h2 h3 h4 h
          · unfold wp_X10_boundary
            refine sp_isPlace_t hz.2.2.1 (by omega) (by omega) (zb_f zi_1 (sp_in_t (by omega) (by omega) (zb_f2 zi_1 ?_)))
            refine sp_walk0 hq hd hM hm hwo (by omega) (fun st' pt' hww => ?_)
            intro J hJ
            refine zb_t2 (by rw [e0]; rfl) (hJ _ ?_)
            rintro _ rfl
            intro E hE E2 hE2
            rw [zn_add]
            exact sp_stepUp hd hm hww h1 h2 h3 h4 (hE _ (h _ _))
      · by_cases en : j = 0
        · refine ⟨-4, fun K h => ?_, fun K h => ?_⟩
          · unfold wp_X9_boundary
            refine sx_isPlace_t (by omega) (by omega) (zb_f zi_1 (zt_ler (by omega) (by omega) (zb_f2 (by rw [zn_eq0 (by omega)]; exact e0) ?_)))
            rw [en]; exact sx_aheadN h
          · unfold wp_X10_boundary
            refine sp_isPlace_t hz.2.2.1 (by omega) (by omega) (zb_f zi_1 (sp_in_t (by omega) (by omega) (zb_f2 zi_1 ?_)))
            refine sp_walk0 hq hd hM hm hwo (by omega) (fun st' pt' hww => ?_)
            intro J hJ
            refine zb_f2 (by rw [zn_eq0 (by omega)]; exact e0) (hJ _ ?_)
            rintro _ rfl
            intro E hE E2 hE2
            refine ⟨1, ?_⟩
            rw [lp_X10_boundary_40, zn_in (by omega), zn_cl (by omega), hz.2.2.1, en]
            exact ⟨by omega, sp_inn_f (by omega) (Or.inl (by decide)) (zb_t zi_0 (hE2 (h _ _)))⟩
        · obtain ⟨x, h1, h3, h4⟩ := z_pv (z_bd q d (z_knd d) 0) b0 j (by omega)
          refine ⟨nI x, fun K h => ?_, fun K h => ?_⟩
          · unfold wp_X9_boundary
            refine sx_isPlace_t (by omega) (by omega) (zb_f zi_1 (zt_ler (by omega) (by omega) (zb_f2 (by rw [zn_eq0 (by omega)]; exact e0) ?_)))
            exact sx_aheadT hd (by omega) h1 h3 h4 h
          · unfold wp_X10_boundary
            refine sp_isPlace_t hz.2.2.1 (by omega) (by omega) (zb_f zi_1 (sp_in_t (by omega) (by omega) (zb_f2 zi_1 ?_)))
            refine sp_walk0 hq hd hM hm hwo (by omega) (fun st' pt' hww => ?_)
            intro J hJ
            refine zb_f2 (by rw [zn_eq0 (by omega)]; exact e0) (hJ _ ?_)
            rintro _ rfl
            intro E hE E2 hE2
            rw [zn_m1 (by omega)]
            exact sp_stepDown hd hm hww (by omega) h1 h3 h4 (hE _ (h _ _))
    · refine ⟨-1, fun K h => ?_, fun K h => ?_⟩
      · unfold wp_X9_boundary
        exact sx_isPlace_t (by omega) (by omega) (zb_f zi_1 (zg_ler (by omega) ho2 h))
      · unfold wp_X10_boundary
        exact sp_isPlace_t hz.2.2.1 (by omega) (by omega) (zb_f zi_1 (sp_in_f (by omega) ho2 (zb_t2 zi_0 (h _ _))))
  · refine ⟨-1, fun K h => ?_, fun K h => ?_⟩
    · unfold wp_X9_boundary; exact sx_isPlace_f (by omega) ho (zb_t zi_0 h)
    · unfold wp_X10_boundary; exact sp_isPlace_f hz.2.2.1 (by omega) ho (zb_t zi_0 (h _ _))
/-! how many pieces, and which -/
theorem z_bds_ct (q : zR) {d : zD} (hd : zE d) (kn : Nat → Nat) (wo : Nat) : z_ct (fun j => (z_bds q d kn wo).testBit j) 32 = z_ct (z_bd q d kn wo) (z_len d) + 1 := by
  have hl : z_len d ≤ 30 := hd.2.2.1
  rw [show (32 : Nat) = (z_len d + 1) + (32 - (z_len d + 1)) by omega, z_ct_add, z_ct_0 (f := fun j => (z_bds q d kn wo).testBit (z_len d + 1 + j)) _ (fun j _ => by
    unfold z_bds
    rw [zs_mk_bit, decide_eq_false (by omega), Bool.false_and]), Nat.add_zero]
  rw [z_ct_congr (g := z_bd q d kn wo) (z_len d + 1) (fun j hj => z_bds_bit q d kn wo (by omega)), z_ct_S, z_bd_n]
  rfl
theorem sx_number {q : zR} {d : zD} {kn : Nat → Nat} {wo : Nat} {K : Int32 → Prop} (hd : zE d) (h : K (nI (z_ct (z_bd q d kn wo) (z_len d)))) : wp_X3_number (nI (z_bds q d kn wo)) K := by
  unfold wp_X3_number
  refine sx_bitCount (Nat.lt_of_lt_of_le (z_bds_lt q hd kn wo) (by omega)) ?_
  rw [z_bds_ct q hd, zn_sub (by omega), Nat.add_sub_cancel]
  exact h
theorem sp_pieces {q : zR} {d : zD} {kn : Nat → Nat} {wo b : Nat} {s pt : zF} {K : Int32 → Prop} (hd : zE d) (hb : b + 61 ≤ 732) (hlen : s (b + 30) = nI (z_len d)) (hw : ∀ k, k ≤ z_len d → pt k = nI (z_bd q d kn wo k).toNat) (h : K (nI (z_ct (z_bd q d kn wo) (z_len d)))) : wp_X10_pieces s pt (nI b) K := by
  have hl : z_len d ≤ 30 := hd.2.2.1
  unfold wp_X10_pieces
  intro E hE
  refine zl_cnt (fun n i => lp_X10_pieces_4 s pt (nI b) E n (nI (z_ct (z_bd q d kn wo) i)) (nI i)) (z_len d) ?_ ?_ 0 (Nat.zero_le _)
  · intro n
    rw [lp_X10_pieces_4, zn_add, zn_in (by omega), zn_cl (by omega), hlen]
    exact ⟨by omega, zb_t (by rw [zn_le (by omega) (by omega)]; omega) (hE _ h)⟩
  · intro n i hi ih
    rw [lp_X10_pieces_4, zn_add, zn_in (by omega), zn_cl (by omega), hlen, zn_in (by omega), zn_cl (by omega)]
    refine ⟨by omega, zb_f (by rw [zn_le (by omega) (by omega)]; omega) ⟨by omega, zp_bt (B := z_bd q d kn wo) (hw i (by omega)) (fun e => ?_) (fun e => ?_)⟩⟩
    · rintro _ rfl _ rfl
      rw [zn_add, zn_add]
      rw [z_ct_S, e] at ih
      exact ih
    · rintro _ rfl _ rfl
      rw [zn_add, zn_add]
      rw [z_ct_S, e] at ih
      exact ih
