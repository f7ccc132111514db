/-! the class's items -/
theorem sx_endOfItem {m i : Nat} {t : Nat → Nat} {tl : Int32} {signs : zF} {K : Int32 → Prop} (hT : zT m t) (hx : xT m t tl signs) (hi : i ≤ m)
    (h1 : ∀ e, i ≤ e → e < m → t e = 59 → (∀ j, i ≤ j → j < e → t j ≠ 59) → K (nI e)) (h0 : (∀ j, i ≤ j → j < m → t j ≠ 59) → K (-1)) : wp_X7_endOfItem tl signs (nI i) K := by
  have hmm := hT.1
  have hlen := hx.1
  unfold wp_X7_endOfItem
  intro E hE E2 hE2
  refine zl_inv (σ := Unit) (fun n e _ => lp_X7_endOfItem_2 tl signs E E2 n (nI e)) (fun e _ => i ≤ e ∧ ∀ j, i ≤ j → j < e → t j ≠ 59) m ?_ ?_ i () hi ⟨Nat.le_refl _, fun j j1 j2 => by omega⟩
  · rintro n _ ⟨g1, g2⟩
    rw [lp_X7_endOfItem_2, hlen]
    exact zb_t (by rw [zn_le (by omega) (by omega)]; exact Nat.le_refl _) (hE2 (h0 g2))
  · rintro n e _ he ⟨g1, g2⟩ ih
    have hte := hT.2 e he
    rw [lp_X7_endOfItem_2, hlen]
    rw [← hlen]
    refine zb_f (by rw [hlen, zn_le (by omega) (by omega)]; omega) ?_
    refine sx_signAt hT hx (by omega) ?_
    rw [z_tx_in he, zn_eq (by omega) (by omega)]
    refine ⟨fun q => ?_, fun q => hE _ (h1 e g1 he q g2)⟩
    rintro _ rfl
    rw [zn_add]
    refine ih () ⟨by omega, fun j j1 j2 => ?_⟩
    by_cases z : j = e
    · subst z; exact q
    · exact g2 j j1 (by omega)
theorem sx_hasFigure {m i e b : Nat} {t : Nat → Nat} {tl : Int32} {signs : zF} {K : Int32 → Prop} (hT : zT m t) (hx : xT m t tl signs) (hie : i < e) (he : e < m) (hb : b ≤ 10)
    (h1 : i + 2 < e → 48 ≤ t (i + 1) → t (i + 1) < 48 + b → t (i + 2) = 44 → K (nI 1)) (h0 : ¬ (i + 2 < e ∧ 48 ≤ t (i + 1) ∧ t (i + 1) < 48 + b ∧ t (i + 2) = 44) → K (nI 0)) : wp_X7_hasFigure tl signs (nI i) (nI e) (nI b) K := by
  have hmm := hT.1
  have ht1 := hT.2 (i + 1) (by omega)
  unfold wp_X7_hasFigure
  rw [zn_add, zn_add]
  refine sx_signAt hT hx (by omega) ?_
  rw [z_tx_in (by omega)]
  rintro _ rfl
  rw [zn_le (by omega) (by omega)]
  refine ⟨fun z => h0 (by omega), fun z => ?_⟩
  rcases Nat.lt_or_ge (t (i + 1)) 48 with q | q
  · exact zb_t (zd_48 _ q) (h0 (by omega))
  · rw [zn_sub q]
    refine zb_f (nI_pos (by omega)) ?_
    rw [zn_le (by omega) (by omega)]
    refine ⟨fun z2 => h0 (by omega), fun z2 => ?_⟩
    have ht2 := hT.2 (i + 2) (by omega)
    refine sx_signAt hT hx (by omega) ?_
    rw [z_tx_in (by omega), zn_eq (by omega) (by omega)]
    exact ⟨fun z3 => h0 (by omega), fun z3 => h1 (by omega) q (by omega) z3⟩
theorem sx_areLetters {m b e lo hi : Nat} {t : Nat → Nat} {tl : Int32} {signs : zF} {K : Int32 → Prop} (hT : zT m t) (hx : xT m t tl signs) (hbe : b ≤ e) (he : e < m) (hlo : lo ≤ 30) (hhi : hi ≤ 30)
    (h1 : (∀ j, b ≤ j → j < e → z_lt t j) → lo ≤ e - b → e - b ≤ hi → K (nI 1)) (h0 : ¬ ((∀ j, b ≤ j → j < e → z_lt t j) ∧ lo ≤ e - b ∧ e - b ≤ hi) → K (nI 0)) : wp_X7_areLetters tl signs (nI b) (nI e) (nI lo) (nI hi) K := by
  have hmm := hT.1
  unfold wp_X7_areLetters
  intro E hE E2 hE2
  refine zl_inv (σ := Unit) (fun n i _ => lp_X7_areLetters_3 tl signs (nI e) E E2 n (nI i)) (fun i _ => b ≤ i ∧ ∀ j, b ≤ j → j < i → z_lt t j) e ?_ ?_ b () hbe ⟨Nat.le_refl _, fun j j1 j2 => by omega⟩
  · rintro n _ ⟨-, g⟩
    rw [lp_X7_areLetters_3]
    refine zb_t (by rw [zn_le (by omega) (by omega)]; exact Nat.le_refl _) (hE2 ?_)
    rw [zn_sub hbe, zn_lt (by omega) (by omega), zn_lt (by omega) (by omega)]
    exact ⟨fun z => h0 (by omega), fun z => ⟨fun z2 => h0 (by omega), fun z2 => h1 g (by omega) (by omega)⟩⟩
  · rintro n i _ hi2 ⟨g1, g2⟩ ih
    have hti := hT.2 i (by omega)
    rw [lp_X7_areLetters_3]
    refine zb_f (by rw [zn_le (by omega) (by omega)]; omega) ?_
    refine sx_signAt hT hx (by omega) ?_
    rw [z_tx_in (by omega)]
    refine sx_isLetterD (by omega) (fun q1 q2 => zb_f2 zi_1 ?_) (fun q => zb_t2 rfl (hE (h0 (fun z => ?_))))
    · rintro _ rfl
      rw [zn_add]
      refine ih () ⟨by omega, fun j j1 j2 => ?_⟩
      by_cases z : j = i
      · subst z; exact ⟨q1, q2⟩
      · exact g2 j j1 (by omega)
    · have := z.1 i g1 hi2
      unfold z_lt at this
      omega
theorem sx_isItem {m i e : Nat} {q : zR} {d : zD} {t : Nat → Nat} {tl : Int32} {signs : zF} {K : Int32 → Int32 → Int32 → Prop} (hT : zT m t) (hx : xT m t tl signs) (hq4 : z_nR q ≤ 4) (hq10 : z_nP q ≤ 10) (hie : i ≤ e) (he : e < m) (h59 : t e = 59)
    (h1 : z_vi m t q i e → K (nI 1) (nI (z_nR (z_tl t i e (q, d)).1)) (nI (z_nP (z_tl t i e (q, d)).1))) (h0 : ¬ z_vi m t q i e → K (nI 0) (nI (z_nR q)) (nI (z_nP q))) : wp_X7_isItem tl (nI (z_nR q)) (nI (z_nP q)) signs (nI i) (nI e) K := by
  have hmm := hT.1
  have hti := hT.2 i (by omega)
  unfold wp_X7_isItem
  refine sx_signAt hT hx (by omega) ?_
  rw [z_tx_in (by omega), zn_eq (by omega) (by omega), zn_eq (by omega) (by omega), zn_eq (by omega) (by omega)]
  refine ⟨fun c => ?_, fun c => ⟨fun r => ?_, fun r => ⟨fun s => ?_, fun s => h0 (fun z => ?_)⟩⟩⟩
  · have hlt : i < e := by
      rcases Nat.lt_or_ge i e with z | z
      · exact z
      · have : i = e := by omega
        subst this; omega
    refine sx_hasFigure hT hx hlt he (by omega) (fun f1 f2 f3 f4 => zb_f (by decide) ?_) (fun f => zb_t rfl (h0 (fun z => ?_)))
    · rw [zn_add]
      refine sx_areLetters hT hx (by omega) he (by omega) (by omega) (fun l1 l2 l3 => zb_f (by decide) ?_) (fun l => zb_t rfl (h0 (fun z => ?_)))
      · have hh := h1 ⟨he, h59, Or.inl ⟨c, by omega, f2, by omega, f4, l1, l3⟩⟩
        rw [z_tl_c c] at hh
        exact hh
      · rcases z.2.2 with ⟨-, z⟩ | ⟨z, -⟩ | ⟨z, -⟩
        · have := z.1
          exact l ⟨z.2.2.2.2.1, by omega, z.2.2.2.2.2⟩
        · omega
        · omega
    · rcases z.2.2 with ⟨-, z⟩ | ⟨z, -⟩ | ⟨z, -⟩
      · have := z.1
        have := z.2.2.1
        exact f ⟨by omega, z.2.1, by omega, z.2.2.2.1⟩
      · omega
      · omega
  · have hlt : i < e := by
      rcases Nat.lt_or_ge i e with z | z
      · exact z
      · have : i = e := by omega
        subst this; omega
    refine sx_hasFigure hT hx hlt he (by omega) (fun f1 f2 f3 f4 => zb_f (by decide) ?_) (fun f => zb_t rfl (h0 (fun z => ?_)))
    · have eN : e = i + 3 + (e - (i + 3)) := by omega
      rw [zn_add]
      unfold wp_X7_isNextRule
      have no : ¬ (z_vr t (i + 3) (e - (i + 3)) ∧ z_nR q < 4 ∧ z_nP q + z_ac t (i + 3) (e - (i + 3)) ≤ 10) → ¬ z_vi m t q i e := by
        intro hn z
        rcases z.2.2 with ⟨z, -⟩ | ⟨-, z⟩ | ⟨z, -⟩
        · omega
        · exact hn z.2.2.2.2
        · omega
      have row : wp_X7_isRow tl signs (nI (i + 3)) (nI (i + 3 + (e - (i + 3)))) (fun r_1 =>
          (r_1 = 0 → (nI 0 = 0 → K (nI 0) (nI (z_nR q)) (nI (z_nP q))) ∧ (¬ nI 0 = 0 → K (nI 1) (nI (z_nR q)) (nI (z_nP q)))) ∧
          (¬ r_1 = 0 → ((nI (z_nR q)) < (nI 4) → wp_X7_placesIn tl signs (nI (i + 3)) (nI (i + 3 + (e - (i + 3)))) (fun r_2 => (((nI (z_nP q)) + r_2) ≤ (nI 10) → ∀ x3 : Int32, x3 = (nI (z_nR q)) + (nI 1) → ∀ x4 : Int32, x4 = (nI (z_nP q)) + r_2 → (nI 1 = 0 → K (nI 0) x3 x4) ∧ (¬ nI 1 = 0 → K (nI 1) x3 x4)) ∧ (¬ ((nI (z_nP q)) + r_2) ≤ (nI 10) → (nI 0 = 0 → K (nI 0) (nI (z_nR q)) (nI (z_nP q))) ∧ (¬ nI 0 = 0 → K (nI 1) (nI (z_nR q)) (nI (z_nP q)))))) ∧ (¬ (nI (z_nR q)) < (nI 4) → (nI 0 = 0 → K (nI 0) (nI (z_nR q)) (nI (z_nP q))) ∧ (¬ nI 0 = 0 → K (nI 1) (nI (z_nR q)) (nI (z_nP q)))))) := by
        refine sx_isRow hT hx (by omega) (fun v => zb_f (by decide) ?_) (fun v => zb_t rfl (zb_t rfl (h0 (no (fun z => v z.1)))))
        rw [zn_lt (by omega) (by omega)]
        refine ⟨fun h4 => ?_, fun h4 => zb_t rfl (h0 (no (fun z => h4 z.2.1)))⟩
        refine sx_placesIn hT hx (by omega) (fun j hj => (v.1 j hj).1) ?_
        have hac := z_ac_le t (i + 3) (e - (i + 3))
        rw [zn_add, zn_le (by omega) (by omega)]
        refine ⟨fun h10 => ?_, fun h10 => zb_t rfl (h0 (no (fun z => h10 z.2.2)))⟩
        rintro _ rfl _ rfl
        refine zb_f (by decide) ?_
        have hh := h1 ⟨he, h59, Or.inr (Or.inl ⟨r, f1, f2, by omega, f4, v, h4, h10⟩)⟩
        rw [z_tl_r r] at hh
        rw [zn_add]
        exact hh
      rw [← eN] at row
      exact row
    · rcases z.2.2 with ⟨z, -⟩ | ⟨-, z⟩ | ⟨z, -⟩
      · omega
      · have := z.2.2.1
        exact f ⟨z.1, z.2.1, by omega, z.2.2.2.1⟩
      · omega
  · have hlt : i < e := by
      rcases Nat.lt_or_ge i e with z | z
      · exact z
      · have : i = e := by omega
        subst this; omega
    rw [zn_add]
    refine sx_areLetters hT hx (by omega) he (by omega) (by omega) (fun l1 l2 l3 => ⟨rfl, ?_⟩) (fun l => ⟨rfl, h0 (fun z => ?_)⟩)
    · have hh := h1 ⟨he, h59, Or.inr (Or.inr ⟨s, hlt, l1, l3⟩)⟩
      rw [z_tl_s s] at hh
      exact hh
    · rcases z.2.2 with ⟨z, -⟩ | ⟨z, -⟩ | ⟨-, z⟩
      · omega
      · omega
      · exact l ⟨z.2.1, by omega, z.2.2⟩
  · rcases z.2.2 with ⟨z, -⟩ | ⟨z, -⟩ | ⟨z, -⟩
    · exact c z
    · exact r z
    · exact s z
theorem sx_firstFault {m : Nat} {t : Nat → Nat} {tl rs0 ps0 : Int32} {signs : zF} {K : Int32 → Int32 → Int32 → Prop} (hT : zT m t) (hx : xT m t tl signs)
    (h1 : (z_sF m t).1 < m → ∀ rs ps : Int32, K (nI (z_sF m t).1) rs ps) (h0 : ¬ (z_sF m t).1 < m → ∀ ps : Int32, K (-4) (nI (z_nR (z_sF m t).2.1)) ps) : wp_X7_firstFault tl rs0 ps0 signs K := by
  have hmm := hT.1
  have hlen := hx.1
  unfold wp_X7_firstFault
  intro E hE E2 hE2
  have key : ∃ n, lp_X7_firstFault_14 tl signs E E2 n (nI (z_sq m t 0).1) (nI 0) (nI (z_nR (z_sq m t 0).2.1)) (nI (z_nP (z_sq m t 0).2.1)) := by
    refine zl_inv (σ := Unit) (fun n k _ => lp_X7_firstFault_14 tl signs E E2 n (nI (z_sq m t k).1) (nI k) (nI (z_nR (z_sq m t k).2.1)) (nI (z_nP (z_sq m t k).2.1))) (fun k _ => k ≤ (z_sq m t k).1) 200 ?_ ?_ 0 () (Nat.zero_le _) (Nat.zero_le _)
    · intro n _ g
      have e1 := z_sF_f (m := m) (t := t) (k := 200) (by omega) (z_vi_end (by omega))
      rw [lp_X7_firstFault_14]
      refine zb_t (by rw [zn_le (by omega) (by omega)]; omega) (hE2 _ _ ?_)
      rw [← e1]
      exact h0 (by rw [e1]; omega) _
    · intro n k _ hk g ih
      obtain ⟨hW, hd, him⟩ := z_sq_W m t k
      have hR := hW.1
      have hP := hW.2.1
      rw [lp_X7_firstFault_14, hlen]
      rw [← hlen]
      refine zb_f (by rw [zn_le (by omega) (by omega)]; omega) ?_
      rcases Nat.lt_or_ge (z_sq m t k).1 m with q | q
      · refine zb_f (by rw [hlen, zn_le (by omega) (by omega)]; omega) ?_
        refine sx_endOfItem hT hx (by omega) (fun e e1 e2 e3 e4 => ?_) (fun hno => ?_)
        · refine zb_f (nI_pos (by omega)) ?_
          refine sx_isItem (d := (z_sq m t k).2.2) hT hx hR hP e1 e2 e3 (fun hv => zb_f2 zi_1 ?_) (fun hv => zb_t2 rfl ?_)
          · rintro _ rfl _ rfl
            have e5 := z_sq_t hv
            have e6 := z_vi_lt hv
            have h9 := ih () (by rw [e5]; show k + 1 ≤ e + 1; omega)
            rw [e5] at h9
            rw [zn_add, zn_add]
            exact h9
          · have hno : ∀ e', ¬ z_vi m t (z_sq m t k).2.1 (z_sq m t k).1 e' := by
              intro e' he'
              have a := z_vi_lt he'
              rcases Nat.lt_trichotomy e e' with z | z | z
              · exact z_vi_no he' e e1 z e3
              · subst z; exact hv he'
              · exact e4 e' (by omega) z he'.2.1
            have e7 := z_sF_f (by omega) hno
            refine hE _ _ _ ?_
            rw [e7] at h1
            exact h1 q _ _
        · have hno2 : ∀ e', ¬ z_vi m t (z_sq m t k).2.1 (z_sq m t k).1 e' := by
            intro e' he'
            have a := z_vi_lt he'
            exact hno e' (by omega) he'.1 he'.2.1
          have e7 := z_sF_f (by omega) hno2
          refine zb_t (by decide) (hE _ _ _ ?_)
          rw [e7] at h1
          exact h1 q _ _
      · have e1 := z_sF_f (k := k) (by omega) (z_vi_end q)
        rw [e1] at h0
        exact zb_t (by rw [hlen, zn_le (by omega) (by omega)]; exact q) (hE2 _ _ (h0 (by omega) _))
  exact key

