/-! the model reads a text -/
theorem z_ic_only {m : Nat} {t : Nat → Nat} {q : zR} {i e : Nat} (h0 : t i = 99) (h1 : z_ic t i e) (h2 : ¬ (e < m ∧ z_lt t e)) (h3 : ¬ (e < m ∧ t e = 59)) : ∀ e', ¬ z_vi m t q i e' := by
  intro e' he
  rcases he.2.2 with ⟨-, c⟩ | ⟨c, -⟩ | ⟨c, -⟩
  · have a := h1.1
    have b := c.1
    have l := he.1
    rcases Nat.lt_trichotomy e' e with z | z | z
    · have := h1.2.2.2.2.1 e' (by omega) z
      unfold z_lt at this
      have := he.2.1
      omega
    · subst z; exact h3 ⟨l, he.2.1⟩
    · exact h2 ⟨by omega, c.2.2.2.2.1 e (by omega) z⟩
  · omega
  · omega
theorem z_is_only {m : Nat} {t : Nat → Nat} {q : zR} {i e : Nat} (h0 : t i = 115) (h1 : z_is t i e) (h2 : ¬ (e < m ∧ z_lt t e)) (h3 : ¬ (e < m ∧ t e = 59)) : ∀ e', ¬ z_vi m t q i e' := by
  intro e' he
  rcases he.2.2 with ⟨c, -⟩ | ⟨c, -⟩ | ⟨-, c⟩
  · omega
  · omega
  · have a := h1.1
    have b := c.1
    have l := he.1
    rcases Nat.lt_trichotomy e' e with z | z | z
    · have := h1.2.1 e' (by omega) z
      unfold z_lt at this
      have := he.2.1
      omega
    · subst z; exact h3 ⟨l, he.2.1⟩
    · exact h2 ⟨by omega, c.2.1 e (by omega) z⟩
theorem z_ir_only {m : Nat} {t : Nat → Nat} {q : zR} {i e : Nat} (h0 : t i = 114) (h1 : z_ir t q i e) (h3 : ¬ (e < m ∧ t e = 59)) : ∀ e', ¬ z_vi m t q i e' := by
  intro e' he
  rcases he.2.2 with ⟨c, -⟩ | ⟨-, c⟩ | ⟨c, -⟩
  · omega
  · have e2 := z_vr_uniq h1.2.2.2.2.1 c.2.2.2.2.1
    have a := h1.1
    have b := c.1
    have e3 : e = e' := by omega
    subst e3
    exact h3 ⟨he.1, he.2.1⟩
  · omega
theorem sp_begins {nR nP : Int32} {ns : zF} {K : Int32 → Int32 → zF → Prop} (h : ∀ ns' : zF, (∀ j, j < 61 → ns' j = nI 0) → K (nI 0) (nI 0) ns') : wp_X10_begins nR nP ns K := by
  unfold wp_X10_begins
  intro E hE
  refine zl_inv (σ := zF) (fun n i s => lp_X10_begins_12 E n (nI i) s) (fun i s => ∀ j, j < i → s j = nI 0) 61 ?_ ?_ 0 ns (Nat.zero_le _) (fun j hj => absurd hj (Nat.not_lt_zero _))
  · intro n s hs
    rw [lp_X10_begins_12]
    exact zb_t (by rw [zn_le (by omega) (by omega)]; omega) (hE _ (h s hs))
  · intro n i s hi hs ih
    rw [lp_X10_begins_12]
    refine zb_f (by rw [zn_le (by omega) (by omega)]; omega) ?_
    rw [zn_in (by omega), zn_cl (by omega)]
    refine ⟨hi, ?_⟩
    rintro _ rfl _ rfl
    rw [zn_add]
    refine ih _ (fun j hj => ?_)
    by_cases e : j = i
    · subst e; exact zu_s
    · rw [zu_n e]; exact hs j (by omega)
theorem mD.zero {ns : zF} (h : ∀ j, j < 61 → ns j = nI 0) : mD ns 0 z_d0 :=
  ⟨fun j hj => h _ (by omega), fun r hr => h _ (by omega), h _ (by omega), fun j hj => absurd hj (Nat.not_lt_zero _)⟩
theorem sp_reads {m : Nat} {t : Nat → Nat} {nR0 nP0 len next0 place0 w0 pa0 : Int32} {text nr0 T0 B0 ns0 F0 L0 W0 : zF} {K : Int32 → Int32 → Int32 → Int32 → Int32 → Int32 → zF → zF → zF → zF → zF → zF → zF → Prop} (hT : zT m t) (hx : mT m t len text)
    (h1 : (z_sF m t).1 < m → ∀ (nR nP x pa : Int32) (nr T B ns F L W : zF), K nR nP x (nI (z_sF m t).1) (nI 1) pa nr T B ns F L W)
    (h0 : ¬ (z_sF m t).1 < m → ∀ (nR nP x pl pa : Int32) (nr T B ns F L W : zF), mR (z_sF m t).2.1 nR nP nr T B → mD ns 0 (z_sF m t).2.2 → K nR nP x pl (nI 0) pa nr T B ns F L W) : wp_X10_reads nR0 nP0 len next0 place0 w0 pa0 nr0 T0 B0 ns0 text F0 L0 W0 K := by
  have hmm := hT.1
  unfold wp_X10_reads
  refine sp_begins (fun ns1 hns1 => ?_)
  intro E hE
  have key : ∃ n, lp_X10_reads_14 len text E (n + 1) (nI 0) (nI 0) (nI (z_sq m t 0).1) place0 (nI 0) pa0 nr0 T0 B0 ns1 F0 L0 W0 := by
    refine zl_inv (σ := Int32 × Int32 × Int32 × Int32 × zF × zF × zF × zF × zF × zF × zF) (fun n k s => lp_X10_reads_14 len text E (n + 1) s.1 s.2.1 (nI (z_sq m t k).1) s.2.2.1 (nI 0) s.2.2.2.1 s.2.2.2.2.1 s.2.2.2.2.2.1 s.2.2.2.2.2.2.1 s.2.2.2.2.2.2.2.1 s.2.2.2.2.2.2.2.2.1 s.2.2.2.2.2.2.2.2.2.1 s.2.2.2.2.2.2.2.2.2.2) (fun k s => k ≤ (z_sq m t k).1 ∧ mR (z_sq m t k).2.1 s.1 s.2.1 s.2.2.2.2.1 s.2.2.2.2.2.1 s.2.2.2.2.2.2.1 ∧ mD s.2.2.2.2.2.2.2.1 0 (z_sq m t k).2.2) 201 ?_ ?_ 0 (nI 0, nI 0, place0, pa0, nr0, T0, B0, ns1, F0, L0, W0) (Nat.zero_le _) ⟨Nat.zero_le _, ⟨rfl, rfl, fun r hr => absurd hr (Nat.not_lt_zero _), fun p hp => absurd hp (Nat.not_lt_zero _)⟩, mD.zero hns1⟩
    · rintro n s ⟨g, -⟩
      have := (z_sq_W m t 201).2.2
      omega
    · rintro n k ⟨nR, nP, pl, pa, nr, T, B, ns, F, L, W⟩ hk ⟨g1, g2, g3⟩ ih
      have g2 : mR (z_sq m t k).2.1 nR nP nr T B := g2
      have g3 : mD ns 0 (z_sq m t k).2.2 := g3
      obtain ⟨hW, hd, him⟩ := z_sq_W m t k
      have hl : z_len (z_sq m t k).2.2 ≤ 30 := hd.2.2.1
      have hlen := hx.1
      show lp_X10_reads_14 len text E (n + 1 + 1) nR nP (nI (z_sq m t k).1) pl (nI 0) pa nr T B ns F L W
      rw [lp_X10_reads_14, hlen]
      rw [← hlen]
      rcases Nat.lt_or_ge (z_sq m t k).1 m with q | q
      · have wr : (∀ e, ¬ z_vi m t (z_sq m t k).2.1 (z_sq m t k).1 e) → ∀ (a1 a2 a3 a4 : Int32) (a5 a6 a7 a8 a9 b1 b2 : zF), lp_X10_reads_14 len text E (n + 1) a1 a2 a3 (nI (z_sq m t k).1) (nI 1) a4 a5 a6 a7 a8 a9 b1 b2 := by
          intro hno a1 a2 a3 a4 a5 a6 a7 a8 a9 b1 b2
          have e1 := z_sF_f (by omega) hno
          rw [e1] at h1
          rw [lp_X10_reads_14]
          refine ⟨fun _ => hE _ _ _ _ _ _ _ _ _ _ _ _ _ (h1 q _ _ _ _ _ _ _ _ _ _ _), fun _ => zb_f2 zi_1 (hE _ _ _ _ _ _ _ _ _ _ _ _ _ (h1 q _ _ _ _ _ _ _ _ _ _ _))⟩
        have ok : ∀ e, z_vi m t (z_sq m t k).2.1 (z_sq m t k).1 e → ∀ (a1 a2 a4 : Int32) (a5 a6 a7 a8 a9 b1 b2 : zF), mR (z_tl t (z_sq m t k).1 e (z_sq m t k).2).1 a1 a2 a5 a6 a7 → mD a8 0 (z_tl t (z_sq m t k).1 e (z_sq m t k).2).2 → lp_X10_reads_14 len text E (n + 1) a1 a2 (nI (e + 1)) (nI (z_sq m t k).1) (nI 0) a4 a5 a6 a7 a8 a9 b1 b2 := by
          intro e he a1 a2 a4 a5 a6 a7 a8 a9 b1 b2 c1 c2
          have e1 := z_sq_t he
          have e2 := z_vi_lt he
          have h9 := ih (a1, a2, nI (z_sq m t k).1, a4, a5, a6, a7, a8, a9, b1, b2) ⟨by rw [e1]; show k + 1 ≤ e + 1; omega, by rw [e1]; exact c1, by rw [e1]; exact c2⟩
          have h9 : lp_X10_reads_14 len text E (n + 1) a1 a2 (nI (z_sq m t (k + 1)).1) (nI (z_sq m t k).1) (nI 0) a4 a5 a6 a7 a8 a9 b1 b2 := h9
          rw [e1] at h9
          exact h9
        have hti := hT.2 _ q
        refine zb_f (by rw [hlen, zn_le (by omega) (by omega)]; omega) (zb_t2 rfl ?_)
        refine sp_letterAt hT hx (by omega) (fun _ => ?_) (fun q2 => by omega)
        rintro _ rfl
        intro J hJ
        -- what comes behind an item
        have good : ∀ e, e ≤ m → (e < m → t e = 59 → z_vi m t (z_sq m t k).2.1 (z_sq m t k).1 e) → (¬ (e < m ∧ t e = 59) → ∀ e', ¬ z_vi m t (z_sq m t k).2.1 (z_sq m t k).1 e') → ∀ (a1 a2 a4 : Int32) (a5 a6 a7 a8 a9 b1 b2 : zF), mR (z_tl t (z_sq m t k).1 e (z_sq m t k).2).1 a1 a2 a5 a6 a7 → mD a8 0 (z_tl t (z_sq m t k).1 e (z_sq m t k).2).2 → J a1 a2 (nI e) (nI 0) a4 a5 a6 a7 a8 a9 b1 b2 := by
          intro e he hv hn a1 a2 a4 a5 a6 a7 a8 a9 b1 b2 c1 c2
          apply hJ
          intro J2 hJ2
          refine zb_t2 rfl (sp_letterAt hT hx (by omega) (fun q2 => ?_) (fun q2 => ?_))
          · have hte := hT.2 e q2
            rw [zn_eq (by omega) (by omega)]
            refine ⟨fun e59 => ?_, fun e59 => hJ2 ?_⟩
            · rintro _ rfl
              rw [zn_add]
              exact ok e (hv q2 e59) _ _ _ _ _ _ _ _ _ _ c1 c2
            · rintro _ rfl
              exact wr (hn (fun z => e59 z.2)) _ _ _ _ _ _ _ _ _ _ _
          · refine zb_f (by decide) (hJ2 ?_)
            rintro _ rfl
            exact wr (hn (fun z => by omega)) _ _ _ _ _ _ _ _ _ _ _
        have badJ : (∀ e, ¬ z_vi m t (z_sq m t k).2.1 (z_sq m t k).1 e) → ∀ (a1 a2 a3 a4 : Int32) (a5 a6 a7 a8 a9 b1 b2 : zF), J a1 a2 a3 (nI 1) a4 a5 a6 a7 a8 a9 b1 b2 := by
          intro hno a1 a2 a3 a4 a5 a6 a7 a8 a9 b1 b2
          apply hJ
          intro J2 hJ2
          refine zb_f2 zi_1 (hJ2 ?_)
          rintro _ rfl
          exact wr hno _ _ _ _ _ _ _ _ _ _ _
        rw [zn_add, zn_eq (by omega) (by omega), zn_eq (by omega) (by omega), zn_eq (by omega) (by omega)]
        refine ⟨fun e99 => ⟨fun e114 => ⟨fun e115 => badJ (fun e he => ?_) _ _ _ _ _ _ _ _ _ _ _, fun e115 => ?_⟩, fun e114 => ?_⟩, fun e99 => ?_⟩
        · rcases he.2.2 with ⟨c, -⟩ | ⟨c, -⟩ | ⟨c, -⟩
          · exact e99 c
          · exact e114 c
          · exact e115 c
        · refine sp_lineItem hT hx q hd g3 (fun e k1 k2 k3 ns' k4 => ?_) (fun k1 y ns' => badJ (fun e he => ?_) _ _ _ _ _ _ _ _ _ _ _)
          · refine good e k1 (fun z1 z2 => ⟨z1, z2, Or.inr (Or.inr ⟨e115, k2⟩)⟩) (fun z => z_is_only e115 k2 k3 z) _ _ _ _ _ _ _ _ _ _ ?_ ?_
            · rw [z_tl_s e115]; exact g2
            · rw [z_tl_s e115]; exact k4
          · rcases he.2.2 with ⟨c, -⟩ | ⟨c, -⟩ | ⟨-, c⟩
            · exact e99 c
            · exact e114 c
            · exact k1 e he.1 he.2.1 c
        · refine sp_ruleItem hT hx q hW.1 hW.2.1 g2 g3 hl (fun e k1 k2 pa' nR' nP' nr' T' B' ns' F' L' W' k3 k4 => ?_) (fun k1 y => badJ (fun e he => ?_) _ _ _ _ _ _ _ _ _ _ _)
          · refine good e k1 (fun z1 z2 => ⟨z1, z2, Or.inr (Or.inl ⟨e114, k2⟩)⟩) (fun z => z_ir_only e114 k2 z) _ _ _ _ _ _ _ _ _ _ ?_ ?_
            · rw [z_tl_r e114]; exact k3
            · rw [z_tl_r e114]; exact k4
          · rcases he.2.2 with ⟨c, -⟩ | ⟨-, c⟩ | ⟨c, -⟩
            · exact e99 c
            · exact k1 e (by have := he.1; omega) c
            · omega
        · refine sp_classItem hT hx q hd g3 (fun e k1 k2 k3 ns' k4 => ?_) (fun k1 y ns' => badJ (fun e he => ?_) _ _ _ _ _ _ _ _ _ _ _)
          · refine good e k1 (fun z1 z2 => ⟨z1, z2, Or.inl ⟨e99, k2⟩⟩) (fun z => z_ic_only e99 k2 k3 z) _ _ _ _ _ _ _ _ _ _ ?_ ?_
            · rw [z_tl_c e99]; exact g2
            · rw [z_tl_c e99]; exact k4
          · rcases he.2.2 with ⟨-, c⟩ | ⟨c, -⟩ | ⟨c, -⟩
            · exact k1 e he.1 he.2.1 c
            · omega
            · omega
      · have e1 := z_sF_f (k := k) (by omega) (z_vi_end q)
        rw [e1] at h0
        exact zb_t (by rw [hlen, zn_le (by omega) (by omega)]; exact q) (hE _ _ _ _ _ _ _ _ _ _ _ _ _ (h0 (by omega) _ _ _ _ _ _ _ _ _ _ _ _ g2 g3))
  obtain ⟨n, hn⟩ := key
  exact ⟨n + 1, hn⟩
