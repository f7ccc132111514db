/-! the class lays a text -/
theorem sx_tellItem {m i e : Nat} {q : zR} {d : zD} {t : Nat → Nat} {tl nu pn ph l : Int32} {signs P F Wh T B pf pl pw c k f : zF} {K : Int32 → Int32 → Int32 → zF → zF → zF → zF → zF → Int32 → zF → zF → zF → Int32 → zF → zF → zF → Prop} (hT : zT m t) (hx : xT m t tl signs) (hv : z_vi m t q i e) (hR : xR q nu pn P F Wh T B) (hd : zE d) (hD : xD d l c k f)
    (h : ∀ (nu' pn' ph' l' : Int32) (P' F' Wh' T' B' pf' pl' pw' c' k' f' : zF), xR (z_tl t i e (q, d)).1 nu' pn' P' F' Wh' T' B' → xD (z_tl t i e (q, d)).2 l' c' k' f' → K (nI (e + 1)) nu' pn' P' F' Wh' T' B' ph' pf' pl' pw' l' c' k' f') : wp_X7_tellItem tl signs nu pn P F Wh T B ph pf pl pw l c k f (nI i) K := by
  have hmm := hT.1
  have hlt := z_vi_lt hv
  have he := hv.1
  have hno := z_vi_no hv
  have hti := hT.2 i (by omega)
  have hte := hT.2 (i + 1) (by omega)
  unfold wp_X7_tellItem
  refine sx_endOfItem hT hx (by omega) (fun e' e1 e2 e3 e4 => ?_) (fun z => absurd hv.2.1 (z e (by omega) he))
  have ee : e' = e := by
    rcases Nat.lt_trichotomy e' e with z | z | z
    · exact absurd e3 (hno e' e1 z)
    · exact z
    · exact absurd hv.2.1 (e4 e (by omega) z)
  subst ee
  refine zb_t (by show (0 : Int32) ≤ nI e'; rw [zn_0le (by omega)]; trivial) ?_
  refine sx_signAt hT hx (by omega) ?_
  rw [z_tx_in (by omega), zn_eq (by omega) (by omega), zn_eq (by omega) (by omega)]
  refine ⟨fun h99 => ?_, fun h99 => ⟨fun h114 => ?_, fun h114 => ?_⟩⟩
  · have hic : z_ic t i e' := by
      rcases hv.2.2 with ⟨-, z⟩ | ⟨z, -⟩ | ⟨z, -⟩
      · exact z
      · omega
      · omega
    rw [z_tl_c h99] at h
    have b1 := hic.1
    have b2 := hic.2.1
    have b3 := hic.2.2.1
    rintro _ rfl
    intro E hE
    rw [zn_add]
    have key : ∃ n, lp_X7_tellItem_53 tl signs (nI i) (nI e') E n (nI (i + 3 + 0)) c := by
      refine zl_inv (σ := zF) (fun n j s => lp_X7_tellItem_53 tl signs (nI i) (nI e') E n (nI (i + 3 + j)) s) (fun j s => xD (z_cs t (i + 3) (t (i + 1) - 48) d j) l s k f) (e' - (i + 3)) ?_ ?_ 0 c (Nat.zero_le _) hD
      · intro n s hs
        rw [lp_X7_tellItem_53]
        refine zb_t (by rw [zn_le (by omega) (by omega)]; omega) (hE _ ?_)
        rw [zn_add]
        exact h _ _ _ _ _ _ _ _ _ _ _ _ _ _ _ hR hs
      · intro n j s hj hs ih
        have hl := hic.2.2.2.2.1 (i + 3 + j) (by omega) (by omega)
        unfold z_lt at hl
        rw [lp_X7_tellItem_53]
        refine zb_f (by rw [zn_le (by omega) (by omega)]; omega) ?_
        refine sx_signAt hT hx (by omega) ?_
        rw [zn_add]
        refine sx_signAt hT hx (by omega) ?_
        rw [z_tx_in (by omega), z_tx_in (by omega), zn_sub (by omega), zn_sub (by omega)]
        refine sx_setClass (by omega) ?_
        rintro _ rfl
        rw [zn_add]
        refine ih _ ?_
        rw [z_cs_S]
        exact hs.tel _ _
    exact key
  · have hir : z_ir t q i e' := by
      rcases hv.2.2 with ⟨z, -⟩ | ⟨-, z⟩ | ⟨z, -⟩
      · omega
      · exact z
      · omega
    rw [z_tl_r h114] at h
    have b1 := hir.1
    have b2 := hir.2.1
    have b3 := hir.2.2.1
    have b4 := hir.2.2.2.2.2.1
    have hnu := hR.1
    unfold wp_X4_number
    rw [zn_add]
    refine sx_signAt hT hx (by omega) ?_
    rw [z_tx_in (by omega), zn_sub (by omega), hnu]
    rw [← hnu]
    have hset : wp_X6_setKind k (nI (z_nR q)) (nI (t (i + 1) - 48)) (fun z_kinds_18 =>
          wp_X4_add nu pn P F Wh T B ph pf pl pw tl signs (nI (i + 3)) (nI (i + 3 + (e' - (i + 3)))) (fun y_number_19 y_placeNumber_20 y_places_21 y_firsts_22 y_wholes_23 y_taken_24 y_behinds_25 y_parts_height_26 y_parts_firsts_27 y_parts_lasts_28 y_parts_lacking_29 =>
          K (nI e' + (nI 1)) y_number_19 y_placeNumber_20 y_places_21 y_firsts_22 y_wholes_23 y_taken_24 y_behinds_25 y_parts_height_26 y_parts_firsts_27 y_parts_lasts_28 y_parts_lacking_29 l c z_kinds_18 f)) := by
      refine sx_setKind b4 ?_
      refine sx_add hT hx (by omega) (by omega) hir.2.2.2.2.1 hR b4 hir.2.2.2.2.2.2 (fun nu' pn' ph' P' F' Wh' T' B' pf' pl' pw' hR' => ?_)
      rw [zn_add]
      refine h _ _ _ _ _ _ _ _ _ _ _ _ _ _ _ hR' ⟨hD.1, hD.2.1, fun r hr => zu_up (fun _ => hD.2.2.1 r hr), hD.2.2.2⟩
    rw [show i + 3 + (e' - (i + 3)) = e' by omega] at hset
    rw [hnu, zn_add i 3]
    rw [hnu] at hset
    exact hset
  · have h115 : t i = 115 ∧ z_is t i e' := by
      rcases hv.2.2 with ⟨z, -⟩ | ⟨z, -⟩ | z
      · omega
      · omega
      · exact z
    obtain ⟨h115, his⟩ := h115
    rw [z_tl_s h115] at h
    unfold wp_X6_clearLine
    show ∀ v5_31 : Int32, _ → _
    rintro _ rfl
    intro E hE
    rw [zn_add]
    have key : ∃ n, lp_X7_tellItem_132 tl signs (nI e') E n (nI (i + 1 + 0)) (nI 0) f := by
      refine zl_inv (σ := zF) (fun n j s => lp_X7_tellItem_132 tl signs (nI e') E n (nI (i + 1 + j)) (nI j) s) (fun j s => xD (z_dl d (z_ll t (i + 1) j)) (nI j) c k s) (e' - (i + 1)) ?_ ?_ 0 f (Nat.zero_le _) ⟨rfl, hD.2.1, hD.2.2.1, fun j hj => absurd hj (Nat.not_lt_zero _)⟩
      · intro n s hs
        rw [lp_X7_tellItem_132]
        refine zb_t (by rw [zn_le (by omega) (by omega)]; omega) (hE _ _ ?_)
        rw [zn_add]
        exact h _ _ _ _ _ _ _ _ _ _ _ _ _ _ _ hR hs
      · intro n j s hj hs ih
        have hl := his.2.1 (i + 1 + j) (by omega) (by omega)
        have h30 := his.2.2
        unfold z_lt at hl
        rw [lp_X7_tellItem_132]
        refine zb_f (by rw [zn_le (by omega) (by omega)]; omega) ?_
        unfold wp_X6_length
        refine sx_signAt hT hx (by omega) ?_
        rw [z_tx_in (by omega), zn_sub (by omega)]
        have hll := z_ll_len t (i + 1) j
        refine sx_putIn (f := z_at (z_dl d (z_ll t (i + 1) j))) (by omega) (Nat.le_refl _) (fun a ha => hs.2.2.2 a (by show a < (z_ll t (i + 1) j).length; omega)) (fun line' hline => ?_)
        rintro _ rfl
        rw [zn_add]
        refine ih _ ⟨?_, hs.2.1, hs.2.2.1, fun a ha => ?_⟩
        · show nI (j + 1) = nI (z_ll t (i + 1) (j + 1)).length
          rw [z_ll_len]
        · have ha : a < (z_ll t (i + 1) (j + 1)).length := ha
          rw [z_ll_len] at ha
          rw [hline a (by omega)]
          show _ = nI (z_at (z_dl d (z_ll t (i + 1) j ++ [t (i + 1 + j) - 97])) a)
          rw [z_dl_at, hll]
          by_cases z : a < j
          · rw [if_pos z, if_pos z]
          · rw [if_neg z, if_neg z, if_pos (by omega), if_pos (by omega)]
    exact key
theorem sx_layText {m : Nat} {t : Nat → Nat} {tl kI nu pn ph l an fi lo pl pb fo : Int32} {signs P F Wh T B pf pla pw c k f on ta ps : zF} {K : Int32 → Int32 → Int32 → zF → zF → zF → zF → zF → Int32 → zF → zF → zF → Int32 → zF → zF → zF → Int32 → Int32 → Int32 → zF → zF → Int32 → Int32 → zF → Int32 → Prop} (hT : zT m t) (hx : xT m t tl signs) (hok : ¬ (z_sF m t).1 < m) (h1 : 1 ≤ z_nR (z_sF m t).2.1)
    (h : ∀ (nu' pn' ph' l' fi' lo' pl' pb' : Int32) (P' F' Wh' T' B' pf' pla' pw' c' k' f' on' ta' ps' : zF), xR (z_sF m t).2.1 nu' pn' P' F' Wh' T' B' → xD (z_sF m t).2.2 l' c' k' f' → xS (z_sF m t).2.1 (z_knd (z_sF m t).2.2) fi' lo' on' ta' → xP (z_sF m t).2.1 (z_sF m t).2.2 pl' pb' ps' → K (nI 0) nu' pn' P' F' Wh' T' B' ph' pf' pla' pw' l' c' k' f' (nI 0) fi' lo' on' ta' pl' pb' ps' (nI 0)) : wp_X9_layText kI tl signs nu pn P F Wh T B ph pf pla pw l c k f an fi lo on ta pl pb ps fo K := by
  have hmm := hT.1
  have hlen := hx.1
  unfold wp_X9_layText wp_X4_clear wp_X6_clear
  refine sx_fill (by omega) (fun c0 hc0 => sx_fill (by omega) (fun k0 hk0 => ?_))
  intro E hE
  have fin : ∀ (kk : Nat) (nu' pn' ph' l' : Int32) (P' F' Wh' T' B' pf' pla' pw' c' k' f' : zF), kk ≤ 200 → m ≤ (z_sq m t kk).1 → xR (z_sq m t kk).2.1 nu' pn' P' F' Wh' T' B' → xD (z_sq m t kk).2.2 l' c' k' f' → E nu' pn' P' F' Wh' T' B' ph' pf' pla' pw' l' c' k' f' := by
    intro kk nu' pn' ph' l' P' F' Wh' T' B' pf' pla' pw' c' k' f' hk2 hm2 a1 a2
    have e1 := z_sF_f hk2 (z_vi_end hm2)
    rw [← e1] at a1 a2
    obtain ⟨hW, hd, -⟩ := z_sq_W m t 200
    have hW : zW0 (z_sF m t).2.1 := hW
    have hd : zE (z_sF m t).2.2 := hd
    apply hE
    unfold wp_X0_forget
    exact sx_rules (hW.w h1) a1 hd a2 (fun fi' lo' on' ta' pl' pb' ps' b1 b2 => h _ _ _ _ _ _ _ _ _ _ _ _ _ _ _ _ _ _ _ _ _ _ a1 a2 b1 b2)
  have key : ∃ n, lp_X9_layText_18 tl signs E n (nI (z_sq m t 0).1) (nI 0) (nI 0) (nI 0) P F Wh T B ph pf pla pw (nI 0) c0 k0 f := by
    refine zl_inv (σ := Int32 × Int32 × zF × zF × zF × zF × zF × Int32 × zF × zF × zF × Int32 × zF × zF × zF) (fun n kk s => lp_X9_layText_18 tl signs E n (nI (z_sq m t kk).1) (nI kk) s.1 s.2.1 s.2.2.1 s.2.2.2.1 s.2.2.2.2.1 s.2.2.2.2.2.1 s.2.2.2.2.2.2.1 s.2.2.2.2.2.2.2.1 s.2.2.2.2.2.2.2.2.1 s.2.2.2.2.2.2.2.2.2.1 s.2.2.2.2.2.2.2.2.2.2.1 s.2.2.2.2.2.2.2.2.2.2.2.1 s.2.2.2.2.2.2.2.2.2.2.2.2.1 s.2.2.2.2.2.2.2.2.2.2.2.2.2.1 s.2.2.2.2.2.2.2.2.2.2.2.2.2.2) (fun kk s => kk ≤ (z_sq m t kk).1 ∧ xR (z_sq m t kk).2.1 s.1 s.2.1 s.2.2.1 s.2.2.2.1 s.2.2.2.2.1 s.2.2.2.2.2.1 s.2.2.2.2.2.2.1 ∧ xD (z_sq m t kk).2.2 s.2.2.2.2.2.2.2.2.2.2.2.1 s.2.2.2.2.2.2.2.2.2.2.2.2.1 s.2.2.2.2.2.2.2.2.2.2.2.2.2.1 s.2.2.2.2.2.2.2.2.2.2.2.2.2.2) 200 ?_ ?_ 0 (nI 0, nI 0, P, F, Wh, T, B, ph, pf, pla, pw, nI 0, c0, k0, f) (Nat.zero_le _) ⟨Nat.zero_le _, ⟨rfl, rfl, fun r hr => absurd hr (Nat.not_lt_zero _), fun p hp => absurd hp (Nat.not_lt_zero _)⟩, ⟨rfl, fun j hj => hc0 j hj, fun r hr => hk0 r hr, fun j hj => absurd hj (Nat.not_lt_zero _)⟩⟩
    · rintro n ⟨s1, s2, s3, s4, s5, s6, s7, s8, s9, u1, u2, u3, u4, u5, u6⟩ ⟨g1, g2, g3⟩
      show lp_X9_layText_18 tl signs E (n + 1) (nI (z_sq m t 200).1) (nI 200) s1 s2 s3 s4 s5 s6 s7 s8 s9 u1 u2 u3 u4 u5 u6
      rw [lp_X9_layText_18]
      exact zb_t (by rw [zn_le (by omega) (by omega)]; omega) (fin 200 _ _ _ _ _ _ _ _ _ _ _ _ _ _ _ (by omega) (by omega) g2 g3)
    · rintro n kk ⟨s1, s2, s3, s4, s5, s6, s7, s8, s9, u1, u2, u3, u4, u5, u6⟩ hk ⟨g1, g2, g3⟩ ih
      have g2 : xR (z_sq m t kk).2.1 s1 s2 s3 s4 s5 s6 s7 := g2
      have g3 : xD (z_sq m t kk).2.2 u3 u4 u5 u6 := g3
      obtain ⟨hW, hd, him⟩ := z_sq_W m t kk
      show lp_X9_layText_18 tl signs E (n + 1) (nI (z_sq m t kk).1) (nI kk) s1 s2 s3 s4 s5 s6 s7 s8 s9 u1 u2 u3 u4 u5 u6
      rw [lp_X9_layText_18]
      refine zb_f (by rw [zn_le (by omega) (by omega)]; omega) ?_
      unfold wp_X7_length
      rcases Nat.lt_or_ge (z_sq m t kk).1 m with q | q
      · refine zb_f (by rw [hlen, zn_le (by omega) (by omega)]; omega) ?_
        have hex : ∃ e, z_vi m t (z_sq m t kk).2.1 (z_sq m t kk).1 e := by
          apply Classical.byContradiction
          intro hn
          have e1 := z_sF_f (k := kk) (by omega) (fun e he => hn ⟨e, he⟩)
          rw [e1] at hok
          exact hok q
        obtain ⟨e, he⟩ := hex
        have e5 := z_sq_t he
        have e6 := z_vi_lt he
        refine sx_tellItem hT hx he g2 hd g3 (fun nu' pn' ph' l' P' F' Wh' T' B' pf' pl' pw' c' k' f' a1 a2 => ?_)
        rintro _ rfl
        rw [zn_add]
        have h9 := ih (nu', pn', P', F', Wh', T', B', ph', pf', pl', pw', l', c', k', f') ⟨by rw [e5]; show kk + 1 ≤ e + 1; omega, by rw [e5]; exact a1, by rw [e5]; exact a2⟩
        have h9 : lp_X9_layText_18 tl signs E n (nI (z_sq m t (kk + 1)).1) (nI (kk + 1)) nu' pn' P' F' Wh' T' B' ph' pf' pl' pw' l' c' k' f' := h9
        rw [e5] at h9
        exact h9
      · exact zb_t (by rw [hlen, zn_le (by omega) (by omega)]; exact q) (fin kk _ _ _ _ _ _ _ _ _ _ _ _ _ _ _ (by omega) q g2 g3)
  exact key
