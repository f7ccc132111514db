/-! lay, both sides -/
theorem zO_lay {m : Nat} {q : zR} {n kn : Nat} {hs : Nat → zD} {t : Nat → Nat} {kI tl rs ps0 nu pn ph l an fi lo pl pb fo rules places nR nP acts kept len next place w pa : Int32} {signs P F Wh T B pf pla pw c k f on ta ps rule takes behind nr nT nB ns s text Fi La Ma : zF} (hT : zT m t) (hx : xT m t tl signs) (hmT : mT m t len text) (hq : zW q) (hn : n ≤ 8) (hE : ∀ i, i ≤ n → zE (hs i)) (hkI : kI = nI kn) (han : an = nI n) (hac : acts = nI n) (hke : kept = nI kn) (hR : xR q nu pn P F Wh T B) (hD : xD (hs n) l c k f) (hS : xS q (z_knd (hs n)) fi lo on ta) (hP : xP q (hs n) pl pb ps) (hM : mR q rules places rule takes behind) (hm : mH n hs s) :
    ∃ (r : Int32) (q' : zR) (n' kn' : Nat) (hs' : Nat → zD), zW q' ∧ n' ≤ 8 ∧ (∀ i, i ≤ n' → zE (hs' i)) ∧ ((n' = 0 ∧ kn' = 0) ∨ (n' = n ∧ hs' = hs ∧ kn' = kn)) ∧
      (∀ K : Int32 → Int32 → Int32 → Int32 → Int32 → Int32 → zF → zF → zF → zF → zF → Int32 → zF → zF → zF → Int32 → zF → zF → zF → Int32 → Int32 → Int32 → zF → zF → Int32 → Int32 → zF → Int32 → Prop, (∀ (rs' ps0' nu' pn' ph' l' fi' lo' pl' pb' fo' : Int32) (P' F' Wh' T' B' pf' pla' pw' c' k' f' on' ta' ps' : zF), xR q' nu' pn' P' F' Wh' T' B' → xD (hs' n') l' c' k' f' → xS q' (z_knd (hs' n')) fi' lo' on' ta' → xP q' (hs' n') pl' pb' ps' → ((fo' = fo ∧ q' = q ∧ z_knd (hs' n') = z_knd (hs n)) ∨ fo' = nI 0) → K r (nI kn') rs' ps0' nu' pn' P' F' Wh' T' B' ph' pf' pla' pw' l' c' k' f' (nI n') fi' lo' on' ta' pl' pb' ps' fo') → wp_X9_lay kI tl rs ps0 signs nu pn P F Wh T B ph pf pla pw l c k f an fi lo on ta pl pb ps fo K) ∧
      ∀ K : Int32 → Int32 → Int32 → Int32 → Int32 → Int32 → Int32 → Int32 → Int32 → Int32 → Int32 → zF → zF → zF → zF → zF → zF → zF → zF → zF → zF → zF → Prop, (∀ (rules' places' nR' nP' next' place' w' pa' : Int32) (rule' takes' behind' nr' nT' nB' ns' s' Fi' La' Ma' : zF), mR q' rules' places' rule' takes' behind' → mH n' hs' s' → (∀ j, 549 ≤ j → s' j = s j) → K r rules' places' nR' nP' (nI n') (nI kn') next' place' w' pa' rule' takes' behind' nr' nT' nB' ns' s' Fi' La' Ma') → wp_X10_lay rules places nR nP acts kept len next place w pa rule takes behind nr nT nB ns s text Fi La Ma K := by
  subst hkI
  subst han
  subst hac
  subst hke
  obtain ⟨hW, hd, -⟩ := z_sq_W m t 200
  have hW : zW0 (z_sF m t).2.1 := hW
  have hd : zE (z_sF m t).2.2 := hd
  have hR4 := hW.1
  have same : ((z_sF m t).1 < m ∨ z_nR (z_sF m t).2.1 = 0) → (∀ K : Int32 → Int32 → Int32 → Int32 → Int32 → Int32 → zF → zF → zF → zF → zF → Int32 → zF → zF → zF → Int32 → zF → zF → zF → Int32 → Int32 → Int32 → zF → zF → Int32 → Int32 → zF → Int32 → Prop, (∀ (rs' ps0' : Int32), K (-2) (nI kn) rs' ps0' nu pn P F Wh T B ph pf pla pw l c k f (nI n) fi lo on ta pl pb ps fo) → wp_X9_lay (nI kn) tl rs ps0 signs nu pn P F Wh T B ph pf pla pw l c k f (nI n) fi lo on ta pl pb ps fo K) ∧ ∀ K : Int32 → Int32 → Int32 → Int32 → Int32 → Int32 → Int32 → Int32 → Int32 → Int32 → Int32 → zF → zF → zF → zF → zF → zF → zF → zF → zF → zF → zF → Prop, (∀ (nR' nP' next' place' w' pa' : Int32) (nr' nT' nB' ns' Fi' La' Ma' : zF), K (-2) rules places nR' nP' (nI n) (nI kn) next' place' w' pa' rule takes behind nr' nT' nB' ns' s Fi' La' Ma') → wp_X10_lay rules places nR nP (nI n) (nI kn) len next place w pa rule takes behind nr nT nB ns s text Fi La Ma K := by
    intro hc
    refine ⟨fun K h => ?_, fun K h => ?_⟩
    · unfold wp_X9_lay
      refine sx_firstFault hT hx (fun e rs' ps' => zb_f2 (by rw [zn_eqm4 (by have := hT.1; omega)]; exact id) (h _ _)) (fun e ps' => zb_t2 rfl ?_)
      unfold wp_X7_rulesSeen
      refine zb_t2 (by rw [show z_nR (z_sF m t).2.1 = 0 by omega]; rfl) (h _ _)
    · unfold wp_X10_lay
      refine sp_reads hT hmT (fun e _ _ _ _ _ _ _ _ _ _ _ => zb_f2 zi_1 (h _ _ _ _ _ _ _ _ _ _ _ _ _)) (fun e _ _ _ _ _ _ _ _ _ _ _ _ a1 a2 => zb_t2 rfl ?_)
      rw [a1.1]
      refine zb_t2 (by rw [show z_nR (z_sF m t).2.1 = 0 by omega]; rfl) (h _ _ _ _ _ _ _ _ _ _ _ _ _)
  by_cases e1 : (z_sF m t).1 < m
  · obtain ⟨b1, b2⟩ := same (Or.inl e1)
    exact ⟨-2, q, n, kn, hs, hq, hn, hE, Or.inr ⟨rfl, rfl, rfl⟩, fun K h => b1 K (fun rs' ps0' => h _ _ _ _ _ _ _ _ _ _ _ _ _ _ _ _ _ _ _ _ _ _ _ _ _ hR hD hS hP (Or.inl ⟨rfl, rfl, rfl⟩)), fun K h => b2 K (fun _ _ _ _ _ _ _ _ _ _ _ _ _ => h _ _ _ _ _ _ _ _ _ _ _ _ _ _ _ _ _ _ _ hM hm (fun _ _ => rfl))⟩
  · by_cases e2 : z_nR (z_sF m t).2.1 = 0
    · obtain ⟨b1, b2⟩ := same (Or.inr e2)
      exact ⟨-2, q, n, kn, hs, hq, hn, hE, Or.inr ⟨rfl, rfl, rfl⟩, fun K h => b1 K (fun rs' ps0' => h _ _ _ _ _ _ _ _ _ _ _ _ _ _ _ _ _ _ _ _ _ _ _ _ _ hR hD hS hP (Or.inl ⟨rfl, rfl, rfl⟩)), fun K h => b2 K (fun _ _ _ _ _ _ _ _ _ _ _ _ _ => h _ _ _ _ _ _ _ _ _ _ _ _ _ _ _ _ _ _ _ hM hm (fun _ _ => rfl))⟩
    · refine ⟨nI (z_nR (z_sF m t).2.1), (z_sF m t).2.1, 0, 0, fun _ => (z_sF m t).2.2, hW.w (by omega), Nat.zero_le _, fun _ _ => hd, Or.inl ⟨rfl, rfl⟩, fun K h => ?_, fun K h => ?_⟩
      · unfold wp_X9_lay
        refine sx_firstFault hT hx (fun e rs' ps' => absurd e e1) (fun e pz => zb_t2 rfl ?_)
        unfold wp_X7_rulesSeen
        refine zb_f2 (by rw [zn_eq0 (by omega)]; exact e2) ?_
        refine sx_layText hT hx e1 (by omega) (fun nu' pn' ph' l' fi' lo' pl' pb' P' F' Wh' T' B' pf' pla' pw' c' k' f' on' ta' ps' a1 a2 a3 a4 => ?_)
        unfold wp_X4_number
        have hh := h (nI (z_nR (z_sF m t).2.1)) pz nu' pn' ph' l' fi' lo' pl' pb' (nI 0) P' F' Wh' T' B' pf' pla' pw' c' k' f' on' ta' ps' a1 a2 a3 a4 (Or.inr rfl)
        rw [← a1.1] at hh
        rw [← a1.1]
        exact hh
      · unfold wp_X10_lay
        refine sp_reads hT hmT (fun e _ _ _ _ _ _ _ _ _ _ _ => absurd e e1) (fun e nR' nP' x' pl' pa' nr' T' B' ns' F' L' W' a1 a2 => zb_t2 rfl ?_)
        refine zb_f2 (by rw [a1.1, zn_eq0 (by omega)]; exact e2) ?_
        refine sp_settles hR4 hW.2.1 hd a1 a2 (fun rule' takes' behind' s' c1 c2 c3 => ?_)
        have hh := h nR' nP' nR' nP' x' pl' (nI 0) pa' rule' takes' behind' nr' T' B' ns' s' F' L' W' c1 ⟨c2, fun i hi => absurd hi (Nat.not_lt_zero _)⟩ (fun j hj => c3 j (by omega))
        rw [a1.1] at hh ⊢
        exact hh
