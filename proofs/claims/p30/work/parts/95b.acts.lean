theorem sx_note {n : Nat} {hs : Nat → zD} {A W B : Nat → Int32} {a w b : Nat} {d' : zD} {K : Int32 → (Nat → Int32) → (Nat → Int32) → (Nat → Int32) → Prop} (hn : n ≤ 8) (hA : xA n hs A W B) (hz : zA a w b (hs n) d')
    (h : ∀ A' W' B' : Nat → Int32, xA (zh_n n) (zh_p n hs d') A' W' B' → K (nI (zh_n n)) A' W' B') : wp_X0_note (nI n) A W B (nI a) (nI w) (nI b) K := by
  unfold wp_X0_note
  intro J hJ
  have fin : ∀ (m : Nat) (A1 W1 B1 : Nat → Int32), m ≤ 7 → m + 1 = zh_n n → zh_o n hs m = hs n → (∀ i, i < m → ∃ a w b, A1 i = nI a ∧ W1 i = nI w ∧ B1 i = nI b ∧ zA a w b (zh_o n hs i) (zh_o n hs (i + 1))) → J (nI m) A1 W1 B1 := by
    intro m A1 W1 B1 hm8 hmn h1 h2
    apply hJ
    rw [zn_in (by omega), zn_cl (by omega)]
    refine ⟨by omega, ?_⟩
    rintro _ rfl
    refine ⟨by omega, ?_⟩
    rintro _ rfl
    refine ⟨by omega, ?_⟩
    rintro _ rfl
    rintro _ rfl
    rw [zn_add, hmn]
    refine h _ _ _ (fun i hi => ?_)
    by_cases e : i = m
    · subst e
      refine ⟨a, w, b, zu_s, zu_s, zu_s, ?_⟩
      rw [zh_p_lt hs d' hi, h1, hmn, zh_p_n]
      exact hz
    · obtain ⟨a', w', b', e1, e2, e3, e4⟩ := h2 i (by omega)
      refine ⟨a', w', b', by rw [zu_n e]; exact e1, by rw [zu_n e]; exact e2, by rw [zu_n e]; exact e3, ?_⟩
      rw [zh_p_lt hs d' hi, zh_p_lt hs d' (by omega)]
      exact e4
  rw [zn_lt (by omega) (by omega)]
  refine ⟨fun e => ?_, fun e => ?_⟩
  · have e8 : ¬ n = 8 := by omega
    exact fin n A W B (by omega) (zh_n_S e8).symm (zh_o_S e8 hs n) (fun i hi => by rw [zh_o_S e8, zh_o_S e8]; exact hA i hi)
  · have e8 : n = 8 := by omega
    unfold wp_X0_dropOldest
    rw [zn_lt0 (by omega), zn_lt0 (by omega), zn_lt0 (by omega), zn_cl (by omega), zn_cl (by omega), zn_cl (by omega)]
    refine ⟨id, id, id, by omega, by omega, ?_⟩
    rintro _ rfl
    refine ⟨id, id, id, by omega, by omega, ?_⟩
    rintro _ rfl
    refine ⟨id, id, id, by omega, by omega, ?_⟩
    rintro _ rfl
    refine fin 7 _ _ _ (by omega) (zh_n_8 e8).symm (by rw [zh_o_8 e8, e8]) (fun i hi => ?_)
    obtain ⟨a', w', b', e1, e2, e3, e4⟩ := hA (i + 1) (by omega)
    refine ⟨a', w', b', ?_, ?_, ?_, ?_⟩
    · rw [pk_cpy_in (Nat.zero_le _) (by omega), show 1 + (i - 0) = i + 1 by omega]; exact e1
    · rw [pk_cpy_in (Nat.zero_le _) (by omega), show 1 + (i - 0) = i + 1 by omega]; exact e2
    · rw [pk_cpy_in (Nat.zero_le _) (by omega), show 1 + (i - 0) = i + 1 by omega]; exact e3
    · rw [zh_o_8 e8, zh_o_8 e8]; exact e4
theorem sx_takeBack {n : Nat} {hs : Nat → zD} {A W B : Nat → Int32} {l : Int32} {c k f : Nat → Int32} {K : Int32 → Int32 → Int32 → (Nat → Int32) → (Nat → Int32) → (Nat → Int32) → Prop} (h0 : 0 < n) (hn : n ≤ 8) (hA : xA n hs A W B) (hE : ∀ i, i ≤ n → zE (hs i)) (hD : xD (hs n) l c k f)
    (h : ∀ (b : Nat) (l' : Int32) (c' k' f' : Nat → Int32), xD (hs (n - 1)) l' c' k' f' → ((b = 0 ∧ z_knd (hs (n - 1)) = z_knd (hs n)) ∨ b = 1) → K (nI b) (nI (n - 1)) l' c' k' f') : wp_X0_takeBackFrom (nI n) A W B l c k f K := by
  obtain ⟨a, w, b, e1, e2, e3, e4⟩ := hA (n - 1) (by omega)
  have hEn := hE n (Nat.le_refl _)
  have hlen : z_len (hs n) ≤ 30 := hEn.2.2.1
  rw [show n - 1 + 1 = n by omega] at e4
  unfold wp_X0_takeBackFrom
  refine zb_t (by rw [zn_0lt (by omega)]; exact h0) ?_
  rintro _ rfl
  rw [zn_sub (by omega), zn_in (by omega), zn_cl (by omega), e1, e2, e3]
  refine ⟨by omega, ?_⟩
  rintro _ rfl
  refine ⟨by omega, ?_⟩
  rintro _ rfl
  refine ⟨by omega, ?_⟩
  rintro _ rfl
  have hD' := hD
  obtain ⟨rfl, hc, hk, hf⟩ := hD'
  rcases e4 with ⟨rfl, h1, h2, -⟩ | ⟨rfl, h1, h2, h3, h4⟩ | ⟨rfl, h1, h2, h3⟩ | ⟨rfl, h1, h2, h3⟩
  · refine zb_t rfl ?_
    refine sx_takeOut hlen h1 hf (fun f' hf' => ?_)
    refine h 0 _ _ _ _ ?_ (Or.inl ⟨rfl, by rw [h2]; rfl⟩)
    rw [h2]
    exact hD.ers h1 hf'
  · refine zb_f (by decide) (zb_t rfl ?_)
    refine sx_putIn h2 h1 hf (fun f' hf' => ?_)
    refine h 0 _ _ _ _ ?_ (Or.inl ⟨rfl, by rw [h4]; rfl⟩)
    rw [h4]
    exact hD.ins h1 hf'
  · refine zb_f (by decide) (zb_f (by decide) (zb_t rfl ?_))
    refine sx_setClass h1 ?_
    refine h 0 _ _ _ _ ?_ (Or.inl ⟨rfl, by rw [h3]; rfl⟩)
    rw [h3]
    exact hD.tel w b
  · refine zb_f (by decide) (zb_f (by decide) (zb_f (by decide) ?_))
    refine sx_setKind h1 ?_
    refine h 1 _ _ _ _ ?_ (Or.inr rfl)
    rw [h3]
    exact hD.ren w b
/-- what the pieces hold -/
def xP (q : zR) (d : zD) (length bounds : Int32) (stands : Nat → Int32) : Prop :=
  length = nI (z_len d) ∧ bounds = nI (z_bds q d (z_knd d) 0) ∧ ∀ k, k < z_len d → stands (k + 1) = nI (z_st q d (z_knd d) 0 (k + 1))
theorem zx_bgn0 (q : zR) (x : Nat) : (z_fa q &&& z_ta q x) ^^^ ((z_fa q &&& z_ta q x) &&& 0) = z_bgn q 0 x := by
  rw [Nat.and_zero, Nat.xor_zero, z_bgn_X]
theorem sx_line {q : zR} {d : zD} {l fi lo pl pb : Int32} {c k f on ta ps : Nat → Int32} {K : Int32 → Int32 → (Nat → Int32) → Prop} (hq : zW q) (hd : zE d) (hD : xD d l c k f) (hS : xS q (z_knd d) fi lo on ta)
    (h : ∀ (pl' pb' : Int32) (ps' : Nat → Int32), xP q d pl' pb' ps' → K pl' pb' ps') : wp_X9_lineHasChanged l c f fi lo on ta pl pb ps K := by
  unfold wp_X9_lineHasChanged
  exact sx_read (wo := 0) hq hd hd.2.1 hD hS (by omega) (fun x _ => zx_bgn0 q x) (fun st' hst => h _ _ _ ⟨rfl, rfl, hst⟩)
theorem sx_rules {q : zR} {d : zD} {nu pn l fi lo pl pb fo : Int32} {places firsts wholes taken behinds c k f on ta ps : Nat → Int32} {K : Int32 → Int32 → (Nat → Int32) → (Nat → Int32) → Int32 → Int32 → (Nat → Int32) → Int32 → Prop} (hq : zW q) (hR : xR q nu pn places firsts wholes taken behinds) (hd : zE d) (hD : xD d l c k f)
    (h : ∀ (fi' lo' : Int32) (on' ta' : Nat → Int32) (pl' pb' : Int32) (ps' : Nat → Int32), xS q (z_knd d) fi' lo' on' ta' → xP q d pl' pb' ps' → K fi' lo' on' ta' pl' pb' ps' (nI 0)) : wp_X9_rulesHaveChanged nu pn places firsts wholes taken behinds l c k f fi lo on ta pl pb ps fo K := by
  obtain ⟨rfl, rfl, hr, ht⟩ := hR
  unfold wp_X9_rulesHaveChanged
  refine sx_make hq hr ht hD.2.2.1 hd.2.1 (fun fi' lo' on' ta' hS => ?_)
  show wp_X9_lineHasChanged _ _ _ _ _ _ _ _ _ _ _
  exact sx_line hq hd hD hS (fun pl' pb' ps' hP => h _ _ _ _ _ _ _ hS hP)

