/-! the model's items -/
def z_ir (t : Nat → Nat) (q : zR) (i e : Nat) : Prop := i + 2 < e ∧ 48 ≤ t (i + 1) ∧ t (i + 1) ≤ 51 ∧ t (i + 2) = 44 ∧ z_vr t (i + 3) (e - (i + 3)) ∧ z_nR q < 4 ∧ z_nP q + z_ac t (i + 3) (e - (i + 3)) ≤ 10
def z_lt (t : Nat → Nat) (j : Nat) : Prop := 97 ≤ t j ∧ t j ≤ 122
def z_ic (t : Nat → Nat) (i e : Nat) : Prop := i + 3 < e ∧ 48 ≤ t (i + 1) ∧ t (i + 1) ≤ 53 ∧ t (i + 2) = 44 ∧ (∀ j, i + 3 ≤ j → j < e → z_lt t j) ∧ e - (i + 3) ≤ 26
def z_is (t : Nat → Nat) (i e : Nat) : Prop := i < e ∧ (∀ j, i + 1 ≤ j → j < e → z_lt t j) ∧ e - (i + 1) ≤ 30
theorem sp_ruleItem {m i : Nat} {q : zR} {d : zD} {t : Nat → Nat} {nR nP len pa : Int32} {text nr T B ns F L W : zF} {K : Int32 → Int32 → Int32 → Int32 → Int32 → zF → zF → zF → zF → zF → zF → zF → Prop} (hT : zT m t) (hx : mT m t len text) (hi : i < m) (hq4 : z_nR q ≤ 4) (hq10 : z_nP q ≤ 10) (hM : mR q nR nP nr T B) (hm : mD ns 0 d) (hl : z_len d ≤ 30)
    (h1 : ∀ e, e ≤ m → z_ir t q i e → ∀ (pa' nR' nP' : Int32) (nr' T' B' ns' F' L' W' : zF), mR (z_ad q t (i + 3) (e - (i + 3))) nR' nP' nr' T' B' → mD ns' 0 (z_dk d (z_nR q) (t (i + 1) - 48)) → K nR' nP' (nI e) (nI 0) pa' nr' T' B' ns' F' L' W')
    (h0 : (∀ e, e ≤ m → ¬ z_ir t q i e) → ∀ x : Int32, K nR nP x (nI 1) pa nr T B ns F L W) : wp_X10_ruleItem nR nP len (nI (i + 1)) (nI 0) pa nr T B ns text F L W K := by
  have hmm := hT.1
  obtain ⟨rfl, rfl, hr, ht⟩ := hM
  unfold wp_X10_ruleItem
  intro J hJ
  rw [zn_eq (by omega) (by omega)]
  refine ⟨fun e4 => hJ _ ⟨⟨rfl, rfl⟩, ?_⟩, fun e4 => hJ _ ⟨⟨rfl, rfl⟩, ?_⟩⟩
  · refine sp_figure (w := 0) hT hx (by omega) (by omega) (by omega) (fun _ f1 f2 f3 => ?_) (fun hf => ?_)
    · refine sp_comma (w := 0) hT hx (by omega) (by omega) (fun _ c1 c2 => ?_) (fun hc => ?_)
      · rw [show i + 1 + 1 + 1 = i + 3 from rfl]
        have c2 : t (i + 2) = 44 := c2
        intro E hE
        refine sp_rule38 hT hx (by omega) (fun N hv hN => hE _ _ _ ?_) (fun hn v x => hE _ _ _ ?_)
        · have hN16 := hv.2.2
          have bad : ¬ z_nP q + z_ac t (i + 3) N ≤ 10 → ∀ e, e ≤ m → ¬ z_ir t q i e := by
            intro hh e he hz
            have e2 := z_vr_uniq hv hz.2.2.2.2.1
            have hz2 := hz.2.2.2.2.2.2
            rw [← e2] at hz2
            exact hh hz2
          intro J2 hJ2 J3 hJ3
          have hac := z_ac_le t (i + 3) N
          rw [zn_add, zn_le (by omega) (by omega)]
          refine zb_t2 rfl ⟨fun e10 => hJ2 _ ⟨⟨rfl, rfl⟩, zb_t2 rfl ?_⟩, fun e10 => hJ3 (hJ2 _ ⟨⟨rfl, rfl⟩, zb_f2 zi_1 (h0 (bad e10) _)⟩)⟩
          show ∀ v6_15 : Int32, _ → _
          rintro _ rfl
          rw [zn_sub (by omega)]
          intro E2 hE2
          refine sp_rule250 hT hx (by omega) hN hv e10 ht (fun F' L' W' T' B' g1 g2 g3 => hE2 _ _ _ _ _ _ ?_)
          have hN1 : 1 ≤ N := by
            rcases Nat.lt_or_ge 0 N with z | z
            · exact z
            · have z2 := hv.2.1
              rw [show N = 0 by omega] at z2
              exact absurd (show (1 : Nat) = 0 from z2) (by decide)
          have hir : z_ir t q i (i + 3 + N) := by
            unfold z_ir
            rw [show i + 3 + N - (i + 3) = N by omega]
            exact ⟨by omega, f2, by omega, c2, hv, by omega, e10⟩
          have hh := h1 (i + 3 + N) hN hir
          rw [show i + 3 + N - (i + 3) = N by omega] at hh
          exact sp_ends (by omega) e10 hr hm hl g1 g2 g3 (fun nR' nP' nr' ns' k1 k2 => hh _ _ _ _ _ _ _ _ _ _ k1 k2)
        · have bad : ∀ e, e ≤ m → ¬ z_ir t q i e := by
            intro e he hz
            have hz1 := hz.1
            have hz5 := hz.2.2.2.2.1
            exact hn (e - (i + 3)) (by omega) hz5
          intro J2 hJ2 J3 hJ3
          exact zb_f2 zi_1 (hJ3 (hJ2 _ ⟨⟨rfl, rfl⟩, zb_f2 zi_1 (h0 bad _)⟩))
      · have bad : ∀ e, e ≤ m → ¬ z_ir t q i e := by
          intro e he hz
          have hz1 := hz.1
          exact hc ⟨rfl, by omega, hz.2.2.2.1⟩
        intro E hE
        refine ⟨1, ?_⟩
        rw [lp_X10_ruleItem_38]
        refine zb_f2 zi_1 (hE _ _ _ ?_)
        intro J2 hJ2 J3 hJ3
        exact zb_f2 zi_1 (hJ3 (hJ2 _ ⟨⟨rfl, rfl⟩, zb_f2 zi_1 (h0 bad _)⟩))
    · have bad : ∀ e, e ≤ m → ¬ z_ir t q i e := by
        intro e he hz
        have hz1 := hz.1
        exact hf ⟨rfl, by omega, hz.2.1, by have := hz.2.2.1; omega⟩
      refine sp_comma (w := 1) hT hx (by omega) (by omega) (fun w0 _ _ => by omega) (fun _ => ?_)
      intro E hE
      refine ⟨1, ?_⟩
      rw [lp_X10_ruleItem_38]
      refine zb_f2 zi_1 (hE _ _ _ ?_)
      intro J2 hJ2 J3 hJ3
      exact zb_f2 zi_1 (hJ3 (hJ2 _ ⟨⟨rfl, rfl⟩, zb_f2 zi_1 (h0 bad _)⟩))
  · have bad : ∀ e, e ≤ m → ¬ z_ir t q i e := by
      intro e he hz
      have := hz.2.2.2.2.2.1
      omega
    refine sp_figure (w := 1) hT hx (by omega) (by omega) (by omega) (fun w0 _ _ _ => by omega) (fun _ => ?_)
    refine sp_comma (w := 1) hT hx (by omega) (by omega) (fun w0 _ _ => by omega) (fun _ => ?_)
    intro E hE
    refine ⟨1, ?_⟩
    rw [lp_X10_ruleItem_38]
    refine zb_f2 zi_1 (hE _ _ _ ?_)
    intro J2 hJ2 J3 hJ3
    exact zb_f2 zi_1 (hJ3 (hJ2 _ ⟨⟨rfl, rfl⟩, zb_f2 zi_1 (h0 bad _)⟩))
theorem sp_isLetter {m j : Nat} {t : Nat → Nat} {len : Int32} {text : zF} {K : Int32 → Prop} (hT : zT m t) (hx : mT m t len text) (hj : j < 2147483648) (h1 : j < m → z_lt t j → K (nI 1)) (h0 : ¬ (j < m ∧ z_lt t j) → K (nI 0)) : wp_X10_isLetter len (nI j) text K := by
  unfold wp_X10_isLetter
  refine sp_letterAt hT hx hj (fun q => ?_) (fun q => ?_)
  · have htj := hT.2 j q
    exact sp_in_lo (by omega) (by omega) (by omega) (fun q1 q2 => ⟨rfl, h1 q ⟨q1, q2⟩⟩) (fun q1 => ⟨rfl, h0 (fun z => by have := z.2; unfold z_lt at this; omega)⟩)
  · exact sp_in_neg (by decide) (by omega) ⟨rfl, h0 (fun z => by omega)⟩
/-- letters of a class -/
def z_cs (t : Nat → Nat) (b x : Nat) (d : zD) : Nat → zD
  | 0 => d
  | n + 1 => zo_tel (z_cs t b x d n) (t (b + n) - 97) x
theorem z_cs_S (t : Nat → Nat) (b x : Nat) (d : zD) (n : Nat) : z_cs t b x d (n + 1) = zo_tel (z_cs t b x d n) (t (b + n) - 97) x := rfl
theorem z_cs_E {t : Nat → Nat} {b x : Nat} {d : zD} (hd : zE d) (hx : x < 6) : ∀ n, zE (z_cs t b x d n)
  | 0 => hd
  | n + 1 => (z_cs_E hd hx n).tel hx
theorem sp_class13 {m b x : Nat} {d : zD} {t : Nat → Nat} {len : Int32} {text ns : zF} {E : Int32 → Int32 → Int32 → zF → Prop} (hT : zT m t) (hx : mT m t len text) (hb : b ≤ 210) (hd : zE d) (hx6 : x < 6) (hm : mD ns 0 d)
    (h1 : ∀ N, N ≤ 26 → (N = 0 ∨ b + N ≤ m) → (∀ j, b ≤ j → j < b + N → z_lt t j) → ¬ (b + N < m ∧ z_lt t (b + N)) → ∀ ns' : zF, mD ns' 0 (z_cs t b x d N) → E (nI N) (nI (b + N)) (nI 0) ns')
    (h0 : b + 26 < m → (∀ j, b ≤ j → j < b + 27 → z_lt t j) → ∀ (v y : Int32) (ns' : zF), E v y (nI 1) ns') : ∃ n, lp_X10_classItem_13 len text (nI x) E n (nI 0) (nI b) (nI 0) ns := by
  have hmm := hT.1
  have key : ∃ n, lp_X10_classItem_13 len text (nI x) E (n + 1) (nI 0) (nI (b + 0)) (nI 0) ns := by
    refine zl_inv (σ := zF) (fun n i s => lp_X10_classItem_13 len text (nI x) E (n + 1) (nI i) (nI (b + i)) (nI 0) s) (fun i s => i ≤ 26 ∧ (i = 0 ∨ b + i ≤ m) ∧ (∀ j, b ≤ j → j < b + i → z_lt t j) ∧ mD s 0 (z_cs t b x d i)) 27 ?_ ?_ 0 ns (Nat.zero_le _) ⟨by omega, Or.inl rfl, fun j j1 j2 => by omega, hm⟩
    · rintro n s ⟨h, -⟩
      omega
    · rintro n i s hi ⟨g1, g2, g3, g4⟩ ih
      rw [lp_X10_classItem_13]
      refine zb_t2 rfl (sp_isLetter hT hx (by omega) (fun q1 q2 => zb_f zi_1 ?_) (fun q => zb_t rfl (h1 i g1 g2 g3 q s g4)))
      have ql : 97 ≤ t (b + i) ∧ t (b + i) ≤ 122 := q2
      intro J hJ
      rw [zn_eq (by omega) (by omega)]
      refine ⟨fun e => hJ _ ⟨⟨rfl, rfl⟩, ?_⟩, fun e => hJ _ ⟨⟨rfl, rfl⟩, ?_⟩⟩
      · refine sp_letterAt hT hx (by omega) (fun _ => ?_) (fun q => by omega)
        rw [zn_sub (by omega), zn_in (by omega), zn_cl (by omega)]
        refine zb_t rfl ⟨by omega, ?_⟩
        rintro _ rfl _ rfl _ rfl
        rw [zn_add, zn_add]
        refine ih _ ⟨by omega, Or.inr (by omega), fun j j1 j2 => ?_, ?_⟩
        · by_cases z : j = b + i
          · subst z; exact q2
          · exact g3 j j1 (by omega)
        · rw [z_cs_S]
          exact g4.tel (z_cs_E hd hx6 i) (by omega) rfl
      · refine sp_letterAt hT hx (by omega) (fun _ => ?_) (fun q => by omega)
        refine zb_f zi_1 (sp_letterAt hT hx (by omega) (fun _ => ?_) (fun q => by omega))
        rw [zn_sub (by omega), zn_in (by omega), zn_cl (by omega)]
        refine ⟨by omega, ?_⟩
        rintro _ rfl
        refine ⟨by omega, ?_⟩
        rintro _ rfl _ rfl _ rfl
        rw [lp_X10_classItem_13]
        subst e
        refine zb_f2 zi_1 (h0 q1 (fun j j1 j2 => ?_) _ _ _)
        by_cases z : j = b + 26
        · subst z; exact q2
        · exact g3 j j1 (by omega)
  obtain ⟨n, hn⟩ := key
  exact ⟨n + 1, hn⟩
theorem sp_classItem {m i : Nat} {d : zD} {t : Nat → Nat} {len : Int32} {text ns : zF} {K : Int32 → Int32 → zF → Prop} (hT : zT m t) (hx : mT m t len text) (hi : i < m) (hd : zE d) (hm : mD ns 0 d)
    (h1 : ∀ e, e ≤ m → z_ic t i e → ¬ (e < m ∧ z_lt t e) → ∀ ns' : zF, mD ns' 0 (z_cs t (i + 3) (t (i + 1) - 48) d (e - (i + 3))) → K (nI e) (nI 0) ns')
    (h0 : (∀ e, e < m → t e = 59 → ¬ z_ic t i e) → ∀ (y : Int32) (ns' : zF), K y (nI 1) ns') : wp_X10_classItem len (nI (i + 1)) (nI 0) ns text K := by
  have hmm := hT.1
  unfold wp_X10_classItem
  refine sp_figure (w := 0) hT hx (by omega) (by omega) (by omega) (fun _ f1 f2 f3 => ?_) (fun hf => ?_)
  · refine sp_comma (w := 0) hT hx (by omega) (by omega) (fun _ c1 c2 => ?_) (fun hc => ?_)
    · rw [show i + 1 + 1 + 1 = i + 3 from rfl]
      have c2 : t (i + 2) = 44 := c2
      intro E hE
      refine sp_class13 hT hx (by omega) hd (by omega) hm (fun N n1 n2 n3 n4 ns' n5 => hE _ _ _ _ ?_) (fun n1 n2 v y ns' => hE _ _ _ _ ?_)
      · rw [zn_eq0 (a := N) (by omega)]
        refine zb_t2 rfl ⟨fun e => ?_, fun e => ?_⟩
        · have hic : z_ic t i (i + 3 + N) := ⟨by omega, f2, by omega, c2, n3, by omega⟩
          have hh := h1 (i + 3 + N) (by omega) hic n4 ns'
          rw [show i + 3 + N - (i + 3) = N by omega] at hh
          exact hh n5
        · refine h0 (fun e' e1 e2 e3 => ?_) _ _
          have e31 := e3.1
          have := e3.2.2.2.2.1 (i + 3) (Nat.le_refl _) e31
          subst e
          exact n4 ⟨by omega, this⟩
      · refine zb_f2 zi_1 (h0 (fun e' e1 e2 e3 => ?_) _ _)
        rcases Nat.lt_or_ge e' (i + 3 + 27) with z | z
        · have e31 := e3.1
          have := n2 e' (by omega) z
          unfold z_lt at this
          omega
        · have := e3.2.2.2.2.2
          omega
    · have bad : ∀ e, e < m → t e = 59 → ¬ z_ic t i e := by
        intro e e1 e2 hz
        have := hz.1
        exact hc ⟨rfl, by omega, hz.2.2.2.1⟩
      intro E hE
      refine ⟨1, ?_⟩
      rw [lp_X10_classItem_13]
      exact zb_f2 zi_1 (hE _ _ _ _ (zb_f2 zi_1 (h0 bad _ _)))
  · have bad : ∀ e, e < m → t e = 59 → ¬ z_ic t i e := by
      intro e e1 e2 hz
      have := hz.1
      exact hf ⟨rfl, by omega, hz.2.1, by have := hz.2.2.1; omega⟩
    refine sp_comma (w := 1) hT hx (by omega) (by omega) (fun w0 _ _ => by omega) (fun _ => ?_)
    intro E hE
    refine ⟨1, ?_⟩
    rw [lp_X10_classItem_13]
    exact zb_f2 zi_1 (hE _ _ _ _ (zb_f2 zi_1 (h0 bad _ _)))
/-- a line of letters -/
def z_ll (t : Nat → Nat) (b : Nat) : Nat → List Nat
  | 0 => []
  | n + 1 => z_ll t b n ++ [t (b + n) - 97]
def z_dl (d : zD) (l : List Nat) : zD := (d.1, d.2.1, l)
theorem z_ll_len (t : Nat → Nat) (b : Nat) : ∀ n, (z_ll t b n).length = n
  | 0 => rfl
  | n + 1 => by
    show (z_ll t b n ++ [t (b + n) - 97]).length = _
    rw [List.length_append, z_ll_len t b n]; rfl
theorem z_dl_at (d : zD) (l : List Nat) (x j : Nat) : z_at (z_dl d (l ++ [x])) j = if j < l.length then z_at (z_dl d l) j else if j = l.length then x else 0 := by
  show (l ++ [x]).getD j 0 = if j < l.length then l.getD j 0 else _
  rw [List.getD_eq_getElem?_getD, List.getD_eq_getElem?_getD]
  by_cases e : j < l.length
  · rw [if_pos e, List.getElem?_append_left e]
  · rw [if_neg e, List.getElem?_append_right (by omega)]
    by_cases e2 : j = l.length
    · rw [if_pos e2, e2, Nat.sub_self]; rfl
    · rw [if_neg e2, List.getElem?_eq_none (by show 1 ≤ j - l.length; omega)]; rfl
theorem sp_addsLetter {d : zD} {l : List Nat} {x : Nat} {ns : zF} {K : zF → Prop} (hl : l.length < 30) (hx : x < 2147483648) (hm : mD ns 0 (z_dl d l)) (h : ∀ ns' : zF, mD ns' 0 (z_dl d (l ++ [x])) → K ns') : wp_X10_addsLetter ns (nI x) K := by
  have hz := hm.z
  have e30 : ns 30 = nI l.length := hz.2.2.1
  unfold wp_X10_addsLetter
  refine zb_f (nI_pos hx) ?_
  rw [zn_in (by omega), zn_cl (by omega), e30, zn_add, zn_in (by omega), zn_cl (by omega)]
  refine ⟨by omega, by omega, ?_⟩
  rintro _ rfl
  refine ⟨by omega, ?_⟩
  rintro _ rfl
  refine ⟨by omega, ?_⟩
  rintro _ rfl
  have e30' : upd ns (31 + l.length) (nI x) 30 = nI l.length := by rw [zu_n (by omega)]; exact e30
  rw [e30', zn_add]
  refine h _ ⟨fun j hj => ?_, fun r hr => ?_, ?_, fun j hj => ?_⟩
  · rw [zu_n (by omega), zu_n (by omega), Nat.zero_add]; exact hz.1 j hj
  · rw [zu_n (by omega), zu_n (by omega), Nat.zero_add]; exact hz.2.1 r hr
  · rw [zu_s]
    show nI (l.length + 1) = nI (l ++ [x]).length
    rw [List.length_append]; rfl
  · have hj : j < (l ++ [x]).length := hj
    rw [List.length_append] at hj
    have hj : j < l.length + 1 := hj
    rw [zu_n (by omega), z_dl_at]
    by_cases e : j = l.length
    · subst e
      rw [show 0 + 31 + l.length = 31 + l.length by omega, zu_s, if_neg (by omega), if_pos rfl]
    · rw [zu_n (by omega), if_pos (by omega), show 0 + 31 + j = 31 + j by omega]
      exact hz.2.2.2 j (by show j < l.length; omega)
theorem sp_lineItem {m i : Nat} {d : zD} {t : Nat → Nat} {len : Int32} {text ns : zF} {K : Int32 → Int32 → zF → Prop} (hT : zT m t) (hx : mT m t len text) (hi : i < m) (hd : zE d) (hm : mD ns 0 d)
    (h1 : ∀ e, e ≤ m → z_is t i e → ¬ (e < m ∧ z_lt t e) → ∀ ns' : zF, mD ns' 0 (z_dl d (z_ll t (i + 1) (e - (i + 1)))) → K (nI e) (nI 0) ns')
    (h0 : (∀ e, e < m → t e = 59 → ¬ z_is t i e) → ∀ (y : Int32) (ns' : zF), K y (nI 1) ns') : wp_X10_lineItem len (nI (i + 1)) (nI 0) ns text K := by
  have hmm := hT.1
  have hz := hm.z
  unfold wp_X10_lineItem
  rw [zn_in (by omega), zn_cl (by omega)]
  refine ⟨by omega, ?_⟩
  rintro _ rfl
  intro E hE
  have m0 : mD (upd ns 30 (nI 0)) 0 (z_dl d (z_ll t (i + 1) 0)) := by
    refine ⟨fun j hj => ?_, fun r hr => ?_, zu_s, fun j hj => absurd hj (Nat.not_lt_zero _)⟩
    · rw [zu_n (by omega), Nat.zero_add]; exact hz.1 j hj
    · rw [zu_n (by omega), Nat.zero_add]; exact hz.2.1 r hr
  have key : ∃ n, lp_X10_lineItem_8 len text E (n + 1) (nI (i + 1 + 0)) (nI 0) (upd ns 30 (nI 0)) := by
    refine zl_inv (σ := zF) (fun n k s => lp_X10_lineItem_8 len text E (n + 1) (nI (i + 1 + k)) (nI 0) s) (fun k s => k ≤ 30 ∧ i + 1 + k ≤ m ∧ (∀ j, i + 1 ≤ j → j < i + 1 + k → z_lt t j) ∧ mD s 0 (z_dl d (z_ll t (i + 1) k))) 31 ?_ ?_ 0 _ (Nat.zero_le _) ⟨by omega, by omega, fun j j1 j2 => by omega, m0⟩
    · rintro n s ⟨h, -⟩
      omega
    · rintro n k s hk ⟨g1, g2, g3, g4⟩ ih
      have e30 : s 30 = nI k := by
        have := g4.z.2.2.1
        rw [this]
        show nI (z_ll t (i + 1) k).length = _
        rw [z_ll_len]
      rw [lp_X10_lineItem_8]
      refine zb_t2 rfl (sp_isLetter hT hx (by omega) (fun q1 q2 => zb_f zi_1 ?_) (fun q => zb_t rfl (hE _ _ _ ?_)))
      · have ql : 97 ≤ t (i + 1 + k) ∧ t (i + 1 + k) ≤ 122 := q2
        rw [zn_in (by omega), zn_cl (by omega), e30]
        refine ⟨by omega, ?_⟩
        intro J hJ
        rw [zn_eq (by omega) (by omega)]
        refine ⟨fun e => hJ _ ⟨⟨rfl, rfl⟩, zb_t2 rfl ?_⟩, fun e => hJ _ ⟨⟨rfl, rfl⟩, zb_f2 zi_1 ?_⟩⟩
        · refine sp_letterAt hT hx (by omega) (fun _ => ?_) (fun q => by omega)
          rw [zn_sub (by omega)]
          refine sp_addsLetter (by rw [z_ll_len]; omega) (by omega) g4 (fun ns' hns => ?_)
          rintro _ rfl
          rw [zn_add]
          refine ih ns' ⟨by omega, by omega, fun j j1 j2 => ?_, hns⟩
          by_cases z : j = i + 1 + k
          · subst z; exact q2
          · exact g3 j j1 (by omega)
        · rintro _ rfl
          rw [lp_X10_lineItem_8]
          subst e
          refine zb_f2 zi_1 (hE _ _ _ (h0 (fun e' e1 e2 e3 => ?_) _ _))
          rcases Nat.lt_or_ge e' (i + 1 + 31) with z | z
          · have e31 := e3.1
            by_cases z2 : e' = i + 1 + 30
            · subst z2; omega
            · have := g3 e' (by omega) (by omega)
              unfold z_lt at this
              omega
          · have := e3.2.2
            omega
      · have his : z_is t i (i + 1 + k) := ⟨by omega, g3, by omega⟩
        have hh := h1 (i + 1 + k) g2 his q s
        rw [show i + 1 + k - (i + 1) = k by omega] at hh
        exact hh g4
  obtain ⟨n, hn⟩ := key
  exact ⟨n + 1, hn⟩
