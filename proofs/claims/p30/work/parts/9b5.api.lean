/-! the class's calls, by themselves -/
theorem sx_kind {d : zD} {c : zF} {j : Nat} {K : Int32 → Prop} (hc : ∀ j, j < 26 → c j = nI (z_cls d j)) (hj : j < 26) (h : K (nI (z_cls d j))) : wp_X9_kind c (nI j) K := by
  unfold wp_X9_kind
  exact sx_isLetter_t hj (zb_f zi_1 (sx_classOf hj (hc j hj) h))
theorem sx_letterIn {d : zD} {l : Int32} {c k f : zF} {j : Nat} {K : Int32 → Prop} (hd : zE d) (hD : xD d l c k f) (hj : j < z_len d) (h : K (nI (z_at d j))) : wp_X9_letter l f (nI j) K := by
  obtain ⟨rfl, -, -, hf⟩ := hD
  have hl : z_len d ≤ 30 := hd.2.2.1
  unfold wp_X9_letter
  refine sx_isPlace_t (by omega) (by omega) (zb_f2 zi_1 ?_)
  exact zb_f2 (by rw [zn_eq (by omega) (by omega)]; omega) (sx_letterAt hl (by omega) (hf j (by omega)) h)
theorem sx_letterEnd {d : zD} {l : Int32} {c k f : zF} {K : Int32 → Prop} (hd : zE d) (hD : xD d l c k f) (h : K (-4)) : wp_X9_letter l f (nI (z_len d)) K := by
  obtain ⟨rfl, -, -, hf⟩ := hD
  have hl : z_len d ≤ 30 := hd.2.2.1
  unfold wp_X9_letter
  exact sx_isPlace_t (by omega) (by omega) (zb_f2 zi_1 (zb_t2 rfl h))
theorem sx_letterOut {d : zD} {l : Int32} {c k f : zF} {K : Int32 → Prop} (hd : zE d) (hD : xD d l c k f) (h : K (-1)) : wp_X9_letter l f (nI (z_len d + 1)) K := by
  obtain ⟨rfl, -, -, hf⟩ := hD
  have hl : z_len d ≤ 30 := hd.2.2.1
  unfold wp_X9_letter
  exact sx_isPlace_f (by omega) (Or.inr ⟨z_len d + 1, Nat.le_refl _, by omega, rfl⟩) (zb_t2 zi_0 h)
theorem sx_rule {q : zR} {d : zD} {nu pn : Int32} {pl fi wh tk bh k : zF} {j w : Nat} (hq : zW q) (hR : xR q nu pn pl fi wh tk bh) (hk : ∀ r, r < 4 → k r = nI (z_knd d r)) (hj : j < z_nR q) (hw : w < 4) {r : Int32} {K : Int32 → Prop} (e0 : w = 0 → nI (z_knd d j) = r) (e1 : w = 1 → nI (z_of q j) = r) (e2 : w = 2 → nI (z_fst q j) = r) (e3 : w = 3 → nI (z_whl q j) = r) (h : K r) : wp_X9_rule nu pl fi wh k (nI j) (nI w) K := by
  obtain ⟨rfl, rfl, hr, -⟩ := hR
  have hn : z_nR q ≤ 4 := hq.2.1
  have h1 := hr j hj
  unfold wp_X9_rule
  refine sx_isRule_t (by omega) hj (zb_f zi_1 (zt_ler (by omega) (by omega) ?_))
  rw [zn_eq (by omega) (by omega), zn_eq (by omega) (by omega), zn_eq (by omega) (by omega)]
  refine ⟨fun e => sx_kindOf (by omega) (hk j (by omega)) (by rw [e0 e]; exact h), fun n0 => ⟨fun e => sx_placesOf hn hj h1.1 (by rw [e1 e]; exact h), fun n1 => ⟨fun e => sx_firstOf hn hj h1.2.1 (by rw [e2 e]; exact h), fun n2 => sx_wholeOf hn hj h1.2.2 (by rw [e3 (by omega)]; exact h)⟩⟩⟩
theorem sx_isBoundary {q : zR} {d : zD} {l pl pb : Int32} {c k f ps : zF} {j : Nat} {K : Int32 → Prop} (hd : zE d) (hD : xD d l c k f) (hP : xP q d pl pb ps) (hj : j ≤ z_len d) (h : K (nI (z_bd q d (z_knd d) 0 j).toNat)) : wp_X9_isBoundary l pb (nI j) K := by
  have hl : z_len d ≤ 30 := hd.2.2.1
  obtain ⟨rfl, -, -, -⟩ := hD
  obtain ⟨rfl, rfl, -⟩ := hP
  unfold wp_X9_isBoundary
  refine sx_isPlace_t (by omega) (by omega) (zb_f2 zi_1 (sx_hasBound hd (by omega) (fun e => ?_) (fun e => ?_)))
  · rw [e] at h; exact zb_f zi_1 h
  · rw [e] at h; exact zb_t zi_0 h
theorem sx_stand0 {d : zD} {l pl : Int32} {c k f ps : zF} {K : Int32 → Prop} (hd : zE d) (hD : xD d l c k f) (h : K (-4)) : wp_X9_stand l pl ps (nI 0) K := by
  have hl : z_len d ≤ 30 := hd.2.2.1
  obtain ⟨rfl, -, -, -⟩ := hD
  unfold wp_X9_stand
  exact sx_isPlace_t (by omega) (by omega) (zb_f2 zi_1 (zb_t2 rfl h))
theorem sx_stand {q : zR} {d : zD} {l pl pb : Int32} {c k f ps : zF} {i : Nat} {K : Int32 → Prop} (hd : zE d) (hD : xD d l c k f) (hP : xP q d pl pb ps) (hi : i < z_len d) (h : K (nI (z_st q d (z_knd d) 0 (i + 1)))) : wp_X9_stand l pl ps (nI (i + 1)) K := by
  have hl : z_len d ≤ 30 := hd.2.2.1
  obtain ⟨rfl, -, -, -⟩ := hD
  obtain ⟨rfl, rfl, hst⟩ := hP
  unfold wp_X9_stand
  refine sx_isPlace_t (by omega) (by omega) (zb_f2 zi_1 (zb_f2 (by rw [zn_eq0 (by omega)]; omega) ?_))
  exact sx_standAt hl (by omega) (hst i (by omega)) h
theorem sx_count {q : zR} {d : zD} {kI tl nu pn l an pl pb : Int32} {P F Wh T Bh c k f ps : zF} {j : Nat} (hd : zE d) (hR : xR q nu pn P F Wh T Bh) (hD : xD d l c k f) (hP : xP q d pl pb ps) (hj : j < 6) {r : Int32} {K : Int32 → Prop} (e0 : j = 0 → nI (z_nR q) = r) (e1 : j = 1 → nI (z_nP q) = r) (e2 : j = 2 → nI (z_len d) = r) (e3 : j = 3 → nI (z_ct (z_bd q d (z_knd d) 0) (z_len d)) = r) (e4 : j = 4 → an = r) (e5 : j = 5 → kI = r) (h : K r) : wp_X9_count kI tl nu pn l an pb (nI j) K := by
  obtain ⟨rfl, rfl, -⟩ := hR
  obtain ⟨rfl, -⟩ := hD
  obtain ⟨rfl, rfl, -⟩ := hP
  unfold wp_X9_count
  rw [zn_eq (by omega) (by omega), zn_eq (by omega) (by omega), zn_eq (by omega) (by omega), zn_eq (by omega) (by omega), zn_eq (by omega) (by omega), zn_eq (by omega) (by omega), zn_eq (by omega) (by omega)]
  refine ⟨fun e => by rw [e0 e]; exact h, fun n0 => ⟨fun e => by rw [e1 e]; exact h, fun n1 => ⟨fun e => by rw [e2 e]; exact h, fun n2 => ⟨fun e => sx_number hd (by rw [e3 e]; exact h), fun n3 => ⟨fun e => by rw [e4 e]; exact h, fun n4 => ⟨fun e => by rw [e5 e]; exact h, fun n5 => ⟨fun e => by omega, fun n6 => by omega⟩⟩⟩⟩⟩⟩⟩
/-- the class holds rules q, a history of n acts up to hs n -/
def xI (q : zR) (n : Nat) (hs : Nat → zD) (nu pn l fi lo pl pb : Int32) (P F Wh T Bh c k f A W B on ta ps : zF) : Prop := zW q ∧ n ≤ 8 ∧ (∀ i, i ≤ n → zE (hs i)) ∧ xR q nu pn P F Wh T Bh ∧ xD (hs n) l c k f ∧ xA n hs A W B ∧ xS q (z_knd (hs n)) fi lo on ta ∧ xP q (hs n) pl pb ps
theorem sx_insert {q : zR} {n a x : Nat} {hs : Nat → zD} {nu pn l fi lo pl pb : Int32} {P F Wh T Bh c k f A W B on ta ps : zF} {K : Int32 → Int32 → zF → Int32 → zF → zF → zF → Int32 → Int32 → zF → Prop} (hI : xI q n hs nu pn l fi lo pl pb P F Wh T Bh c k f A W B on ta ps) (ha : a ≤ z_len (hs n)) (hlt : z_len (hs n) < 30) (hx : x < 26)
    (h : ∀ (l' : Int32) (f' A' W' B' : zF) (pl' pb' : Int32) (ps' : zF), xI q (zh_n n) (zh_p n hs (zo_ins (hs n) a x)) nu pn l' fi lo pl' pb' P F Wh T Bh c k f' A' W' B' on ta ps' → K (nI (z_len (hs n) + 1)) l' f' (nI (zh_n n)) A' W' B' pl' pb' ps') : wp_X9_insert l c f (nI n) A W B fi lo on ta pl pb ps (nI a) (nI x) K := by
  obtain ⟨hq, hn, hE, hR, hD, hA, hS, hP⟩ := hI
  have hEn := hE n (Nat.le_refl _)
  have hl : l = nI (z_len (hs n)) := hD.1
  have hEi := hEn.ins (a := a) (x := x) (by omega) hlt hx
  unfold wp_X9_insert
  rw [hl]
  refine sx_isPlace_t (by omega) (by omega) (zb_f zi_1 ?_)
  refine sx_isLetter_t hx (zb_f2 zi_1 (zb_t (by rw [zn_lt (by omega) (by omega)]; exact hlt) ?_))
  refine sx_putIn hlt (by omega) hD.2.2.2 (fun f' hf' => ?_)
  refine sx_note hn hA (zA_ins (by omega) hlt hx) (fun A' W' B' hA' => ?_)
  have hD' := hD.ins (by omega) hf'
  refine sx_line hq hEi hD' hS (fun pl' pb' ps' hP' => h _ _ _ _ _ _ _ _ ⟨hq, zh_n_le hn, zh_p_E hE hEi, hR, ?_, hA', ?_, ?_⟩)
  · rw [zh_p_n]; exact hD'
  · rw [zh_p_n]; exact hS
  · rw [zh_p_n]; exact hP'
theorem sx_erase {q : zR} {n a : Nat} {hs : Nat → zD} {nu pn l fi lo pl pb : Int32} {P F Wh T Bh c k f A W B on ta ps : zF} {K : Int32 → Int32 → zF → Int32 → zF → zF → zF → Int32 → Int32 → zF → Prop} (hI : xI q n hs nu pn l fi lo pl pb P F Wh T Bh c k f A W B on ta ps) (ha : a < z_len (hs n))
    (h : ∀ (l' : Int32) (f' A' W' B' : zF) (pl' pb' : Int32) (ps' : zF), xI q (zh_n n) (zh_p n hs (zo_ers (hs n) a)) nu pn l' fi lo pl' pb' P F Wh T Bh c k f' A' W' B' on ta ps' → K (nI (z_at (hs n) a)) l' f' (nI (zh_n n)) A' W' B' pl' pb' ps') : wp_X9_erase l c f (nI n) A W B fi lo on ta pl pb ps (nI a) K := by
  obtain ⟨hq, hn, hE, hR, hD, hA, hS, hP⟩ := hI
  have hEn := hE n (Nat.le_refl _)
  have hl30 : z_len (hs n) ≤ 30 := hEn.2.2.1
  have hl : l = nI (z_len (hs n)) := hD.1
  have hEi := hEn.ers a
  unfold wp_X9_erase
  rw [hl]
  refine zt_lt (by omega) ha ?_
  refine sx_letterAt hl30 ha (hD.2.2.2 a ha) ?_
  refine sx_takeOut hl30 ha hD.2.2.2 (fun f' hf' => ?_)
  refine sx_note hn hA (zA_ers hEn ha) (fun A' W' B' hA' => ?_)
  have hD' := hD.ers ha hf'
  refine sx_line hq hEi hD' hS (fun pl' pb' ps' hP' => h _ _ _ _ _ _ _ _ ⟨hq, zh_n_le hn, zh_p_E hE hEi, hR, ?_, hA', ?_, ?_⟩)
  · rw [zh_p_n]; exact hD'
  · rw [zh_p_n]; exact hS
  · rw [zh_p_n]; exact hP'
theorem sx_tellNo {q : zR} {n a x : Nat} {hs : Nat → zD} {nu pn l fi lo pl pb : Int32} {P F Wh T Bh c k f A W B on ta ps : zF} {K : Int32 → zF → Int32 → zF → zF → zF → Int32 → Int32 → zF → Prop} (hI : xI q n hs nu pn l fi lo pl pb P F Wh T Bh c k f A W B on ta ps) (ha : a < 26) (hx : x < 6) (e : z_cls (hs n) a = x)
    (h : K (-2) c (nI n) A W B pl pb ps) : wp_X9_tell l c f (nI n) A W B fi lo on ta pl pb ps (nI a) (nI x) K := by
  obtain ⟨hq, hn, hE, hR, hD, hA, hS, hP⟩ := hI
  unfold wp_X9_tell
  refine sx_isLetter_t ha (zb_f zi_1 (sx_isClass_t hx (zb_f2 zi_1 (sx_classOf ha (hD.2.1 a ha) ?_))))
  exact zb_t2 (by rw [e]) h
theorem sx_tell {q : zR} {n a x : Nat} {hs : Nat → zD} {nu pn l fi lo pl pb : Int32} {P F Wh T Bh c k f A W B on ta ps : zF} {K : Int32 → zF → Int32 → zF → zF → zF → Int32 → Int32 → zF → Prop} (hI : xI q n hs nu pn l fi lo pl pb P F Wh T Bh c k f A W B on ta ps) (ha : a < 26) (hx : x < 6) (e : ¬ z_cls (hs n) a = x)
    (h : ∀ (c' A' W' B' : zF) (pl' pb' : Int32) (ps' : zF), xI q (zh_n n) (zh_p n hs (zo_tel (hs n) a x)) nu pn l fi lo pl' pb' P F Wh T Bh c' k f A' W' B' on ta ps' → K (nI (z_cls (hs n) a)) c' (nI (zh_n n)) A' W' B' pl' pb' ps') : wp_X9_tell l c f (nI n) A W B fi lo on ta pl pb ps (nI a) (nI x) K := by
  obtain ⟨hq, hn, hE, hR, hD, hA, hS, hP⟩ := hI
  have hEn := hE n (Nat.le_refl _)
  have hca := hEn.1 a ha
  have hEi := hEn.tel (l := a) hx
  unfold wp_X9_tell
  refine sx_isLetter_t ha (zb_f zi_1 (sx_isClass_t hx (zb_f2 zi_1 (sx_classOf ha (hD.2.1 a ha) ?_))))
  refine zb_f2 (by rw [zn_eq (by omega) (by omega)]; exact e) (sx_setClass ha ?_)
  refine sx_note hn hA (zA_tel (x := x) hEn ha) (fun A' W' B' hA' => ?_)
  have hD' := hD.tel a x
  refine sx_line hq hEi hD' hS (fun pl' pb' ps' hP' => h _ _ _ _ _ _ _ ⟨hq, zh_n_le hn, zh_p_E hE hEi, hR, ?_, hA', ?_, ?_⟩)
  · rw [zh_p_n]; exact hD'
  · rw [zh_p_n]; exact hS
  · rw [zh_p_n]; exact hP'
theorem sx_renameNo {q : zR} {n a x : Nat} {hs : Nat → zD} {nu pn l fi lo pl pb fo : Int32} {P F Wh T Bh c k f A W B on ta ps : zF} {K : Int32 → zF → Int32 → zF → zF → zF → Int32 → Int32 → zF → zF → Int32 → Int32 → zF → Int32 → Prop} (hI : xI q n hs nu pn l fi lo pl pb P F Wh T Bh c k f A W B on ta ps) (ha : a < z_nR q) (hx : x < 4) (e : z_knd (hs n) a = x)
    (h : K (-2) k (nI n) A W B fi lo on ta pl pb ps fo) : wp_X9_rename nu pn P F Wh T Bh l c k f (nI n) A W B fi lo on ta pl pb ps fo (nI a) (nI x) K := by
  obtain ⟨hq, hn, hE, hR, hD, hA, hS, hP⟩ := hI
  have hn4 : z_nR q ≤ 4 := hq.2.1
  have hnu : nu = nI (z_nR q) := hR.1
  unfold wp_X9_rename
  rw [hnu]
  refine sx_isRule_t (by omega) ha (zb_f zi_1 (zt_lt (by omega) hx (sx_kindOf (by omega) (hD.2.2.1 a (by omega)) ?_)))
  exact zb_t2 (by rw [e]) h
theorem sx_rename {q : zR} {n a x : Nat} {hs : Nat → zD} {nu pn l fi lo pl pb fo : Int32} {P F Wh T Bh c k f A W B on ta ps : zF} {K : Int32 → zF → Int32 → zF → zF → zF → Int32 → Int32 → zF → zF → Int32 → Int32 → zF → Int32 → Prop} (hI : xI q n hs nu pn l fi lo pl pb P F Wh T Bh c k f A W B on ta ps) (ha : a < z_nR q) (hx : x < 4) (e : ¬ z_knd (hs n) a = x)
    (h : ∀ (k' A' W' B' : zF) (fi' lo' : Int32) (on' ta' : zF) (pl' pb' : Int32) (ps' : zF) (fo' : Int32), xI q (zh_n n) (zh_p n hs (zo_ren (hs n) a x)) nu pn l fi' lo' pl' pb' P F Wh T Bh c k' f A' W' B' on' ta' ps' → K (nI (z_knd (hs n) a)) k' (nI (zh_n n)) A' W' B' fi' lo' on' ta' pl' pb' ps' fo') : wp_X9_rename nu pn P F Wh T Bh l c k f (nI n) A W B fi lo on ta pl pb ps fo (nI a) (nI x) K := by
  obtain ⟨hq, hn, hE, hR, hD, hA, hS, hP⟩ := hI
  have hEn := hE n (Nat.le_refl _)
  have hn4 : z_nR q ≤ 4 := hq.2.1
  have hnu : nu = nI (z_nR q) := hR.1
  have hca := hEn.2.1 a (by omega)
  have hEi := hEn.ren (r := a) hx
  have hR' := hR
  unfold wp_X9_rename
  rw [hnu] at hR ⊢
  refine sx_isRule_t (by omega) ha (zb_f zi_1 (zt_lt (by omega) hx (sx_kindOf (by omega) (hD.2.2.1 a (by omega)) ?_)))
  refine zb_f2 (by rw [zn_eq (by omega) (by omega)]; exact e) (sx_setKind (by omega) ?_)
  refine sx_note hn hA (zA_ren (x := x) hEn (by omega)) (fun A' W' B' hA' => ?_)
  have hD' := hD.ren a x
  refine sx_rules hq hR hEi hD' (fun fi' lo' on' ta' pl' pb' ps' hS' hP' => h _ _ _ _ _ _ _ _ _ _ _ _ ⟨hq, zh_n_le hn, zh_p_E hE hEi, hR', ?_, hA', ?_, ?_⟩)
  · rw [zh_p_n]; exact hD'
  · rw [zh_p_n]; exact hS'
  · rw [zh_p_n]; exact hP'
theorem sx_undo {q : zR} {n : Nat} {hs : Nat → zD} {nu pn l fi lo pl pb fo : Int32} {P F Wh T Bh c k f A W B on ta ps : zF} {K : Int32 → Int32 → zF → zF → zF → Int32 → Int32 → Int32 → zF → zF → Int32 → Int32 → zF → Int32 → Prop} (hI : xI q n hs nu pn l fi lo pl pb P F Wh T Bh c k f A W B on ta ps) (e : 0 < n)
    (h : ∀ (l' : Int32) (c' k' f' : zF) (fi' lo' : Int32) (on' ta' : zF) (pl' pb' : Int32) (ps' : zF) (fo' : Int32), xI q (n - 1) hs nu pn l' fi' lo' pl' pb' P F Wh T Bh c' k' f' A W B on' ta' ps' → K (nI (n - 1)) l' c' k' f' (nI (n - 1)) fi' lo' on' ta' pl' pb' ps' fo') : wp_X9_undo nu pn P F Wh T Bh l c k f (nI n) A W B fi lo on ta pl pb ps fo K := by
  obtain ⟨hq, hn, hE, hR, hD, hA, hS, hP⟩ := hI
  have hE1 := hE (n - 1) (by omega)
  have hE' : ∀ i, i ≤ n - 1 → zE (hs i) := fun i hi => hE i (by omega)
  have hA' : xA (n - 1) hs A W B := fun i hi => hA i (by omega)
  unfold wp_X9_undo wp_X0_number
  refine zb_f2 (by rw [zn_eq0 (by omega)]; omega) ?_
  refine sx_takeBack (by omega) hn hA hE hD (fun b l' c' k' f' hD' hb => ?_)
  intro J hJ
  rcases hb with ⟨rfl, hkk⟩ | rfl
  · refine zb_t zi_0 ?_
    rw [← hkk] at hS
    exact sx_line hq hE1 hD' hS (fun pl' pb' ps' hP' => hJ _ _ _ _ _ _ _ _ (h _ _ _ _ _ _ _ _ _ _ _ _ ⟨hq, by omega, hE', hR, hD', hA', hS, hP'⟩))
  · refine zb_f zi_1 ?_
    exact sx_rules hq hR hE1 hD' (fun fi' lo' on' ta' pl' pb' ps' hS' hP' => hJ _ _ _ _ _ _ _ _ (h _ _ _ _ _ _ _ _ _ _ _ _ ⟨hq, by omega, hE', hR, hD', hA', hS', hP'⟩))
theorem sx_write {m p : Nat} {t : Nat → Nat} {tl : Int32} {signs : zF} {K : Int32 → Int32 → zF → Prop} (hT : zT m t) (hx : xT m t tl signs) (hm : m < 200) (h1 : 32 ≤ p) (h2 : p ≤ 126) (h : ∀ (tl' : Int32) (signs' : zF), zT (m + 1) (z_up t m p) → xT (m + 1) (z_up t m p) tl' signs' → K (nI (m + 1)) tl' signs') : wp_X9_write tl signs (nI p) K := by
  obtain ⟨rfl, hx⟩ := hx
  have hT' : zT (m + 1) (z_up t m p) := by
    refine ⟨by omega, fun i hi => ?_⟩
    by_cases e : i = m
    · rw [e, zp_s]; exact ⟨h1, h2⟩
    · rw [zp_n e]; exact hT.2 i (by omega)
  unfold wp_X9_write wp_X7_length
  refine zb_f (by rw [zn_lt (by omega) (by omega)]; omega) (zb_t (by rw [zn_le (by omega) (by omega)]; omega) ?_)
  refine zb_t (by rw [zn_lt (by omega) (by omega)]; omega) ?_
  unfold wp_X7_add
  refine zb_f (by rw [zn_le (by omega) (by omega)]; omega) ?_
  rw [zn_in (by omega), zn_cl (by omega)]
  refine ⟨by omega, ?_⟩
  rintro _ rfl
  rintro _ rfl
  rw [zn_add]
  refine h _ _ hT' ⟨rfl, fun i hi => zu_up (fun e => hx i (by omega))⟩
theorem sx_wipe {t : Nat → Nat} {tl : Int32} {signs : zF} {K : Int32 → Int32 → Prop} (h : xT 0 t (nI 0) signs → K tl (nI 0)) : wp_X9_wipe tl K := h ⟨rfl, fun i hi => absurd hi (Nat.not_lt_zero _)⟩
theorem sx_lay {m : Nat} {t : Nat → Nat} {kI tl rs ps0 nu pn ph l an fi lo pl pb fo : Int32} {signs P F Wh T B pf pla pw c k f on ta ps : zF} {K : Int32 → Int32 → Int32 → Int32 → Int32 → Int32 → zF → zF → zF → zF → zF → Int32 → zF → zF → zF → Int32 → zF → zF → zF → Int32 → Int32 → Int32 → zF → zF → Int32 → Int32 → zF → Int32 → Prop} (hT : zT m t) (hx : xT m t tl signs) (hm : (z_sF m t).1 = m) (h1 : 1 ≤ z_nR (z_sF m t).2.1)
    (h : ∀ (rs' ps0' nu' pn' ph' l' fi' lo' pl' pb' fo' : Int32) (P' F' Wh' T' B' pf' pla' pw' c' k' f' on' ta' ps' : zF), xR (z_sF m t).2.1 nu' pn' P' F' Wh' T' B' → xD (z_sF m t).2.2 l' c' k' f' → xS (z_sF m t).2.1 (z_knd (z_sF m t).2.2) fi' lo' on' ta' → xP (z_sF m t).2.1 (z_sF m t).2.2 pl' pb' ps' → K (nI (z_nR (z_sF m t).2.1)) (nI 0) rs' ps0' nu' pn' P' F' Wh' T' B' ph' pf' pla' pw' l' c' k' f' (nI 0) fi' lo' on' ta' pl' pb' ps' fo') : wp_X9_lay kI tl rs ps0 signs nu pn P F Wh T B ph pf pla pw l c k f an fi lo on ta pl pb ps fo K := by
  obtain ⟨hW, hd, -⟩ := z_sq_W m t 200
  have hW : zW0 (z_sF m t).2.1 := hW
  have hR4 := hW.1
  unfold wp_X9_lay
  refine sx_firstFault hT hx (fun e rs' ps' => by omega) (fun e pz => zb_t2 rfl ?_)
  unfold wp_X7_rulesSeen
  refine zb_f2 (by rw [zn_eq0 (by omega)]; omega) ?_
  refine sx_layText hT hx e (by omega) (fun nu' pn' ph' l' fi' lo' pl' pb' P' F' Wh' T' B' pf' pla' pw' c' k' f' on' ta' ps' a1 a2 a3 a4 => ?_)
  unfold wp_X4_number
  have hh := h (nI (z_nR (z_sF m t).2.1)) pz nu' pn' ph' l' fi' lo' pl' pb' (nI 0) P' F' Wh' T' B' pf' pla' pw' c' k' f' on' ta' ps' a1 a2 a3 a4
  rw [← a1.1] at hh
  rw [← a1.1]
  exact hh
