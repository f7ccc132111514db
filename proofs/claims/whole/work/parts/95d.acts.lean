theorem zO_insert {q : zR} {n : Nat} {hs : Nat → zD} {l fi lo pl pb : Int32} {c k f A W B on ta ps s : zF} (hq : zW q) (hn : n ≤ 8) (hE : ∀ i, i ≤ n → zE (hs i)) (hD : xD (hs n) l c k f) (hA : xA n hs A W B) (hS : xS q (z_knd (hs n)) fi lo on ta) (hP : xP q (hs n) pl pb ps) (hm : mH n hs s) (p1 p2 : Int32) :
    ∃ (r : Int32) (n' : Nat) (hs' : Nat → zD), n' ≤ 8 ∧ (∀ i, i ≤ n' → zE (hs' i)) ∧ z_knd (hs' n') = z_knd (hs n) ∧ (∀ K : Int32 → Int32 → zF → Int32 → zF → zF → zF → Int32 → Int32 → zF → Prop, (∀ (l' : Int32) (f' A' W' B' : zF) (pl' pb' : Int32) (ps' : zF), xD (hs' n') l' c k f' → xA n' hs' A' W' B' → xP q (hs' n') pl' pb' ps' → K r l' f' (nI n') A' W' B' pl' pb' ps') → wp_X9_insert l c f (nI n) A W B fi lo on ta pl pb ps p1 p2 K) ∧ ∀ K : Int32 → Int32 → zF → Prop, (∀ s' : zF, mH n' hs' s' → (∀ j, 549 ≤ j → s' j = s j) → K r (nI n') s') → wp_X10_insert (nI n) s p1 p2 K := by
  have hEn := hE n (Nat.le_refl _)
  have hl30 : z_len (hs n) ≤ 30 := hEn.2.2.1
  have hz := hm.1.z
  have hl : l = nI (z_len (hs n)) := hD.1
  rcases zc_at p1 (z_len (hs n) + 1) with ⟨a, ha, -, rfl⟩ | ho
  · rcases zc_at p2 26 with ⟨x, hx, -, rfl⟩ | ho2
    · by_cases hlt : z_len (hs n) < 30
      · have hEi := hEn.ins (a := a) (x := x) (by omega) hlt hx
        refine ⟨nI (z_len (hs n) + 1), zh_n n, zh_p n hs (zo_ins (hs n) a x), zh_n_le hn, zh_p_E hE hEi, by rw [zh_p_n]; rfl, fun K h => ?_, fun K h => ?_⟩
        · rw [zh_p_n] at h
          unfold wp_X9_insert
          rw [hl]
          refine sx_isPlace_t (by omega) (by omega) (zb_f zi_1 ?_)
          refine sx_isLetter_t hx (zb_f2 zi_1 (zb_t (by rw [zn_lt (by omega) (by omega)]; exact hlt) ?_))
          refine sx_putIn hlt (by omega) hD.2.2.2 (fun f' hf' => ?_)
          refine sx_note hn hA (zA_ins (by omega) hlt hx) (fun A' W' B' hA' => ?_)
          have hD' := hD.ins (by omega) hf'
          exact sx_line hq hEi hD' hS (fun pl' pb' ps' hP' => h _ _ _ _ _ _ _ _ hD' hA' hP')
        · unfold wp_X10_insert
          refine sp_isPlace_t hz.2.2.1 (by omega) (by omega) (zb_f zi_1 ?_)
          refine sp_in_t (by omega) (by omega) (zb_f2 zi_1 ?_)
          rw [zn_in (by omega), zn_cl (by omega), hz.2.2.1]
          refine ⟨by omega, zb_f2 (by rw [zn_eq (by omega) (by omega)]; omega) ?_⟩
          refine sp_known hn hE hm (fun s' h0 hi hk => ?_)
          refine sp_puts hEn h0 (by omega) (by omega) hlt (by omega) (fun s2 hm2 hf2 _ => ?_)
          rw [hm2.z.2.2.1, z_len_ins x (by omega)]
          exact ⟨by omega, h s2 (mH_put hE hm2 hi (fun j hj => hf2 j (by omega))) (fun j hj => by rw [hf2 j (by omega), hk j hj])⟩
      · refine ⟨-3, n, hs, hn, hE, rfl, fun K h => ?_, fun K h => ?_⟩
        · have h := h _ _ _ _ _ _ _ _ hD hA hP
          unfold wp_X9_insert
          rw [hl] at h ⊢
          refine sx_isPlace_t (by omega) (by omega) (zb_f zi_1 ?_)
          exact sx_isLetter_t hx (zb_f2 zi_1 (zb_f (by rw [zn_lt (by omega) (by omega)]; exact hlt) h))
        · unfold wp_X10_insert
          refine sp_isPlace_t hz.2.2.1 (by omega) (by omega) (zb_f zi_1 ?_)
          refine sp_in_t (by omega) (by omega) (zb_f2 zi_1 ?_)
          rw [zn_in (by omega), zn_cl (by omega), hz.2.2.1]
          exact ⟨by omega, zb_t2 (by rw [zn_eq (by omega) (by omega)]; omega) (h s hm (fun _ _ => rfl))⟩
    · refine ⟨-1, n, hs, hn, hE, rfl, fun K h => ?_, fun K h => ?_⟩
      · have h := h _ _ _ _ _ _ _ _ hD hA hP
        unfold wp_X9_insert
        rw [hl] at h ⊢
        refine sx_isPlace_t (by omega) (by omega) (zb_f zi_1 ?_)
        exact sx_isLetter_f ho2 (zb_t2 zi_0 h)
      · unfold wp_X10_insert
        refine sp_isPlace_t hz.2.2.1 (by omega) (by omega) (zb_f zi_1 ?_)
        exact sp_in_f (by omega) ho2 (zb_t2 zi_0 (h s hm (fun _ _ => rfl)))
  · refine ⟨-1, n, hs, hn, hE, rfl, fun K h => ?_, fun K h => ?_⟩
    · have h := h _ _ _ _ _ _ _ _ hD hA hP
      unfold wp_X9_insert
      rw [hl] at h ⊢
      exact sx_isPlace_f (by omega) ho (zb_t zi_0 h)
    · unfold wp_X10_insert
      exact sp_isPlace_f hz.2.2.1 (by omega) ho (zb_t zi_0 (h s hm (fun _ _ => rfl)))
theorem zO_erase {q : zR} {n : Nat} {hs : Nat → zD} {l fi lo pl pb : Int32} {c k f A W B on ta ps s : zF} (hq : zW q) (hn : n ≤ 8) (hE : ∀ i, i ≤ n → zE (hs i)) (hD : xD (hs n) l c k f) (hA : xA n hs A W B) (hS : xS q (z_knd (hs n)) fi lo on ta) (hP : xP q (hs n) pl pb ps) (hm : mH n hs s) (p1 : Int32) :
    ∃ (r : Int32) (n' : Nat) (hs' : Nat → zD), n' ≤ 8 ∧ (∀ i, i ≤ n' → zE (hs' i)) ∧ z_knd (hs' n') = z_knd (hs n) ∧ (∀ K : Int32 → Int32 → zF → Int32 → zF → zF → zF → Int32 → Int32 → zF → Prop, (∀ (l' : Int32) (f' A' W' B' : zF) (pl' pb' : Int32) (ps' : zF), xD (hs' n') l' c k f' → xA n' hs' A' W' B' → xP q (hs' n') pl' pb' ps' → K r l' f' (nI n') A' W' B' pl' pb' ps') → wp_X9_erase l c f (nI n) A W B fi lo on ta pl pb ps p1 K) ∧ ∀ K : Int32 → Int32 → zF → Prop, (∀ s' : zF, mH n' hs' s' → (∀ j, 549 ≤ j → s' j = s j) → K r (nI n') s') → wp_X10_erase (nI n) s p1 K := by
  have hEn := hE n (Nat.le_refl _)
  have hl30 : z_len (hs n) ≤ 30 := hEn.2.2.1
  have hz := hm.1.z
  have hl : l = nI (z_len (hs n)) := hD.1
  rcases zc_at p1 (z_len (hs n)) with ⟨a, ha, -, rfl⟩ | ho
  · have hEi := hEn.ers a
    refine ⟨nI (z_at (hs n) a), zh_n n, zh_p n hs (zo_ers (hs n) a), zh_n_le hn, zh_p_E hE hEi, by rw [zh_p_n]; rfl, fun K h => ?_, fun K h => ?_⟩
    · rw [zh_p_n] at h
      unfold wp_X9_erase
      rw [hl]
      refine zt_lt (by omega) ha ?_
      refine sx_letterAt hl30 ha (hD.2.2.2 a ha) ?_
      refine sx_takeOut hl30 ha hD.2.2.2 (fun f' hf' => ?_)
      refine sx_note hn hA (zA_ers hEn ha) (fun A' W' B' hA' => ?_)
      have hD' := hD.ers ha hf'
      exact sx_line hq hEi hD' hS (fun pl' pb' ps' hP' => h _ _ _ _ _ _ _ _ hD' hA' hP')
    · unfold wp_X10_erase
      rw [zn_in (by omega), zn_cl (by omega), hz.2.2.1]
      refine ⟨by omega, sp_inm_t (by omega) ha (zb_f2 zi_1 ?_)⟩
      refine sp_known hn hE hm (fun s' h0 hi hk => ?_)
      rw [zn_add, zn_in (by omega), zn_cl (by omega), h0.z.2.2.2 a ha]
      refine ⟨by omega, ?_⟩
      rintro _ rfl
      refine sp_takesOut hEn h0 (by omega) ha (fun s2 hm2 hf2 _ => ?_)
      exact h s2 (mH_put hE hm2 hi (fun j hj => hf2 j (by omega))) (fun j hj => by rw [hf2 j (by omega), hk j hj])
  · refine ⟨-1, n, hs, hn, hE, rfl, fun K h => ?_, fun K h => ?_⟩
    · have h := h _ _ _ _ _ _ _ _ hD hA hP
      unfold wp_X9_erase
      rw [hl] at h ⊢
      exact zg_lt (by omega) ho h
    · unfold wp_X10_erase
      rw [zn_in (by omega), zn_cl (by omega), hz.2.2.1]
      exact ⟨by omega, sp_inm_f (by omega) ho (zb_t2 zi_0 (h s hm (fun _ _ => rfl)))⟩
theorem mD.tel {s s' : Nat → Int32} {d : zD} {a x : Nat} (hm : mD s 0 d) (hd : zE d) (ha : a < 26) (hs : s' = upd s a (nI x)) : mD s' 0 (zo_tel d a x) := by
  subst hs
  have hl : z_len d ≤ 30 := hd.2.2.1
  refine ⟨fun j hj => ?_, fun j hj => ?_, ?_, fun j hj => ?_⟩
  · rw [Nat.zero_add]
    show upd s a (nI x) j = nI (if j = a then x else z_cls d j)
    rw [zu_e]
    split
    · rfl
    · exact hm.z.1 j hj
  · rw [zu_n (by omega)]; exact hm.2.1 j hj
  · rw [zu_n (by omega)]; exact hm.2.2.1
  · have hj' : j < z_len d := hj
    rw [zu_n (by omega)]; exact hm.2.2.2 j hj'
theorem mD.ren {s s' : Nat → Int32} {d : zD} {a x : Nat} (hm : mD s 0 d) (ha : a < 4) (hs : s' = upd s (26 + a) (nI x)) : mD s' 0 (zo_ren d a x) := by
  subst hs
  refine ⟨fun j hj => ?_, fun j hj => ?_, ?_, fun j hj => ?_⟩
  · rw [zu_n (by omega)]; exact hm.1 j hj
  · show upd s (26 + a) (nI x) (0 + 26 + j) = nI (if j = a then x else z_knd d j)
    rw [zu_e]
    by_cases e : j = a
    · rw [if_pos (by omega), if_pos e]
    · rw [if_neg (by omega), if_neg e]; exact hm.2.1 j hj
  · rw [zu_n (by omega)]; exact hm.2.2.1
  · rw [zu_n (by omega)]; exact hm.2.2.2 j hj
theorem zO_tell {q : zR} {n : Nat} {hs : Nat → zD} {l fi lo pl pb : Int32} {c k f A W B on ta ps s : zF} (hq : zW q) (hn : n ≤ 8) (hE : ∀ i, i ≤ n → zE (hs i)) (hD : xD (hs n) l c k f) (hA : xA n hs A W B) (hS : xS q (z_knd (hs n)) fi lo on ta) (hP : xP q (hs n) pl pb ps) (hm : mH n hs s) (p1 p2 : Int32) :
    ∃ (r : Int32) (n' : Nat) (hs' : Nat → zD), n' ≤ 8 ∧ (∀ i, i ≤ n' → zE (hs' i)) ∧ z_knd (hs' n') = z_knd (hs n) ∧ (∀ K : Int32 → zF → Int32 → zF → zF → zF → Int32 → Int32 → zF → Prop, (∀ (c' A' W' B' : zF) (pl' pb' : Int32) (ps' : zF), xD (hs' n') l c' k f → xA n' hs' A' W' B' → xP q (hs' n') pl' pb' ps' → K r c' (nI n') A' W' B' pl' pb' ps') → wp_X9_tell l c f (nI n) A W B fi lo on ta pl pb ps p1 p2 K) ∧ ∀ K : Int32 → Int32 → zF → Prop, (∀ s' : zF, mH n' hs' s' → (∀ j, 549 ≤ j → s' j = s j) → K r (nI n') s') → wp_X10_tell (nI n) s p1 p2 K := by
  have hEn := hE n (Nat.le_refl _)
  have hz := hm.1.z
  rcases zc_at p1 26 with ⟨a, ha, -, rfl⟩ | ho
  · rcases zc_at p2 6 with ⟨x, hx, -, rfl⟩ | ho2
    · have hca := hEn.1 a ha
      by_cases e : z_cls (hs n) a = x
      · refine ⟨-2, n, hs, hn, hE, rfl, fun K h => ?_, fun K h => ?_⟩
        · have h := h _ _ _ _ _ _ _ hD hA hP
          unfold wp_X9_tell
          refine sx_isLetter_t ha (zb_f zi_1 (sx_isClass_t hx (zb_f2 zi_1 (sx_classOf ha (hD.2.1 a ha) ?_))))
          exact zb_t2 (by rw [e]) h
        · unfold wp_X10_tell
          refine sp_in_t (by omega) (by omega) (zb_f zi_1 (sp_in_t (by omega) (by omega) (zb_f2 zi_1 ?_)))
          rw [zn_in (by omega), zn_cl (by omega), hz.1 a ha]
          refine ⟨by omega, ?_⟩
          rintro _ rfl
          exact zb_t2 (by rw [e]) (h s hm (fun _ _ => rfl))
      · have hEi := hEn.tel (l := a) hx
        refine ⟨nI (z_cls (hs n) a), zh_n n, zh_p n hs (zo_tel (hs n) a x), zh_n_le hn, zh_p_E hE hEi, by rw [zh_p_n]; rfl, fun K h => ?_, fun K h => ?_⟩
        · rw [zh_p_n] at h
          unfold wp_X9_tell
          refine sx_isLetter_t ha (zb_f zi_1 (sx_isClass_t hx (zb_f2 zi_1 (sx_classOf ha (hD.2.1 a ha) ?_))))
          refine zb_f2 (by rw [zn_eq (by omega) (by omega)]; exact e) (sx_setClass ha ?_)
          refine sx_note hn hA (zA_tel (x := x) hEn ha) (fun A' W' B' hA' => ?_)
          have hD' := hD.tel a x
          exact sx_line hq hEi hD' hS (fun pl' pb' ps' hP' => h _ _ _ _ _ _ _ hD' hA' hP')
        · unfold wp_X10_tell
          refine sp_in_t (by omega) (by omega) (zb_f zi_1 (sp_in_t (by omega) (by omega) (zb_f2 zi_1 ?_)))
          rw [zn_in (by omega), zn_cl (by omega), hz.1 a ha]
          refine ⟨by omega, ?_⟩
          rintro _ rfl
          refine zb_f2 (by rw [zn_eq (by omega) (by omega)]; exact e) ?_
          refine sp_known hn hE hm (fun s' h0 hi hk => ⟨by omega, ?_⟩)
          rintro _ rfl
          exact h _ (mH_put hE (h0.tel hEn ha rfl) hi (fun j hj => zu_n (by omega))) (fun j hj => by rw [zu_n (by omega), hk j hj])
    · refine ⟨-1, n, hs, hn, hE, rfl, fun K h => ?_, fun K h => ?_⟩
      · have h := h _ _ _ _ _ _ _ hD hA hP
        unfold wp_X9_tell
        exact sx_isLetter_t ha (zb_f zi_1 (sx_isClass_f ho2 (zb_t2 zi_0 h)))
      · unfold wp_X10_tell
        exact sp_in_t (by omega) (by omega) (zb_f zi_1 (sp_in_f (by omega) ho2 (zb_t2 zi_0 (h s hm (fun _ _ => rfl)))))
  · refine ⟨-1, n, hs, hn, hE, rfl, fun K h => ?_, fun K h => ?_⟩
    · have h := h _ _ _ _ _ _ _ hD hA hP
      unfold wp_X9_tell
      exact sx_isLetter_f ho (zb_t zi_0 h)
    · unfold wp_X10_tell
      exact sp_in_f (by omega) ho (zb_t zi_0 (h s hm (fun _ _ => rfl)))
theorem zO_rename {q : zR} {n : Nat} {hs : Nat → zD} {nu pn rules l fi lo pl pb fo : Int32} {P F Wh T Bh c k f A W B on ta ps s : zF} (hq : zW q) (hR : xR q nu pn P F Wh T Bh) (hMr : rules = nI (z_nR q)) (hn : n ≤ 8) (hE : ∀ i, i ≤ n → zE (hs i)) (hD : xD (hs n) l c k f) (hA : xA n hs A W B) (hS : xS q (z_knd (hs n)) fi lo on ta) (hP : xP q (hs n) pl pb ps) (hm : mH n hs s) (p1 p2 : Int32) :
    ∃ (r : Int32) (n' : Nat) (hs' : Nat → zD), n' ≤ 8 ∧ (∀ i, i ≤ n' → zE (hs' i)) ∧ (∀ K : Int32 → zF → Int32 → zF → zF → zF → Int32 → Int32 → zF → zF → Int32 → Int32 → zF → Int32 → Prop, (∀ (k' A' W' B' : zF) (fi' lo' : Int32) (on' ta' : zF) (pl' pb' : Int32) (ps' : zF) (fo' : Int32), xD (hs' n') l c k' f → xA n' hs' A' W' B' → xS q (z_knd (hs' n')) fi' lo' on' ta' → xP q (hs' n') pl' pb' ps' → ((fo' = fo ∧ z_knd (hs' n') = z_knd (hs n)) ∨ fo' = nI 0) → K r k' (nI n') A' W' B' fi' lo' on' ta' pl' pb' ps' fo') → wp_X9_rename nu pn P F Wh T Bh l c k f (nI n) A W B fi lo on ta pl pb ps fo p1 p2 K) ∧ ∀ K : Int32 → Int32 → zF → Prop, (∀ s' : zF, mH n' hs' s' → (∀ j, 549 ≤ j → s' j = s j) → K r (nI n') s') → wp_X10_rename rules (nI n) s p1 p2 K := by
  have hEn := hE n (Nat.le_refl _)
  have hz := hm.1.z
  have hn4 : z_nR q ≤ 4 := hq.2.1
  have hnu : nu = nI (z_nR q) := hR.1
  subst hMr
  rcases zc_at p1 (z_nR q) with ⟨a, ha, -, rfl⟩ | ho
  · rcases zc_at p2 4 with ⟨x, hx, -, rfl⟩ | ho2
    · have hca := hEn.2.1 a (by omega)
      by_cases e : z_knd (hs n) a = x
      · refine ⟨-2, n, hs, hn, hE, fun K h => ?_, fun K h => ?_⟩
        · have h := h _ _ _ _ _ _ _ _ _ _ _ _ hD hA hS hP (Or.inl ⟨rfl, rfl⟩)
          unfold wp_X9_rename
          rw [hnu] at *
          refine sx_isRule_t (by omega) ha (zb_f zi_1 (zt_lt (by omega) hx (sx_kindOf (by omega) (hD.2.2.1 a (by omega)) ?_)))
          exact zb_t2 (by rw [e]) h
        · unfold wp_X10_rename
          refine sp_isRule_t (by omega) ha (zb_f zi_1 (sp_in_t (by omega) (by omega) (zb_f2 zi_1 ?_)))
          rw [zn_add, zn_in (by omega), zn_cl (by omega), hz.2.1 a (by omega)]
          refine ⟨by omega, ?_⟩
          rintro _ rfl
          exact zb_t2 (by rw [e]) (h s hm (fun _ _ => rfl))
      · have hEi := hEn.ren (r := a) hx
        refine ⟨nI (z_knd (hs n) a), zh_n n, zh_p n hs (zo_ren (hs n) a x), zh_n_le hn, zh_p_E hE hEi, fun K h => ?_, fun K h => ?_⟩
        · rw [zh_p_n] at h
          unfold wp_X9_rename
          rw [hnu] at hR ⊢
          refine sx_isRule_t (by omega) ha (zb_f zi_1 (zt_lt (by omega) hx (sx_kindOf (by omega) (hD.2.2.1 a (by omega)) ?_)))
          refine zb_f2 (by rw [zn_eq (by omega) (by omega)]; exact e) (sx_setKind (by omega) ?_)
          refine sx_note hn hA (zA_ren (x := x) hEn (by omega)) (fun A' W' B' hA' => ?_)
          have hD' := hD.ren a x
          exact sx_rules hq hR hEi hD' (fun fi' lo' on' ta' pl' pb' ps' hS' hP' => h _ _ _ _ _ _ _ _ _ _ _ _ hD' hA' hS' hP' (Or.inr rfl))
        · unfold wp_X10_rename
          refine sp_isRule_t (by omega) ha (zb_f zi_1 (sp_in_t (by omega) (by omega) (zb_f2 zi_1 ?_)))
          rw [zn_add, zn_in (by omega), zn_cl (by omega), hz.2.1 a (by omega)]
          refine ⟨by omega, ?_⟩
          rintro _ rfl
          refine zb_f2 (by rw [zn_eq (by omega) (by omega)]; exact e) ?_
          refine sp_known hn hE hm (fun s' h0 hi hk => ⟨by omega, ?_⟩)
          rintro _ rfl
          exact h _ (mH_put hE (h0.ren (by omega) rfl) hi (fun j hj => zu_n (by omega))) (fun j hj => by rw [zu_n (by omega), hk j hj])
    · refine ⟨-1, n, hs, hn, hE, fun K h => ?_, fun K h => ?_⟩
      · have h := h _ _ _ _ _ _ _ _ _ _ _ _ hD hA hS hP (Or.inl ⟨rfl, rfl⟩)
        unfold wp_X9_rename
        rw [hnu]
        exact sx_isRule_t (by omega) ha (zb_f zi_1 (zg_lt (by omega) ho2 h))
      · unfold wp_X10_rename
        exact sp_isRule_t (by omega) ha (zb_f zi_1 (sp_in_f (by omega) ho2 (zb_t2 zi_0 (h s hm (fun _ _ => rfl)))))
  · refine ⟨-1, n, hs, hn, hE, fun K h => ?_, fun K h => ?_⟩
    · have h := h _ _ _ _ _ _ _ _ _ _ _ _ hD hA hS hP (Or.inl ⟨rfl, rfl⟩)
      unfold wp_X9_rename
      rw [hnu]
      exact sx_isRule_f (by omega) ho (zb_t zi_0 h)
    · unfold wp_X10_rename
      exact sp_isRule_f (by omega) ho (zb_t zi_0 (h s hm (fun _ _ => rfl)))
theorem zO_undo {q : zR} {n : Nat} {hs : Nat → zD} {nu pn l fi lo pl pb fo : Int32} {P F Wh T Bh c k f A W B on ta ps s : zF} (hq : zW q) (hR : xR q nu pn P F Wh T Bh) (hn : n ≤ 8) (hE : ∀ i, i ≤ n → zE (hs i)) (hD : xD (hs n) l c k f) (hA : xA n hs A W B) (hS : xS q (z_knd (hs n)) fi lo on ta) (hP : xP q (hs n) pl pb ps) (hm : mH n hs s) :
    ∃ (r : Int32) (n' : Nat) (hs' : Nat → zD), n' ≤ 8 ∧ (∀ i, i ≤ n' → zE (hs' i)) ∧ xA n' hs' A W B ∧ (∀ K : Int32 → Int32 → zF → zF → zF → Int32 → Int32 → Int32 → zF → zF → Int32 → Int32 → zF → Int32 → Prop, (∀ (l' : Int32) (c' k' f' : zF) (fi' lo' : Int32) (on' ta' : zF) (pl' pb' : Int32) (ps' : zF) (fo' : Int32), xD (hs' n') l' c' k' f' → xS q (z_knd (hs' n')) fi' lo' on' ta' → xP q (hs' n') pl' pb' ps' → ((fo' = fo ∧ z_knd (hs' n') = z_knd (hs n)) ∨ fo' = nI 0) → K r l' c' k' f' (nI n') fi' lo' on' ta' pl' pb' ps' fo') → wp_X9_undo nu pn P F Wh T Bh l c k f (nI n) A W B fi lo on ta pl pb ps fo K) ∧ ∀ K : Int32 → Int32 → zF → Prop, (∀ s' : zF, mH n' hs' s' → (∀ j, 549 ≤ j → s' j = s j) → K r (nI n') s') → wp_X10_undo (nI n) s K := by
  by_cases e : n = 0
  · refine ⟨-2, n, hs, hn, hE, hA, fun K h => ?_, fun K h => ?_⟩
    · have h := h _ _ _ _ _ _ _ _ _ _ _ _ hD hS hP (Or.inl ⟨rfl, rfl⟩)
      unfold wp_X9_undo wp_X0_number
      exact zb_t2 (by rw [e]; rfl) h
    · unfold wp_X10_undo
      exact zb_t2 (by rw [e]; rfl) (h s hm (fun _ _ => rfl))
  · have hE1 := hE (n - 1) (by omega)
    refine ⟨nI (n - 1), n - 1, hs, by omega, fun i hi => hE i (by omega), fun i hi => hA i (by omega), fun K h => ?_, fun K h => ?_⟩
    · unfold wp_X9_undo wp_X0_number
      refine zb_f2 (by rw [zn_eq0 (by omega)]; exact e) ?_
      refine sx_takeBack (by omega) hn hA hE hD (fun b l' c' k' f' hD' hb => ?_)
      intro J hJ
      rcases hb with ⟨rfl, hkk⟩ | rfl
      · refine zb_t zi_0 ?_
        rw [← hkk] at hS
        exact sx_line hq hE1 hD' hS (fun pl' pb' ps' hP' => hJ _ _ _ _ _ _ _ _ (h _ _ _ _ _ _ _ _ _ _ _ _ hD' hS hP' (Or.inl ⟨rfl, hkk⟩)))
      · refine zb_f zi_1 ?_
        exact sx_rules hq hR hE1 hD' (fun fi' lo' on' ta' pl' pb' ps' hS' hP' => hJ _ _ _ _ _ _ _ _ (h _ _ _ _ _ _ _ _ _ _ _ _ hD' hS' hP' (Or.inr rfl)))
    · unfold wp_X10_undo
      refine zb_f2 (by rw [zn_eq0 (by omega)]; exact e) ?_
      rw [zn_mul]
      refine sp_copies (b' := 0) (by omega) (by omega) (by omega) (fun s' h1 h2 => ?_)
      rintro _ rfl
      rw [zn_sub (by omega)]
      have hb := hm.2 (n - 1) (by omega)
      rw [show n - 1 + 1 = n by omega] at hb
      refine h s' ⟨hb.copy hE1 h1, fun i hi => ?_⟩ (fun j hj => h2 j (by omega))
      exact (hm.2 i (by omega)).frame (hE i (by omega)) (fun j h3 _ => h2 j (by omega))
