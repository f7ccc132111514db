/-! machine, alike, known, back: both sides -/
theorem zO_machine {q : zR} {d : zD} {l fi lo nu un kno fo rules places without ways : Int32} {c k f on ta st fe no nx be kw gg gf gb gc rule takes behind s way at_ al fin onn : zF} (hq : zW q) (hd : zE d) (hD : xD d l c k f) (hS : xS q (z_knd d) fi lo on ta) (hU : xU q (z_knd d) fo nu un kno st fe nx be kw) (hM : mR q rules places rule takes behind) (hm : mD s 0 d) (hwo : without = nI 0) (p : Int32) :
    ∃ r : Int32, (∀ K : Int32 → Int32 → Int32 → Int32 → Int32 → zF → zF → zF → zF → zF → zF → zF → zF → zF → zF → Prop, (∀ (nu' un' kno' fo' : Int32) (st' fe' no' nx' be' kw' gg' gf' gb' gc' : zF), xU q (z_knd d) fo' nu' un' kno' st' fe' nx' be' kw' → K r nu' un' kno' fo' st' fe' no' nx' be' kw' gg' gf' gb' gc') → wp_X9_machine l c f fi lo on ta nu un kno fo st fe no nx be kw gg gf gb gc p K) ∧ ∀ K : Int32 → Int32 → zF → zF → zF → zF → zF → Prop, (∀ (w' : Int32) (a' b' c' d' e' : zF), K r w' a' b' c' d' e') → wp_X10_machine rules places without ways rule takes behind s way at_ al fin onn p K := by
  have hz := hm.z
  have hl : z_len d ≤ 30 := hd.2.2.1
  subst hwo
  rcases zc_at p 5 with ⟨j, hj, -, rfl⟩ | ho
  · have hQ := z_pe_Q hq (z_knd d)
    have hlen := hQ.1.len
    have cls : ∀ r : Int32, (j = 0 → r = nI (z_pe (z_bgn q 0) (z_go q (z_knd d))).1.length) → (j = 1 → r = nI (z_us (z_go q (z_knd d)) (z_pe (z_bgn q 0) (z_go q (z_knd d))).1 1024 0)) → (j = 2 → r = nI (z_ct (z_kF q (z_knd d)) 36)) → (j = 3 → r = nI (z_fr d)) → (j = 4 → r = nI (z_fh q d (z_len d + 1))) → (∀ K : Int32 → Int32 → Int32 → Int32 → Int32 → zF → zF → zF → zF → zF → zF → zF → zF → zF → zF → Prop, (∀ (nu' un' kno' fo' : Int32) (st' fe' no' nx' be' kw' gg' gf' gb' gc' : zF), xU q (z_knd d) fo' nu' un' kno' st' fe' nx' be' kw' → K r nu' un' kno' fo' st' fe' no' nx' be' kw' gg' gf' gb' gc') → wp_X9_machine l c f fi lo on ta nu un kno fo st fe no nx be kw gg gf gb gc (nI j) K) ∧ ∀ K : Int32 → Int32 → zF → zF → zF → zF → zF → Prop, (∀ (w' : Int32) (a' b' c' d' e' : zF), K r w' a' b' c' d' e') → wp_X10_machine rules places (nI 0) ways rule takes behind s way at_ al fin onn (nI j) K := by
      intro r r0 r1 r2 r3 r4
      refine ⟨fun K h => ?_, fun K h => ?_⟩
      · unfold wp_X9_machine
        refine zb_f (nI_pos (by omega)) (zb_t (by rw [zn_le (by omega) (by omega)]; omega) ?_)
        refine sx_find hq hd.2.1 hS hU (fun nu' un' kno' fo' st' fe' no' nx' be' kw' gg' gf' gb' gc' hfo hV => ?_)
        have hU' : xU q (z_knd d) fo' nu' un' kno' st' fe' nx' be' kw' := Or.inr ⟨hfo, hV⟩
        have h' := h nu' un' kno' fo' st' fe' no' nx' be' kw' gg' gf' gb' gc' hU'
        rw [zn_eq (by omega) (by omega), zn_eq (by omega) (by omega), zn_eq (by omega) (by omega), zn_eq (by omega) (by omega)]
        refine ⟨fun e => ?_, fun e => ⟨fun e1 => ?_, fun e1 => ⟨fun e2 => ?_, fun e2 => ⟨fun e3 => ?_, fun e3 => ?_⟩⟩⟩⟩
        · rw [r0 e, ← hV.1.1] at h'; exact h'
        · rw [r1 e1, ← hV.2.2.2.1] at h'; exact h'
        · rw [r2 e2, ← hV.2.2.2.2.1] at h'; exact h'
        · rw [r3 e3] at h'; exact sx_unlikeFours hd hD.2.1 h'
        · rw [r4 (by omega)] at h'; exact sx_farthestBack hd hD hV.2.2.2.2.2 h'
      · obtain ⟨rfl, rfl, hr, ht⟩ := hM
        unfold wp_X10_machine
        refine sp_in_t (by omega) (by omega) (zb_f2 zi_1 ?_)
        refine sp_allWays hq hr ht hz.2.1 hd.2.1 (fun w' a' b' o' hA => ?_)
        have h' := h w' a' b'
        rw [zn_eq0 (by omega), zn_eq (by omega) (by omega), zn_eq (by omega) (by omega), zn_eq (by omega) (by omega)]
        refine ⟨fun e => ⟨fun e1 => ⟨fun e2 => ⟨fun e3 => ?_, fun e3 => ?_⟩, fun e2 => ?_⟩, fun e1 => ?_⟩, fun e => ?_⟩
        · rw [r4 (by omega)] at h'; exact sp_farthest hq hd hr ht hm hA (h' _ _ _)
        · rw [r3 e3] at h'; exact sp_fours hd hm (h' _ _ _)
        · rw [r2 e2] at h'; exact sp_knownPairs hq hr ht hz.2.1 hd.2.1 hA (h' _ _ _)
        · rw [r1 e1] at h'
          obtain ⟨rfl, -, hN⟩ := hA
          exact sp_unlikeWays (z_pe_0 _ _) hQ.1 hN (fun al' fi' => h' _ _ _)
        · rw [r0 e] at h'
          obtain ⟨rfl, -, -⟩ := hA
          exact h' _ _ _
    have hj5 : j = 0 ∨ j = 1 ∨ j = 2 ∨ j = 3 ∨ j = 4 := by omega
    rcases hj5 with rfl | rfl | rfl | rfl | rfl
    · exact ⟨_, cls _ (fun _ => rfl) (fun z => by omega) (fun z => by omega) (fun z => by omega) (fun z => by omega)⟩
    · exact ⟨_, cls _ (fun z => by omega) (fun _ => rfl) (fun z => by omega) (fun z => by omega) (fun z => by omega)⟩
    · exact ⟨_, cls _ (fun z => by omega) (fun z => by omega) (fun _ => rfl) (fun z => by omega) (fun z => by omega)⟩
    · exact ⟨_, cls _ (fun z => by omega) (fun z => by omega) (fun z => by omega) (fun _ => rfl) (fun z => by omega)⟩
    · exact ⟨_, cls _ (fun z => by omega) (fun z => by omega) (fun z => by omega) (fun z => by omega) (fun _ => rfl)⟩
  · refine ⟨-1, fun K h => ?_, fun K h => ?_⟩
    · unfold wp_X9_machine
      exact zg_ler (by omega) ho (h _ _ _ _ _ _ _ _ _ _ _ _ _ _ hU)
    · unfold wp_X10_machine
      exact sp_in_f (by omega) ho (zb_t2 zi_0 (h _ _ _ _ _ _))
theorem zO_alike {q : zR} {d : zD} {fi lo nu un kno fo rules places without ways : Int32} {on ta st fe no nx be kw gg gf gb gc rule takes behind s way at_ onn : zF} (hq : zW q) (hd : zE d) (hS : xS q (z_knd d) fi lo on ta) (hU : xU q (z_knd d) fo nu un kno st fe nx be kw) (hM : mR q rules places rule takes behind) (hm : mD s 0 d) (hwo : without = nI 0) (p1 p2 : Int32) :
    ∃ r : Int32, (∀ K : Int32 → Int32 → Int32 → Int32 → Int32 → zF → zF → zF → zF → zF → zF → zF → zF → zF → zF → Prop, (∀ (nu' un' kno' fo' : Int32) (st' fe' no' nx' be' kw' gg' gf' gb' gc' : zF), xU q (z_knd d) fo' nu' un' kno' st' fe' nx' be' kw' → K r nu' un' kno' fo' st' fe' no' nx' be' kw' gg' gf' gb' gc') → wp_X9_alike fi lo on ta nu un kno fo st fe no nx be kw gg gf gb gc p1 p2 K) ∧ ∀ K : Int32 → Int32 → zF → zF → zF → Prop, (∀ (w' : Int32) (a' b' c' : zF), K r w' a' b' c') → wp_X10_alike rules places without ways rule takes behind s way at_ onn p1 p2 K := by
  have hz := hm.z
  subst hwo
  rcases zc_at p1 6 with ⟨x, hx, -, rfl⟩ | ho
  · rcases zc_at p2 6 with ⟨y, hy, -, rfl⟩ | ho
    · refine ⟨nI (z_lk q (z_knd d) x y (z_pe (z_bgn q 0) (z_go q (z_knd d))).1.length).toNat, fun K h => ?_, fun K h => ?_⟩
      · unfold wp_X9_alike
        refine sx_isClass_t hx (zb_f zi_1 (sx_isClass_t hy (zb_f2 zi_1 ?_)))
        refine sx_find hq hd.2.1 hS hU (fun nu' un' kno' fo' st' fe' no' nx' be' kw' gg' gf' gb' gc' hfo hV => ?_)
        have h' := h nu' un' kno' fo' st' fe' no' nx' be' kw' gg' gf' gb' gc' (Or.inr ⟨hfo, hV⟩)
        refine sx_areAlike hq hV.1 hx hy ?_
        cases hb : z_lk q (z_knd d) x y (z_pe (z_bgn q 0) (z_go q (z_knd d))).1.length with
        | false => rw [hb] at h'; exact zb_t rfl h'
        | true => rw [hb] at h'; exact zb_f (by decide) h'
      · obtain ⟨rfl, rfl, hr, ht⟩ := hM
        unfold wp_X10_alike
        refine sp_in_t (by omega) (by omega) (zb_f zi_1 (sp_in_t (by omega) (by omega) (zb_f2 zi_1 ?_)))
        refine sp_allWays hq hr ht hz.2.1 hd.2.1 (fun w' a' b' o' hA => ?_)
        refine sp_begun hq (fun r hr' => (hr r hr').1) (fun p hp => (ht p hp).1) (by omega) (by omega) ?_
        refine sp_begun hq (fun r hr' => (hr r hr').1) (fun p hp => (ht p hp).1) (by omega) (by omega) ?_
        intro J hJ
        have fin : J (nI (z_lk q (z_knd d) x y 0).toNat) := by
          apply hJ
          intro E hE
          refine sp_alikeL hq hr ht hz.2.1 hd.2.1 hA hx hy (hE _ ?_)
          have h' := h w' a' b' o'
          cases hb : z_lk q (z_knd d) x y (z_pe (z_bgn q 0) (z_go q (z_knd d))).1.length with
          | false => rw [hb] at h'; exact zb_t rfl h'
          | true => rw [hb] at h'; exact zb_f (by decide) h'
        rw [z_lk_0] at fin
        have b1 := hq.bnd (z_bgn_lt q 0 x)
        have b2 := hq.bnd (z_bgn_lt q 0 y)
        rw [zn_eq (by omega) (by omega)]
        refine ⟨fun e => ?_, fun e => ?_⟩
        · rw [beq_eq_false_iff_ne.mpr e] at fin; exact fin
        · rw [beq_iff_eq.mpr e] at fin; exact fin
    · refine ⟨-1, fun K h => ?_, fun K h => ?_⟩
      · unfold wp_X9_alike
        exact sx_isClass_t hx (zb_f zi_1 (sx_isClass_f ho (zb_t2 zi_0 (h _ _ _ _ _ _ _ _ _ _ _ _ _ _ hU))))
      · unfold wp_X10_alike
        exact sp_in_t (by omega) (by omega) (zb_f zi_1 (sp_in_f (by omega) ho (zb_t2 zi_0 (h _ _ _ _))))
  · refine ⟨-1, fun K h => ?_, fun K h => ?_⟩
    · unfold wp_X9_alike
      exact sx_isClass_f ho (zb_t zi_0 (h _ _ _ _ _ _ _ _ _ _ _ _ _ _ hU))
    · unfold wp_X10_alike
      exact sp_in_f (by omega) ho (zb_t zi_0 (h _ _ _ _))
theorem zO_known {q : zR} {d : zD} {fi lo nu un kno fo rules places without ways : Int32} {on ta st fe no nx be kw gg gf gb gc rule takes behind s way at_ onn : zF} (hq : zW q) (hd : zE d) (hS : xS q (z_knd d) fi lo on ta) (hU : xU q (z_knd d) fo nu un kno st fe nx be kw) (hM : mR q rules places rule takes behind) (hm : mD s 0 d) (hwo : without = nI 0) (p1 p2 : Int32) :
    ∃ r : Int32, (∀ K : Int32 → Int32 → Int32 → Int32 → Int32 → zF → zF → zF → zF → zF → zF → zF → zF → zF → zF → Prop, (∀ (nu' un' kno' fo' : Int32) (st' fe' no' nx' be' kw' gg' gf' gb' gc' : zF), xU q (z_knd d) fo' nu' un' kno' st' fe' nx' be' kw' → K r nu' un' kno' fo' st' fe' no' nx' be' kw' gg' gf' gb' gc') → wp_X9_known fi lo on ta nu un kno fo st fe no nx be kw gg gf gb gc p1 p2 K) ∧ ∀ K : Int32 → Int32 → zF → zF → zF → Prop, (∀ (w' : Int32) (a' b' c' : zF), K r w' a' b' c') → wp_X10_known_ rules places without ways rule takes behind s way at_ onn p1 p2 K := by
  have hz := hm.z
  subst hwo
  rcases zc_at p1 6 with ⟨x, hx, -, rfl⟩ | ho
  · rcases zc_at p2 6 with ⟨y, hy, -, rfl⟩ | ho
    · refine ⟨nI (z_kt q (z_knd d) x y).toNat, fun K h => ?_, fun K h => ?_⟩
      · unfold wp_X9_known
        refine sx_isClass_t hx (zb_f zi_1 (sx_isClass_t hy (zb_f2 zi_1 ?_)))
        refine sx_find hq hd.2.1 hS hU (fun nu' un' kno' fo' st' fe' no' nx' be' kw' gg' gf' gb' gc' hfo hV => ?_)
        have h' := h nu' un' kno' fo' st' fe' no' nx' be' kw' gg' gf' gb' gc' (Or.inr ⟨hfo, hV⟩)
        refine sx_isKnown hV.2.2.2.2.2 hx hy ?_
        cases hb : z_kt q (z_knd d) x y with
        | false => rw [hb] at h'; exact zb_t rfl h'
        | true => rw [hb] at h'; exact zb_f (by decide) h'
      · obtain ⟨rfl, rfl, hr, ht⟩ := hM
        unfold wp_X10_known_
        refine sp_in_t (by omega) (by omega) (zb_f zi_1 (sp_in_t (by omega) (by omega) (zb_f2 zi_1 ?_)))
        refine sp_allWays hq hr ht hz.2.1 hd.2.1 (fun w' a' b' o' hA => ?_)
        refine sp_isKnown hq hr ht hz.2.1 hd.2.1 hA hx hy ?_
        have h' := h w' a' b' o'
        cases hb : z_kt q (z_knd d) x y with
        | false => rw [hb] at h'; exact zb_t rfl h'
        | true => rw [hb] at h'; exact zb_f (by decide) h'
    · refine ⟨-1, fun K h => ?_, fun K h => ?_⟩
      · unfold wp_X9_known
        exact sx_isClass_t hx (zb_f zi_1 (sx_isClass_f ho (zb_t2 zi_0 (h _ _ _ _ _ _ _ _ _ _ _ _ _ _ hU))))
      · unfold wp_X10_known_
        exact sp_in_t (by omega) (by omega) (zb_f zi_1 (sp_in_f (by omega) ho (zb_t2 zi_0 (h _ _ _ _))))
  · refine ⟨-1, fun K h => ?_, fun K h => ?_⟩
    · unfold wp_X9_known
      exact sx_isClass_f ho (zb_t zi_0 (h _ _ _ _ _ _ _ _ _ _ _ _ _ _ hU))
    · unfold wp_X10_known_
      exact sp_in_f (by omega) ho (zb_t zi_0 (h _ _ _ _))
theorem zO_back {q : zR} {d : zD} {l fi lo nu un kno fo rules places without ways : Int32} {c k f on ta st fe no nx be kw gg gf gb gc rule takes behind s way at_ onn : zF} (hq : zW q) (hd : zE d) (hD : xD d l c k f) (hS : xS q (z_knd d) fi lo on ta) (hU : xU q (z_knd d) fo nu un kno st fe nx be kw) (hM : mR q rules places rule takes behind) (hm : mD s 0 d) (hwo : without = nI 0) (p1 p2 : Int32) :
    ∃ r : Int32, (∀ K : Int32 → Int32 → Int32 → Int32 → Int32 → zF → zF → zF → zF → zF → zF → zF → zF → zF → zF → Prop, (∀ (nu' un' kno' fo' : Int32) (st' fe' no' nx' be' kw' gg' gf' gb' gc' : zF), xU q (z_knd d) fo' nu' un' kno' st' fe' nx' be' kw' → K r nu' un' kno' fo' st' fe' no' nx' be' kw' gg' gf' gb' gc') → wp_X9_back l c f fi lo on ta nu un kno fo st fe no nx be kw gg gf gb gc p1 p2 K) ∧ ∀ K : Int32 → Int32 → zF → zF → zF → Prop, (∀ (w' : Int32) (a' b' c' : zF), K r w' a' b' c') → wp_X10_back rules places without ways rule takes behind s way at_ onn p1 p2 K := by
  have hz := hm.z
  have hl : z_len d ≤ 30 := hd.2.2.1
  have hlen := hD.1
  subst hwo
  subst hlen
  rcases zc_at p1 (z_len d + 1) with ⟨a, ha, -, rfl⟩ | ho
  · have b1 := z_bf_le q d a
    rcases zc_at p2 2 with ⟨w, hw, -, rfl⟩ | ho
    · refine ⟨if w = 0 then nI (z_bf q d a) else nI (a - z_bf q d a), fun K h => ?_, fun K h => ?_⟩
      · unfold wp_X9_back
        refine sx_isPlace_t (by omega) (by omega) (zb_f zi_1 (zt_ler (by omega) (by omega) ?_))
        refine sx_find hq hd.2.1 hS hU (fun nu' un' kno' fo' st' fe' no' nx' be' kw' gg' gf' gb' gc' hfo hV => ?_)
        have h' := h nu' un' kno' fo' st' fe' no' nx' be' kw' gg' gf' gb' gc' (Or.inr ⟨hfo, hV⟩)
        refine sx_backFrom hd hD hV.2.2.2.2.2 (by omega) ?_
        rw [zn_eq0 (by omega), zn_sub (by omega)]
        refine ⟨fun e => ?_, fun e => ?_⟩
        · rw [if_neg e] at h'; exact h'
        · rw [if_pos e] at h'; exact h'
      · obtain ⟨rfl, rfl, hr, ht⟩ := hM
        unfold wp_X10_back
        refine sp_isPlace_t hz.2.2.1 (by omega) (by omega) (zb_f zi_1 (sp_in_t (by omega) (by omega) (zb_f2 zi_1 ?_)))
        refine sp_allWays hq hr ht hz.2.1 hd.2.1 (fun w' a' b' o' hA => ?_)
        refine sp_backFrom hq hd hr ht hm hA (by omega) ?_
        have h' := h w' a' b' o'
        rw [zn_eq0 (by omega), zn_sub (by omega)]
        refine ⟨fun e => ?_, fun e => ?_⟩
        · rw [if_neg e] at h'; exact h'
        · rw [if_pos e] at h'; exact h'
    · refine ⟨-1, fun K h => ?_, fun K h => ?_⟩
      · unfold wp_X9_back
        exact sx_isPlace_t (by omega) (by omega) (zb_f zi_1 (zg_ler (by omega) ho (h _ _ _ _ _ _ _ _ _ _ _ _ _ _ hU)))
      · unfold wp_X10_back
        exact sp_isPlace_t hz.2.2.1 (by omega) (by omega) (zb_f zi_1 (sp_in_f (by omega) ho (zb_t2 zi_0 (h _ _ _ _))))
  · refine ⟨-1, fun K h => ?_, fun K h => ?_⟩
    · unfold wp_X9_back
      exact sx_isPlace_f (by omega) ho (zb_t zi_0 (h _ _ _ _ _ _ _ _ _ _ _ _ _ _ hU))
    · unfold wp_X10_back
      exact sp_isPlace_f hz.2.2.1 (by omega) ho (zb_t zi_0 (h _ _ _ _))
