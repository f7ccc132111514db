abbrev zF : Type := Nat → Int32
theorem zh_o_E {n : Nat} {hs : Nat → zD} (hE : ∀ i, i ≤ n → zE (hs i)) {i : Nat} (h : i < zh_n n) : zE (zh_o n hs i) := by
  by_cases e : n = 8
  · rw [zh_o_8 e]; rw [zh_n_8 e] at h; exact hE _ (by omega)
  · rw [zh_o_S e]; rw [zh_n_S e] at h; exact hE _ (by omega)
theorem mH_put {n : Nat} {hs : Nat → zD} {s1 s2 : Nat → Int32} {d' : zD} (hE : ∀ i, i ≤ n → zE (hs i)) (h0 : mD s2 0 d') (hi : ∀ i, i < zh_n n → mD s1 ((i + 1) * 61) (zh_o n hs i)) (hf : ∀ j, 61 ≤ j → s2 j = s1 j) : mH (zh_n n) (zh_p n hs d') s2 := by
  refine ⟨by rw [zh_p_n]; exact h0, fun i h => ?_⟩
  rw [zh_p_lt hs d' h]
  exact (hi i h).frame (zh_o_E hE h) (fun j h1 _ => hf j (by omega))
theorem zO_kind {d : zD} {l : Int32} {c k f s : Nat → Int32} (hD : xD d l c k f) (hm : mD s 0 d) (p : Int32) : ∃ r, (∀ K : Int32 → Prop, K r → wp_X9_kind c p K) ∧ ∀ K : Int32 → Prop, K r → wp_X10_kind s p K := by
  rcases zc_at p 26 with ⟨j, hj, -, rfl⟩ | ho
  · refine ⟨nI (z_cls d j), fun K h => ?_, fun K h => ?_⟩
    · unfold wp_X9_kind
      exact sx_isLetter_t hj (zb_f zi_1 (sx_classOf hj (hD.2.1 j hj) h))
    · unfold wp_X10_kind
      refine sp_in_t (by omega) (by omega) (zb_f zi_1 ?_)
      rw [zn_in (by omega), zn_cl (by omega), hm.z.1 j hj]
      exact ⟨by omega, h⟩
  · refine ⟨-1, fun K h => ?_, fun K h => ?_⟩
    · unfold wp_X9_kind; exact sx_isLetter_f ho (zb_t zi_0 h)
    · unfold wp_X10_kind; exact sp_in_f (by omega) ho (zb_t zi_0 h)
theorem zO_letter {d : zD} {l : Int32} {c k f s : Nat → Int32} (hd : zE d) (hD : xD d l c k f) (hm : mD s 0 d) (p : Int32) : ∃ r, (∀ K : Int32 → Prop, K r → wp_X9_letter l f p K) ∧ ∀ K : Int32 → Prop, K r → wp_X10_letter s p K := by
  obtain ⟨rfl, -, -, hf⟩ := hD
  have hl : z_len d ≤ 30 := hd.2.2.1
  have hz := hm.z
  rcases zc_at p (z_len d + 1) with ⟨j, hj, -, rfl⟩ | ho
  · by_cases e : j = z_len d
    · refine ⟨-4, fun K h => ?_, fun K h => ?_⟩
      · unfold wp_X9_letter
        refine sx_isPlace_t (by omega) (by omega) (zb_f2 zi_1 ?_)
        exact zb_t2 (by rw [e]) h
      · unfold wp_X10_letter
        refine sp_isPlace_t hz.2.2.1 (by omega) (by omega) (zb_f2 zi_1 ?_)
        rw [zn_in (by omega), zn_cl (by omega), hz.2.2.1]
        exact ⟨by omega, zb_t2 (by rw [e]) h⟩
    · refine ⟨nI (z_at d j), fun K h => ?_, fun K h => ?_⟩
      · unfold wp_X9_letter
        refine sx_isPlace_t (by omega) (by omega) (zb_f2 zi_1 ?_)
        exact zb_f2 (by rw [zn_eq (by omega) (by omega)]; exact e) (sx_letterAt hl (by omega) (hf j (by omega)) h)
      · unfold wp_X10_letter
        refine sp_isPlace_t hz.2.2.1 (by omega) (by omega) (zb_f2 zi_1 ?_)
        rw [zn_in (by omega), zn_cl (by omega), hz.2.2.1, zn_add, zn_in (by omega), zn_cl (by omega), hz.2.2.2 j (by omega)]
        exact ⟨by omega, zb_f2 (by rw [zn_eq (by omega) (by omega)]; exact e) ⟨by omega, h⟩⟩
  · refine ⟨-1, fun K h => ?_, fun K h => ?_⟩
    · unfold wp_X9_letter; exact sx_isPlace_f (by omega) ho (zb_t2 zi_0 h)
    · unfold wp_X10_letter; exact sp_isPlace_f hz.2.2.1 (by omega) ho (zb_t2 zi_0 h)
theorem zO_rule {q : zR} {d : zD} {nu pn l rules places : Int32} {pl fi wh tk bh c k f rule takes behind s : Nat → Int32} (hq : zW q) (hR : xR q nu pn pl fi wh tk bh) (hD : xD d l c k f) (hm : mD s 0 d) (hM : mR q rules places rule takes behind) (p1 p2 : Int32) : ∃ r, (∀ K : Int32 → Prop, K r → wp_X9_rule nu pl fi wh k p1 p2 K) ∧ ∀ K : Int32 → Prop, K r → wp_X10_rule rules rule s p1 p2 K := by
  obtain ⟨rfl, rfl, hr, -⟩ := hR
  obtain ⟨rfl, rfl, hmr, -⟩ := hM
  have hn : z_nR q ≤ 4 := hq.2.1
  rcases zc_at p1 (z_nR q) with ⟨j, hj, -, rfl⟩ | ho
  · have h1 := hr j hj
    have h2 := hmr j hj
    rcases zc_at p2 4 with ⟨w, hw, -, rfl⟩ | ho2
    · have hX : ∀ (r : Int32) (K : Int32 → Prop), (w = 0 → nI (z_knd d j) = r) → (w = 1 → nI (z_of q j) = r) → (w = 2 → nI (z_fst q j) = r) → (w = 3 → nI (z_whl q j) = r) → K r → wp_X9_rule (nI (z_nR q)) pl fi wh k (nI j) (nI w) K := by
        intro r K e0 e1 e2 e3 h
        unfold wp_X9_rule
        refine sx_isRule_t (by omega) hj (zb_f zi_1 (zt_ler (by omega) (by omega) ?_))
        rw [zn_eq (by omega) (by omega), zn_eq (by omega) (by omega), zn_eq (by omega) (by omega)]
        refine ⟨fun e => sx_kindOf (by omega) (hD.2.2.1 j (by omega)) (by rw [e0 e]; exact h), fun n0 => ⟨fun e => sx_placesOf hn hj h1.1 (by rw [e1 e]; exact h), fun n1 => ⟨fun e => sx_firstOf hn hj h1.2.1 (by rw [e2 e]; exact h), fun n2 => sx_wholeOf hn hj h1.2.2 (by rw [e3 (by omega)]; exact h)⟩⟩⟩
      have hY : ∀ (r : Int32) (K : Int32 → Prop), (w = 0 → nI (z_knd d j) = r) → (w = 1 → nI (z_of q j) = r) → (w = 2 → nI (z_fst q j) = r) → (w = 3 → nI (z_whl q j) = r) → K r → wp_X10_rule (nI (z_nR q)) rule s (nI j) (nI w) K := by
        intro r K e0 e1 e2 e3 h
        unfold wp_X10_rule
        refine sp_isRule_t (by omega) hj (zb_f zi_1 (sp_in_t (by omega) (by omega) (zb_f2 zi_1 ?_)))
        rw [zn_eq0 (by omega), zn_eq (by omega) (by omega), zn_eq (by omega) (by omega), zn_add, zn_add, zn_add, zn_add, zn_in (by omega), zn_in (by omega), zn_in (by omega), zn_in (by omega), zn_cl (by omega), zn_cl (by omega), zn_cl (by omega), zn_cl (by omega), hm.z.2.1 j (by omega), h2.2.1, h2.2.2, show 0 + j = j by omega, h2.1]
        refine ⟨fun n0 => ⟨fun n1 => ⟨fun n2 => ⟨by omega, by rw [e3 (by omega)]; exact h⟩, fun e => ⟨by omega, by rw [e2 e]; exact h⟩⟩, fun e => ⟨by omega, by rw [e1 e]; exact h⟩⟩, fun e => ⟨by omega, by rw [e0 e]; exact h⟩⟩
      have hw4 : w = 0 ∨ w = 1 ∨ w = 2 ∨ w = 3 := by omega
      rcases hw4 with rfl | rfl | rfl | rfl
      · exact ⟨_, fun K h => hX (nI (z_knd d j)) K (fun _ => rfl) (fun e => by omega) (fun e => by omega) (fun e => by omega) h, fun K h => hY _ K (fun _ => rfl) (fun e => by omega) (fun e => by omega) (fun e => by omega) h⟩
      · exact ⟨_, fun K h => hX (nI (z_of q j)) K (fun e => by omega) (fun _ => rfl) (fun e => by omega) (fun e => by omega) h, fun K h => hY _ K (fun e => by omega) (fun _ => rfl) (fun e => by omega) (fun e => by omega) h⟩
      · exact ⟨_, fun K h => hX (nI (z_fst q j)) K (fun e => by omega) (fun e => by omega) (fun _ => rfl) (fun e => by omega) h, fun K h => hY _ K (fun e => by omega) (fun e => by omega) (fun _ => rfl) (fun e => by omega) h⟩
      · exact ⟨_, fun K h => hX (nI (z_whl q j)) K (fun e => by omega) (fun e => by omega) (fun e => by omega) (fun _ => rfl) h, fun K h => hY _ K (fun e => by omega) (fun e => by omega) (fun e => by omega) (fun _ => rfl) h⟩
    · refine ⟨-1, fun K h => ?_, fun K h => ?_⟩
      · unfold wp_X9_rule
        exact sx_isRule_t (by omega) hj (zb_f zi_1 (zg_ler (by omega) ho2 h))
      · unfold wp_X10_rule
        exact sp_isRule_t (by omega) hj (zb_f zi_1 (sp_in_f (by omega) ho2 (zb_t2 zi_0 h)))
  · refine ⟨-1, fun K h => ?_, fun K h => ?_⟩
    · unfold wp_X9_rule; exact sx_isRule_f (by omega) ho (zb_t zi_0 h)
    · unfold wp_X10_rule; exact sp_isRule_f (by omega) ho (zb_t zi_0 h)
theorem zO_place {q : zR} {nu pn rules places : Int32} {pl fi wh tk bh rule takes behind : Nat → Int32} (hq : zW q) (hR : xR q nu pn pl fi wh tk bh) (hM : mR q rules places rule takes behind) (p1 p2 : Int32) : ∃ r, (∀ K : Int32 → Prop, K r → wp_X9_place pn tk bh p1 p2 K) ∧ ∀ K : Int32 → Prop, K r → wp_X10_place places takes behind p1 p2 K := by
  obtain ⟨rfl, rfl, -, ht⟩ := hR
  obtain ⟨rfl, rfl, -, hmt⟩ := hM
  have hn : z_nP q ≤ 10 := hq.2.2.1
  rcases zc_at p1 (z_nP q) with ⟨j, hj, -, rfl⟩ | ho
  · have h1 := ht j hj
    have h2 := hmt j hj
    rcases zc_at p2 2 with ⟨w, hw, -, rfl⟩ | ho2
    · by_cases e : w = 0
      · refine ⟨nI (z_tk q j), fun K h => ?_, fun K h => ?_⟩
        · unfold wp_X9_place
          refine zt_le (by omega) hj (zt_ler (by omega) (by omega) ?_)
          rw [zn_eq0 (by omega)]
          exact zb_t2 e (sx_takenAt hn hj h1.1 h)
        · unfold wp_X10_place
          refine sp_inm_t (by omega) hj (zb_f zi_1 (sp_in_t (by omega) (by omega) (zb_f zi_1 ?_)))
          rw [zn_eq0 (by omega), zn_in (by omega), zn_cl (by omega), h2.1]
          exact zb_t2 e ⟨by omega, h⟩
      · refine ⟨nI (z_bh q j), fun K h => ?_, fun K h => ?_⟩
        · unfold wp_X9_place
          refine zt_le (by omega) hj (zt_ler (by omega) (by omega) ?_)
          rw [zn_eq0 (by omega)]
          exact zb_f2 e (sx_behind hn hj h1.2 h)
        · unfold wp_X10_place
          refine sp_inm_t (by omega) hj (zb_f zi_1 (sp_in_t (by omega) (by omega) (zb_f zi_1 ?_)))
          rw [zn_eq0 (by omega), zn_in (by omega), zn_cl (by omega), h2.2]
          exact zb_f2 e ⟨by omega, h⟩
    · refine ⟨-1, fun K h => ?_, fun K h => ?_⟩
      · unfold wp_X9_place
        exact zt_le (by omega) hj (zg_ler (by omega) ho2 h)
      · unfold wp_X10_place
        exact sp_inm_t (by omega) hj (zb_f zi_1 (sp_in_f (by omega) ho2 (zb_t zi_0 h)))
  · refine ⟨-1, fun K h => ?_, fun K h => ?_⟩
    · unfold wp_X9_place; exact zg_le (by omega) ho h
    · unfold wp_X10_place; exact sp_inm_f (by omega) ho (zb_t zi_0 h)
