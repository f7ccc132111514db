/-! the law's own loop: what the class shows is taken down, an act, the comparison, now and then undone -/
theorem sl_law87 {d : zD} {c s : zF} {E : zF → Prop} (hc : ∀ j, j < 26 → c j = nI (z_cls d j)) (h : ∀ s' : zF, (∀ j, j < 26 → s' j = nI (z_cls d j)) → E s') : ∃ n, lp_L_law_87 c E n (nI 0) s := by
  refine zl_inv (σ := zF) (fun n i s => lp_L_law_87 c E n (nI i) s) (fun i s => ∀ j, j < i → s j = nI (z_cls d j)) 26 ?_ ?_ 0 s (Nat.zero_le _) (fun j hj => absurd hj (Nat.not_lt_zero _))
  · intro n s hs
    rw [lp_L_law_87]
    exact zb_t (by rw [zn_le (by omega) (by omega)]; omega) (h s hs)
  · intro n i s hi hs ih
    rw [lp_L_law_87, zn_in (a := i) (by omega), zn_cl (a := i) (by omega), zn_add i 1]
    refine zb_f (by rw [zn_le (by omega) (by omega)]; omega) (sx_kind hc hi ⟨by omega, ?_⟩)
    rintro _ rfl _ rfl
    refine ih _ (fun j hj => ?_)
    by_cases e : j = i
    · rw [e, zu_s]
    · rw [zu_n e]; exact hs j (by omega)
theorem sl_law114 {q : zR} {d : zD} {nu pn : Int32} {P F Wh T Bh k y s : zF} {E : zF → Prop} (hq : zW q) (hR : xR q nu pn P F Wh T Bh) (hk : ∀ r, r < 4 → k r = nI (z_knd d r)) (hx : lR q y) (hs0 : ∀ j, j < 26 → s j = nI (z_cls d j)) (h : ∀ s' : zF, (∀ j, j < 26 → s' j = nI (z_cls d j)) → (∀ r, r < z_nR q → s' (26 + r) = nI (z_knd d r)) → E s') : ∃ n, lp_L_law_114 nu P F Wh k y E n (nI 0) s := by
  have hR4 : z_nR q ≤ 4 := hq.2.1
  refine zl_inv (σ := zF) (fun n i s => lp_L_law_114 nu P F Wh k y E n (nI i) s) (fun i s => (∀ j, j < 26 → s j = nI (z_cls d j)) ∧ ∀ r, r < i → s (26 + r) = nI (z_knd d r)) (z_nR q) ?_ ?_ 0 s (Nat.zero_le _) ⟨hs0, fun j hj => absurd hj (Nat.not_lt_zero _)⟩
  · intro n s hs
    rw [lp_L_law_114, zn_in (a := 0) (by omega), zn_cl (a := 0) (by omega), hx.1]
    exact ⟨by omega, zb_t (by rw [zn_le (by omega) (by omega)]; omega) (h s hs.1 hs.2)⟩
  · intro n i s hi hs ih
    rw [lp_L_law_114, zn_in (a := 0) (by omega), zn_cl (a := 0) (by omega), hx.1, zn_add 26 i, zn_in (a := 26 + i) (by omega), zn_cl (a := 26 + i) (by omega), zn_add i 1]
    refine ⟨by omega, zb_f (by rw [zn_le (by omega) (by omega)]; omega) ?_⟩
    refine sx_rule (w := 0) (r := nI (z_knd d i)) hq hR hk hi (by omega) (fun _ => rfl) (fun e => by omega) (fun e => by omega) (fun e => by omega) ⟨by omega, ?_⟩
    rintro _ rfl _ rfl
    refine ih _ ⟨fun j hj => ?_, fun r hr => ?_⟩
    · rw [zu_n (by omega)]; exact hs.1 j hj
    · by_cases e : r = i
      · rw [e, zu_s]
      · rw [zu_n (by omega)]; exact hs.2 r (by omega)
theorem sl_law156 {q : zR} {d : zD} {l : Int32} {c k f s : zF} {E : zF → Prop} (hd : zE d) (hD : xD d l c k f) (hn : z_nR q ≤ 4) (hs1 : ∀ j, j < 26 → s j = nI (z_cls d j)) (hs2 : ∀ r, r < z_nR q → s (26 + r) = nI (z_knd d r)) (hs3 : s 30 = nI (z_len d)) (h : ∀ s' : zF, lD (z_nR q) d s' → E s') : ∃ n, lp_L_law_156 l f E n (nI 0) s := by
  have hl : z_len d ≤ 30 := hd.2.2.1
  refine zl_inv (σ := zF) (fun n i s => lp_L_law_156 l f E n (nI i) s) (fun i s => (∀ j, j < 26 → s j = nI (z_cls d j)) ∧ (∀ r, r < z_nR q → s (26 + r) = nI (z_knd d r)) ∧ s 30 = nI (z_len d) ∧ ∀ j, j < i → s (31 + j) = nI (z_at d j)) (z_len d) ?_ ?_ 0 s (Nat.zero_le _) ⟨hs1, hs2, hs3, fun j hj => absurd hj (Nat.not_lt_zero _)⟩
  · intro n s hs
    rw [lp_L_law_156, zn_in (a := 30) (by omega), zn_cl (a := 30) (by omega), hs.2.2.1]
    exact ⟨by omega, zb_t (by rw [zn_le (by omega) (by omega)]; omega) (h s hs)⟩
  · intro n i s hi hs ih
    rw [lp_L_law_156, zn_in (a := 30) (by omega), zn_cl (a := 30) (by omega), hs.2.2.1, zn_add 31 i, zn_in (a := 31 + i) (by omega), zn_cl (a := 31 + i) (by omega), zn_add i 1]
    refine ⟨by omega, zb_f (by rw [zn_le (by omega) (by omega)]; omega) (sx_letterIn hd hD hi ⟨by omega, ?_⟩)⟩
    rintro _ rfl _ rfl
    refine ih _ ⟨fun j hj => ?_, fun r hr => ?_, ?_, fun j hj => ?_⟩
    · rw [zu_n (by omega)]; exact hs.1 j hj
    · rw [zu_n (by omega)]; exact hs.2.1 r hr
    · rw [zu_n (by omega)]; exact hs.2.2.1
    · by_cases e : j = i
      · rw [e, zu_s]
      · rw [zu_n (by omega)]; exact hs.2.2.2 j (by omega)
/-- the letters from a place on one further -/
theorem sl_law254 {a m : Nat} {w0 : zF} {E : zF → Prop} (ha : a ≤ m) (hm : m ≤ 29) (h : ∀ w : zF, (∀ j, j < 31 → w j = w0 j) → (∀ j, j ≤ m → w (31 + j) = if a < j then w0 (30 + j) else w0 (31 + j)) → E w) : ∃ n, lp_L_law_254 (nI a) E n (nI m) w0 := by
  have key : ∃ n, lp_L_law_254 (nI a) E n (nI (a + (m - a))) w0 := by
    refine zl_down (σ := zF) (fun n i s => lp_L_law_254 (nI a) E n (nI (a + i)) s) (fun i s => a + i ≤ m ∧ (∀ j, j < 31 → s j = w0 j) ∧ ∀ j, j ≤ m → s (31 + j) = if a + i < j then w0 (30 + j) else w0 (31 + j)) ?_ ?_ (m - a) w0 ⟨by omega, fun j _ => rfl, fun j hj => by rw [if_neg (by omega)]⟩
    · intro n s hs
      rw [lp_L_law_254]
      exact zb_t (by rw [zn_le (by omega) (by omega)]; omega) (h s hs.2.1 hs.2.2)
    · intro n i s hs ih
      obtain ⟨g1, g2, g3⟩ := hs
      rw [lp_L_law_254, zn_add 30, zn_in (a := 30 + (a + (i + 1))) (by omega), zn_cl (a := 30 + (a + (i + 1))) (by omega), zn_add 31, zn_in (a := 31 + (a + (i + 1))) (by omega), zn_cl (a := 31 + (a + (i + 1))) (by omega), zn_m1 (a := a + (i + 1)) (by omega), show a + (i + 1) - 1 = a + i by omega]
      refine zb_f (by rw [zn_le (by omega) (by omega)]; omega) ⟨by omega, ?_⟩
      rintro _ rfl
      refine ⟨by omega, ?_⟩
      rintro _ rfl _ rfl
      have e30 : s (30 + (a + (i + 1))) = w0 (30 + (a + (i + 1))) := by
        have := g3 (a + i) (by omega)
        rw [if_neg (by omega)] at this
        rw [show 30 + (a + (i + 1)) = 31 + (a + i) by omega]
        exact this
      refine ih _ ⟨by omega, fun j hj => ?_, fun j hj => ?_⟩
      · rw [zu_n (by omega)]; exact g2 j hj
      · by_cases e : j = a + (i + 1)
        · rw [e, zu_s, e30, if_pos (by omega)]
        · rw [zu_n (by omega), g3 j hj]
          by_cases e2 : a + (i + 1) < j
          · rw [if_pos e2, if_pos (by omega)]
          · rw [if_neg e2, if_neg (by omega)]
  rw [show a + (m - a) = m by omega] at key
  exact key
/-- the letters behind a place one back -/
theorem sl_law364 {a m : Nat} {w0 : zF} {E : zF → Prop} (ha : a < m) (hm : m ≤ 30) (h30 : w0 30 = nI m) (h : ∀ w : zF, (∀ j, j < 31 → w j = w0 j) → (∀ j, j < m - 1 → w (31 + j) = if a ≤ j then w0 (32 + j) else w0 (31 + j)) → E w) : ∃ n, lp_L_law_364 E n (nI a) w0 := by
  refine zl_inv (σ := zF) (fun n i s => lp_L_law_364 E n (nI i) s) (fun i s => a ≤ i ∧ (∀ j, j < 31 → s j = w0 j) ∧ ∀ j, j < m → s (31 + j) = if a ≤ j ∧ j < i then w0 (32 + j) else w0 (31 + j)) (m - 1) ?_ ?_ a w0 (by omega) ⟨Nat.le_refl _, fun j _ => rfl, fun j hj => by rw [if_neg (by omega)]⟩
  · intro n s hs
    rw [lp_L_law_364, zn_in (a := 30) (by omega), zn_cl (a := 30) (by omega), hs.2.1 30 (by omega), h30, zn_sub (by omega)]
    refine ⟨by omega, zb_t (by rw [zn_le (by omega) (by omega)]; omega) (h s hs.2.1 (fun j hj => ?_))⟩
    rw [hs.2.2 j (by omega)]
    by_cases e : a ≤ j
    · rw [if_pos ⟨e, hj⟩, if_pos e]
    · rw [if_neg (fun z => e z.1), if_neg e]
  · intro n i s hi hs ih
    obtain ⟨g1, g2, g3⟩ := hs
    rw [lp_L_law_364, zn_in (a := 30) (by omega), zn_cl (a := 30) (by omega), g2 30 (by omega), h30, zn_sub (by omega), zn_add 32 i, zn_in (a := 32 + i) (by omega), zn_cl (a := 32 + i) (by omega), zn_add 31 i, zn_in (a := 31 + i) (by omega), zn_cl (a := 31 + i) (by omega), zn_add i 1]
    refine ⟨by omega, zb_f (by rw [zn_le (by omega) (by omega)]; omega) ⟨by omega, ?_⟩⟩
    rintro _ rfl
    refine ⟨by omega, ?_⟩
    rintro _ rfl _ rfl
    have e32 : s (32 + i) = w0 (32 + i) := by
      have := g3 (i + 1) (by omega)
      rw [if_neg (by omega)] at this
      rw [show 32 + i = 31 + (i + 1) by omega]
      exact this
    refine ih _ ⟨by omega, fun j hj => ?_, fun j hj => ?_⟩
    · rw [zu_n (by omega)]; exact g2 j hj
    · by_cases e : j = i
      · rw [e, zu_s, e32]
        rw [if_pos ⟨g1, by omega⟩]
      · rw [zu_n (by omega), g3 j hj]
        by_cases e2 : a ≤ j ∧ j < i
        · rw [if_pos e2, if_pos ⟨e2.1, by omega⟩]
        · rw [if_neg e2, if_neg (fun z => e2 ⟨z.1, by omega⟩)]
theorem lD.copy {N : Nat} {d : zD} {w u : zF} (h : lD N d w) (hN : N ≤ 4) (hl : z_len d ≤ 30) (hu : ∀ j, j < 61 → u j = w j) : lD N d u :=
  ⟨fun j hj => by rw [hu j (by omega)]; exact h.1 j hj, fun r hr => by rw [hu _ (by omega)]; exact h.2.1 r hr, by rw [hu 30 (by omega)]; exact h.2.2.1, fun j hj => by rw [hu _ (by omega)]; exact h.2.2.2 j hj⟩
theorem lD.ins {N a x : Nat} {d : zD} {w0 w : zF} (h : lD N d w0) (hN : N ≤ 4) (ha : a ≤ z_len d) (k1 : ∀ j, j < 31 → w j = w0 j) (k2 : ∀ j, j ≤ z_len d → w (31 + j) = if a < j then w0 (30 + j) else w0 (31 + j)) : lD N (zo_ins d a x) (upd (upd w (31 + a) (nI x)) 30 (nI (z_len d + 1))) := by
  refine ⟨fun j hj => ?_, fun r hr => ?_, ?_, fun j hj => ?_⟩
  · rw [zu_n (by omega), zu_n (by omega), k1 j (by omega)]; exact h.1 j hj
  · rw [zu_n (by omega), zu_n (by omega), k1 _ (by omega)]; exact h.2.1 r hr
  · rw [zu_s, z_len_ins x ha]
  · rw [z_len_ins x ha] at hj
    rw [zu_n (by omega), z_at_ins x ha]
    by_cases e : j = a
    · rw [e, zu_s, if_neg (by omega), if_pos rfl]
    · rw [zu_n (by omega), k2 j (by omega)]
      by_cases e2 : a < j
      · rw [if_pos e2, if_neg (by omega), if_neg e, show 30 + j = 31 + (j - 1) by omega]
        exact h.2.2.2 (j - 1) (by omega)
      · rw [if_neg e2, if_pos (by omega)]
        exact h.2.2.2 j (by omega)
theorem lD.ers {N a : Nat} {d : zD} {w0 w : zF} (h : lD N d w0) (hN : N ≤ 4) (ha : a < z_len d) (k1 : ∀ j, j < 31 → w j = w0 j) (k2 : ∀ j, j < z_len d - 1 → w (31 + j) = if a ≤ j then w0 (32 + j) else w0 (31 + j)) : lD N (zo_ers d a) (upd w 30 (nI (z_len d - 1))) := by
  refine ⟨fun j hj => ?_, fun r hr => ?_, ?_, fun j hj => ?_⟩
  · rw [zu_n (by omega), k1 j (by omega)]; exact h.1 j hj
  · rw [zu_n (by omega), k1 _ (by omega)]; exact h.2.1 r hr
  · rw [zu_s, z_len_ers ha]
  · rw [z_len_ers ha] at hj
    rw [zu_n (by omega), z_at_ers, k2 j hj]
    by_cases e2 : a ≤ j
    · rw [if_pos e2, if_neg (by omega), show 32 + j = 31 + (j + 1) by omega]
      exact h.2.2.2 (j + 1) (by omega)
    · rw [if_neg e2, if_pos (by omega)]
      exact h.2.2.2 j (by omega)
theorem lD.tel {N a x : Nat} {d : zD} {w : zF} (h : lD N d w) (ha : a < 26) : lD N (zo_tel d a x) (upd w a (nI x)) := by
  refine ⟨fun j hj => ?_, fun r hr => ?_, ?_, fun j hj => ?_⟩
  · show upd w a (nI x) j = nI (if j = a then x else z_cls d j)
    by_cases e : j = a
    · rw [e, zu_s, if_pos rfl]
    · rw [zu_n e, if_neg e]; exact h.1 j hj
  · rw [zu_n (by omega)]; exact h.2.1 r hr
  · rw [zu_n (by omega)]; exact h.2.2.1
  · rw [zu_n (by omega)]; exact h.2.2.2 j hj
theorem lD.telNo {N a x : Nat} {d : zD} {w : zF} (h : lD N d w) (ha : a < 26) (e : z_cls d a = x) : lD N d (upd w a (nI x)) := by
  refine ⟨fun j hj => ?_, fun r hr => ?_, ?_, fun j hj => ?_⟩
  · by_cases e2 : j = a
    · rw [e2, zu_s, e]
    · rw [zu_n e2]; exact h.1 j hj
  · rw [zu_n (by omega)]; exact h.2.1 r hr
  · rw [zu_n (by omega)]; exact h.2.2.1
  · rw [zu_n (by omega)]; exact h.2.2.2 j hj
theorem lD.ren {N a x : Nat} {d : zD} {w : zF} (h : lD N d w) (hN : N ≤ 4) (ha : a < N) : lD N (zo_ren d a x) (upd w (26 + a) (nI x)) := by
  refine ⟨fun j hj => ?_, fun r hr => ?_, ?_, fun j hj => ?_⟩
  · rw [zu_n (by omega)]; exact h.1 j hj
  · show upd w (26 + a) (nI x) (26 + r) = nI (if r = a then x else z_knd d r)
    by_cases e : r = a
    · rw [e, zu_s, if_pos rfl]
    · rw [zu_n (by omega), if_neg e]; exact h.2.1 r hr
  · rw [zu_n (by omega)]; exact h.2.2.1
  · rw [zu_n (by omega)]; exact h.2.2.2 j hj
theorem lD.renNo {N a x : Nat} {d : zD} {w : zF} (h : lD N d w) (hN : N ≤ 4) (ha : a < N) (e : z_knd d a = x) : lD N d (upd w (26 + a) (nI x)) := by
  refine ⟨fun j hj => ?_, fun r hr => ?_, ?_, fun j hj => ?_⟩
  · rw [zu_n (by omega)]; exact h.1 j hj
  · by_cases e2 : r = a
    · rw [e2, zu_s, e]
    · rw [zu_n (by omega)]; exact h.2.1 r hr
  · rw [zu_n (by omega)]; exact h.2.2.1
  · rw [zu_n (by omega)]; exact h.2.2.2 j hj
theorem zh_n_pos (n : Nat) : 0 < zh_n n := by
  unfold zh_n
  split <;> omega
theorem zh_p_prev {n : Nat} (hn : n ≤ 8) (hs : Nat → zD) (d : zD) : zh_p n hs d (zh_n n - 1) = hs n := by
  have h0 := zh_n_pos n
  rw [zh_p_lt hs d (show zh_n n - 1 < zh_n n by omega)]
  by_cases e : n = 8
  · rw [zh_o_8 e, zh_n_8 e, e]
  · rw [zh_o_S e, zh_n_S e, Nat.add_sub_cancel]
