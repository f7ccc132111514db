/-! the class reads a row -/
theorem zd_48 : ∀ c, c < 48 → nI c - nI 48 < 0 := by decide
theorem zd_97 : ∀ c, c < 97 → nI c - nI 97 < 0 := by decide
theorem sx_isClassD {c : Nat} {K : Int32 → Prop} (hc : c < 127) (h1 : 48 ≤ c → c ≤ 53 → K (nI 1)) (h0 : c < 48 ∨ 53 < c → K (nI 0)) : wp_X9_isClass (nI c - nI 48) K := by
  rcases Nat.lt_or_ge c 48 with q | q
  · exact sx_isClass_f (Or.inl (zd_48 c q)) (h0 (Or.inl q))
  · rw [zn_sub q]
    exact sx_isClass (by omega) (fun e => h1 q (by omega)) (fun e => h0 (Or.inr (by omega)))
theorem sx_isLetterD {c : Nat} {K : Int32 → Prop} (hc : c < 127) (h1 : 97 ≤ c → c ≤ 122 → K (nI 1)) (h0 : c < 97 ∨ 122 < c → K (nI 0)) : wp_X9_isLetter (nI c - nI 97) K := by
  rcases Nat.lt_or_ge c 97 with q | q
  · exact sx_isLetter_f (Or.inl (zd_97 c q)) (h0 (Or.inl q))
  · rw [zn_sub q]
    exact sx_isLetter (by omega) (fun e => h1 q (by omega)) (fun e => h0 (Or.inr (by omega)))
/-- a sign of the text, 0 behind it -/
def z_tx (m : Nat) (t : Nat → Nat) (i : Nat) : Nat := if i < m then t i else 0
theorem z_tx_in {m : Nat} {t : Nat → Nat} {i : Nat} (h : i < m) : z_tx m t i = t i := if_pos h
theorem z_tx_lt {m : Nat} {t : Nat → Nat} (hT : zT m t) (i : Nat) : z_tx m t i < 127 := by
  unfold z_tx
  split
  · rename_i h; have := hT.2 i h; omega
  · omega
theorem sx_signAt {m i : Nat} {t : Nat → Nat} {tl : Int32} {signs : zF} {K : Int32 → Prop} (hT : zT m t) (hx : xT m t tl signs) (hi : i < 2147483648) (h : K (nI (z_tx m t i))) : wp_X7_signAt tl signs (nI i) K := by
  have hm := hT.1
  obtain ⟨rfl, hs⟩ := hx
  unfold wp_X7_signAt
  unfold z_tx at h
  rw [zn_le (by omega) hi, zn_in hi, zn_cl hi]
  refine zb_f (nI_pos hi) ⟨fun e => ?_, fun e => ⟨by omega, ?_⟩⟩
  · rw [if_neg (by omega)] at h; exact h
  · rw [if_pos (by omega)] at h
    rw [hs i (by omega)]
    exact h
theorem sx_partsOf {c : Nat} {K : Int32 → Prop} (hc : c < 127) (h1 : z_sn c → K (nI (z_pt c))) (h0 : ¬ z_sn c → K (-1)) : wp_X7_partsOf (nI c) K := by
  unfold wp_X7_partsOf
  rw [zn_eq (by omega) (by omega), zn_eq (by omega) (by omega), zn_eq (by omega) (by omega), zn_eq (by omega) (by omega), zn_eq (by omega) (by omega), zn_eq (by omega) (by omega)]
  refine ⟨fun e => ?_, fun e1 => ⟨fun e => ?_, fun e2 => ⟨fun e => ?_, fun e3 => ⟨fun e => ?_, fun e4 => ⟨fun e => ?_, fun e5 => ⟨fun e => ?_, fun e6 => ?_⟩⟩⟩⟩⟩⟩
  · subst e; exact h1 (by unfold z_sn; omega)
  · subst e; exact h1 (by unfold z_sn; omega)
  · subst e; exact h1 (by unfold z_sn; omega)
  · subst e; exact h1 (by unfold z_sn z_am; omega)
  · subst e; exact h1 (by unfold z_sn; omega)
  · subst e; exact h1 (by unfold z_sn; omega)
  · refine sx_isClassD hc (fun q1 q2 => ?_) (fun q => ?_)
    · have ha : z_am c := Or.inr ⟨q1, q2⟩
      have h2 := h1 (by unfold z_sn; exact Or.inr (Or.inr (Or.inr (Or.inr (Or.inr ha)))))
      rw [z_pt_am ha] at h2
      exact zb_f (by decide) h2
    · exact zb_t rfl (h0 (by unfold z_sn z_am; omega))
theorem z_du_le (t : Nat → Nat) (b : Nat) : ∀ i, z_du t b i ≤ i + 1
  | 0 => Nat.le_refl _
  | i + 1 => by
    have := z_du_le t b i
    rw [z_du_S]
    have h2 : z_pt (t (b + i)) ≤ 2 := by
      unfold z_pt
      split
      · omega
      · split <;> omega
    omega
theorem sx_isRow {m b N : Nat} {t : Nat → Nat} {tl : Int32} {signs : zF} {K : Int32 → Prop} (hT : zT m t) (hx : xT m t tl signs) (hbN : b + N ≤ m) (h1 : z_vr t b N → K (nI 1)) (h0 : ¬ z_vr t b N → K (nI 0)) : wp_X7_isRow tl signs (nI b) (nI (b + N)) K := by
  have hm := hT.1
  unfold wp_X7_isRow
  intro E hE E2 hE2
  have key : ∃ n, lp_X7_isRow_5 tl signs (nI (b + N)) E E2 n (nI (z_du t b 0)) (nI (b + 0)) := by
    refine zl_inv (σ := Unit) (fun n i _ => lp_X7_isRow_5 tl signs (nI (b + N)) E E2 n (nI (z_du t b i)) (nI (b + i))) (fun i _ => ∀ j, j < i → z_sn (t (b + j)) ∧ 0 < z_du t b j) N ?_ ?_ 0 () (Nat.zero_le _) (fun j hj => absurd hj (Nat.not_lt_zero _))
    · intro n _ hj
      have hd := z_du_le t b N
      rw [lp_X7_isRow_5]
      refine zb_t (by rw [zn_le (by omega) (by omega)]; omega) (hE2 _ ?_)
      rw [zn_sub (by omega), show b + N - b = N by omega, zn_eq0 (by omega), zn_lt (by omega) (by omega)]
      refine ⟨fun e => h0 (fun v => e v.2.1), fun e => ⟨fun e2 => h0 (fun v => by have := v.2.2; omega), fun e2 => h1 ⟨hj, e, by omega⟩⟩⟩
    · intro n i _ hi hj ih
      have hd := z_du_le t b i
      have ht := hT.2 (b + i) (by omega)
      rw [lp_X7_isRow_5]
      refine zb_f (by rw [zn_le (by omega) (by omega)]; omega) ?_
      refine sx_signAt hT hx (by omega) ?_
      rw [z_tx_in (by omega)]
      refine sx_partsOf (by omega) (fun hs => ?_) (fun hs => ?_)
      · have h2 : z_pt (t (b + i)) ≤ 2 := by
          unfold z_pt
          split
          · omega
          · split <;> omega
        rw [zn_eq0 (by omega)]
        refine zb_f (nI_pos (by omega)) ⟨fun e => ?_, fun e => hE (h0 (fun v => by have := (v.1 i hi).2; omega))⟩
        have e2 : nI (z_du t b i) + (nI (z_pt (t (b + i))) - nI 1) = nI (z_du t b (i + 1)) := by
          rw [z_du_S]
          rcases Nat.lt_or_ge 0 (z_pt (t (b + i))) with q | q
          · rw [zn_sub (by omega), zn_add]
            congr 1
            omega
          · rw [show z_pt (t (b + i)) = 0 by omega, show nI 0 - nI 1 = -1 from by decide, zn_m1 (by omega)]
            rfl
        rw [e2]
        rintro _ rfl _ rfl
        rw [zn_add]
        refine ih () (fun j hj2 => ?_)
        by_cases q : j = i
        · subst q; exact ⟨hs, by omega⟩
        · exact hj j (by omega)
      · exact zb_t (by decide) (hE (h0 (fun v => hs (v.1 i hi).1)))
  exact key
theorem sx_placesIn {m b N : Nat} {t : Nat → Nat} {tl : Int32} {signs : zF} {K : Int32 → Prop} (hT : zT m t) (hx : xT m t tl signs) (hbN : b + N ≤ m) (hs : ∀ i, i < N → z_sn (t (b + i))) (h : K (nI (z_ac t b N))) : wp_X7_placesIn tl signs (nI b) (nI (b + N)) K := by
  have hm := hT.1
  unfold wp_X7_placesIn
  intro E hE
  have key : ∃ n, lp_X7_placesIn_5 tl signs (nI (b + N)) E n (nI (z_ac t b 0)) (nI (b + 0)) := by
    refine zl_cnt (fun n i => lp_X7_placesIn_5 tl signs (nI (b + N)) E n (nI (z_ac t b i)) (nI (b + i))) N ?_ ?_ 0 (Nat.zero_le _)
    · intro n
      rw [lp_X7_placesIn_5]
      exact zb_t (by rw [zn_le (by omega) (by omega)]; omega) (hE _ h)
    · intro n i hi ih
      have ht := hT.2 (b + i) (by omega)
      rw [lp_X7_placesIn_5]
      refine zb_f (by rw [zn_le (by omega) (by omega)]; omega) ?_
      refine sx_signAt hT hx (by omega) ?_
      rw [z_tx_in (by omega)]
      refine sx_partsOf (by omega) (fun _ => ?_) (fun q => absurd (hs i hi) q)
      have h2 : z_pt (t (b + i)) ≤ 2 := by
        unfold z_pt
        split
        · omega
        · split <;> omega
      rw [zn_eq0 (by omega)]
      rw [z_ac_S] at ih
      refine ⟨fun e => ?_, fun e => ?_⟩
      · rw [if_neg e] at ih
        rintro _ rfl
        rw [zn_add]
        exact ih
      · rw [if_pos e] at ih
        rintro _ rfl _ rfl
        rw [zn_add, zn_add]
        exact ih
  exact key
theorem sx_addPlace {p h x : Nat} {T B F L W : zF} {K : zF → zF → Int32 → zF → zF → zF → Prop} (hp : p < 10) (hh : h < 16) (k : K (upd T p (nI x)) (upd B p (nI 0)) (nI (h + 1)) (upd F h (nI (2 ^ p))) (upd L h (nI (2 ^ p))) (upd W h (nI false.toNat))) : wp_X4_addPlace T B (nI h) F L W (nI p) (nI x) K := by
  unfold wp_X4_addPlace
  refine zb_f (nI_pos (by omega)) (zb_f (by rw [zn_le (by omega) (by omega)]; omega) ?_)
  rw [zn_in (by omega), zn_cl (by omega), zn_shl (by omega)]
  refine ⟨hp, ?_⟩
  rintro _ rfl
  refine ⟨hp, ?_⟩
  rintro _ rfl
  exact sx_push (a := false) hh k
/-- the reading of a row, n signs from its end -/
def z_rn (t : Nat → Nat) (b N base : Nat) (tk bh : Nat → Nat) : Nat → zS
  | 0 => (z_ac t b N, 0, fun _ => 0, fun _ => 0, fun _ => false, tk, bh)
  | n + 1 => z_sg base (t (b + (N - 1 - n))) (z_rn t b N base tk bh n)
theorem z_rn_at (t : Nat → Nat) (b N base : Nat) (tk bh : Nat → Nat) {i : Nat} (hi : i < N) : z_rn t b N base tk bh (N - i) = z_sg base (t (b + i)) (z_rn t b N base tk bh (N - (i + 1))) := by
  rw [show N - i = (N - (i + 1)) + 1 by omega]
  show z_sg base (t (b + (N - 1 - (N - (i + 1))))) _ = _
  rw [show N - 1 - (N - (i + 1)) = i by omega]
theorem z_rn_J {t : Nat → Nat} {b N : Nat} (base : Nat) (tk bh : Nat → Nat) (hv : z_vr t b N) : ∀ m i, i + m = N → zJ base (z_ac t b N) (z_du t b i) (z_ac t b i) (z_rn t b N base tk bh (N - i)) ∧ zJo base (z_rn t b N base tk bh (N - i)) tk bh
  | 0, i, e => by
    rw [show i = N by omega, Nat.sub_self]
    refine ⟨⟨?_, rfl, fun j hj => ?_, fun p p1 p2 => by omega⟩, fun p _ => ⟨rfl, rfl⟩⟩
    · rw [hv.2.1]; rfl
    · rw [hv.2.1] at hj; exact absurd hj (Nat.not_lt_zero _)
  | m + 1, i, e => by
    obtain ⟨h1, h2⟩ := z_rn_J base tk bh hv m (i + 1) (by omega)
    obtain ⟨s1, s2⟩ := hv.1 i (by omega)
    rw [z_rn_at t b N base tk bh (by omega)]
    refine ⟨h1.sg rfl s1 s2 (z_ac_m t b (by omega)), zJo.sg s1 (by rw [z_du_S]; omega) h1 h2⟩
/-- the rules with one more -/
def z_ad (q : zR) (t : Nat → Nat) (b N : Nat) : zR :=
  (z_nR q + 1, z_nP q + z_ac t b N, z_up (z_of q) (z_nR q) (2 ^ (z_nP q + z_ac t b N) - 2 ^ z_nP q), z_up (z_fst q) (z_nR q) (zs_f (z_rn t b N (z_nP q) (z_tk q) (z_bh q) N) 0), z_up (z_whl q) (z_nR q) (zs_l (z_rn t b N (z_nP q) (z_tk q) (z_bh q) N) 0), zs_t (z_rn t b N (z_nP q) (z_tk q) (z_bh q) N), zs_b (z_rn t b N (z_nP q) (z_tk q) (z_bh q) N))
theorem sx_add {m b N : Nat} {q : zR} {t : Nat → Nat} {tl nu pn ph : Int32} {signs P F Wh T B pf pl pw : zF} {K : Int32 → Int32 → zF → zF → zF → zF → zF → Int32 → zF → zF → zF → Prop} (hT : zT m t) (hx : xT m t tl signs) (hb : 1 ≤ b) (hbN : b + N ≤ m) (hv : z_vr t b N) (hR : xR q nu pn P F Wh T B) (h4 : z_nR q < 4) (h10 : z_nP q + z_ac t b N ≤ 10)
    (h : ∀ (nu' pn' ph' : Int32) (P' F' Wh' T' B' pf' pl' pw' : zF), xR (z_ad q t b N) nu' pn' P' F' Wh' T' B' → K nu' pn' P' F' Wh' T' B' ph' pf' pl' pw') : wp_X4_add nu pn P F Wh T B ph pf pl pw tl signs (nI b) (nI (b + N)) K := by
  have hm := hT.1
  have hN := hv.2.2
  obtain ⟨rfl, rfl, hr, ht⟩ := hR
  unfold wp_X4_add
  refine sx_placesIn hT hx hbN (fun i hi => (hv.1 i hi).1) ?_
  refine zb_f (by rw [zn_le (by omega) (by omega)]; omega) ?_
  rw [zn_add, zn_le (by omega) (by omega)]
  refine zb_t h10 ?_
  show ∀ v5_3 : Int32, _ → ∀ v6_4 : Int32, _ → _
  rintro _ rfl _ rfl
  rw [zn_sub (by omega)]
  intro E hE
  have key : ∃ n, lp_X4_add_50 tl signs (nI b) E n (nI (z_nP q + zs_k (z_rn t b N (z_nP q) (z_tk q) (z_bh q) (N - N)))) (nI (b + N - 1)) T B (nI (zs_h (z_rn t b N (z_nP q) (z_tk q) (z_bh q) (N - N)))) pf pl pw := by
    refine zl_down (σ := zF × zF × zF × zF × zF) (fun n i s => lp_X4_add_50 tl signs (nI b) E n (nI (z_nP q + zs_k (z_rn t b N (z_nP q) (z_tk q) (z_bh q) (N - i)))) (nI (b + i - 1)) s.1 s.2.1 (nI (zs_h (z_rn t b N (z_nP q) (z_tk q) (z_bh q) (N - i)))) s.2.2.1 s.2.2.2.1 s.2.2.2.2) (fun i s => i ≤ N ∧ zH (z_nP q) (z_ac t b N) (z_rn t b N (z_nP q) (z_tk q) (z_bh q) (N - i)) s.2.2.1 s.2.2.2.1 s.2.2.2.2 s.1 s.2.1) ?_ ?_ N (T, B, pf, pl, pw) ⟨Nat.le_refl _, ?_⟩
    · rintro n ⟨s1, s2, s3, s4, s5⟩ ⟨-, g⟩
      have g : zH (z_nP q) (z_ac t b N) (z_rn t b N (z_nP q) (z_tk q) (z_bh q) (N - 0)) s3 s4 s5 s1 s2 := g
      obtain ⟨hJ, hJo⟩ := z_rn_J (z_nP q) (z_tk q) (z_bh q) hv N 0 (by omega)
      rw [Nat.sub_zero] at g hJ hJo
      have e1 : zs_h (z_rn t b N (z_nP q) (z_tk q) (z_bh q) N) = 1 := hJ.1
      have e2 : zs_k (z_rn t b N (z_nP q) (z_tk q) (z_bh q) N) = 0 := hJ.2.1
      show lp_X4_add_50 tl signs (nI b) E (n + 1) (nI (z_nP q + zs_k (z_rn t b N (z_nP q) (z_tk q) (z_bh q) (N - 0)))) (nI (b + 0 - 1)) s1 s2 (nI (zs_h (z_rn t b N (z_nP q) (z_tk q) (z_bh q) (N - 0)))) s3 s4 s5
      rw [lp_X4_add_50, Nat.sub_zero, e1]
      refine zb_t (by rw [zn_lt (by omega) (by omega)]; omega) (hE _ _ _ _ _ _ ?_)
      have p2 : (2 : Nat) ^ z_nP q ≤ 2 ^ (z_nP q + z_ac t b N) := Nat.pow_le_pow_right (by decide) (by omega)
      rw [zn_shl (by omega), zn_shl (by omega), zn_sub p2, zn_in (by omega), zn_cl (by omega)]
      rintro _ rfl
      refine ⟨h4, ?_⟩
      rintro _ rfl
      refine sx_first (h := 0) (by omega) ⟨h4, ?_⟩
      rintro _ rfl
      refine sx_last (h := 0) (by omega) ⟨h4, ?_⟩
      rintro _ rfl _ rfl _ rfl
      rw [zn_add]
      have g0 := g.1 0 (by omega)
      rw [g0.1, g0.2.1]
      refine h _ _ _ _ _ _ _ _ _ _ _ ⟨rfl, rfl, fun r hr2 => ?_, fun p hp => ?_⟩
      · have hr2 : r < z_nR q + 1 := hr2
        refine ⟨zu_up (fun e => (hr r (by omega)).1), zu_up (fun e => (hr r (by omega)).2.1), zu_up (fun e => (hr r (by omega)).2.2)⟩
      · have hp : p < z_nP q + z_ac t b N := hp
        exact g.2 p (by omega)
    · rintro n i ⟨s1, s2, s3, s4, s5⟩ ⟨hi, g⟩ ih
      have g : zH (z_nP q) (z_ac t b N) (z_rn t b N (z_nP q) (z_tk q) (z_bh q) (N - (i + 1))) s3 s4 s5 s1 s2 := g
      obtain ⟨hJ, hJo⟩ := z_rn_J (z_nP q) (z_tk q) (z_bh q) hv (N - (i + 1)) (i + 1) (by omega)
      have hd := z_vr_du hv (N - (i + 1)) (i + 1) (by omega)
      have hac := z_ac_m t b (show i + 1 ≤ N by omega)
      obtain ⟨sn, du⟩ := hv.1 i (by omega)
      have htt := hT.2 (b + i) (by omega)
      have hat := z_rn_at t b N (z_nP q) (z_tk q) (z_bh q) (show i < N by omega)
      show lp_X4_add_50 tl signs (nI b) E (n + 1) (nI (z_nP q + zs_k (z_rn t b N (z_nP q) (z_tk q) (z_bh q) (N - (i + 1))))) (nI (b + (i + 1) - 1)) s1 s2 (nI (zs_h (z_rn t b N (z_nP q) (z_tk q) (z_bh q) (N - (i + 1))))) s3 s4 s5
      rw [hJ.1, hJ.2.1, show b + (i + 1) - 1 = b + i by omega, lp_X4_add_50]
      refine zb_f (by rw [zn_lt (by omega) (by omega)]; omega) ?_
      refine sx_signAt hT hx (by omega) ?_
      rw [z_tx_in (by omega)]
      intro J hJJ
      have atom : z_am (t (b + i)) → J := by
        intro ha
        have hp0 := z_pt_am ha
        have eac : z_ac t b (i + 1) = z_ac t b i + 1 := by rw [z_ac_S, if_pos hp0]
        have edu : z_du t b (i + 1) = z_du t b i - 1 := by rw [z_du_S, hp0, Nat.add_zero]
        apply hJJ
        rintro _ rfl
        intro J2 hJ2
        have fin : J2 (nI (if t (b + i) = 46 then 6 else t (b + i) - 48)) := by
          apply hJ2
          rw [zn_m1 (by omega)]
          refine sx_addPlace (by omega) (by omega) ?_
          rintro _ rfl
          rw [zn_m1 (by omega)]
          have h9 := ih (upd s1 (z_nP q + z_ac t b (i + 1) - 1) (nI (if t (b + i) = 46 then 6 else t (b + i) - 48)), upd s2 (z_nP q + z_ac t b (i + 1) - 1) (nI 0), upd s3 (z_du t b (i + 1)) (nI (2 ^ (z_nP q + z_ac t b (i + 1) - 1))), upd s4 (z_du t b (i + 1)) (nI (2 ^ (z_nP q + z_ac t b (i + 1) - 1))), upd s5 (z_du t b (i + 1)) (nI false.toNat)) ⟨by omega, by
            show zH (z_nP q) (z_ac t b N) (z_rn t b N (z_nP q) (z_tk q) (z_bh q) (N - i)) (upd s3 _ _) (upd s4 _ _) (upd s5 _ _) (upd s1 _ _) (upd s2 _ _)
            rw [hat, z_sg_am ha, hJ.1, hJ.2.1, show z_nP q + (z_ac t b (i + 1) - 1) = z_nP q + z_ac t b (i + 1) - 1 by omega]
            refine ⟨fun j hj => ?_, fun p hp => ?_⟩
            · have hj : j < z_du t b (i + 1) + 1 := hj
              refine ⟨zu_up (fun e => (g.1 j (by rw [hJ.1]; omega)).1), zu_up (fun e => (g.1 j (by rw [hJ.1]; omega)).2.1), zu_upb (fun e => (g.1 j (by rw [hJ.1]; omega)).2.2)⟩
            · have hp : p < z_nP q ∨ (z_nP q + (z_ac t b (i + 1) - 1) ≤ p ∧ p < z_nP q + z_ac t b N) := hp
              refine ⟨zu_up (fun e => (g.2 p (by rw [hJ.2.1]; omega)).1), zu_up (fun e => (g.2 p (by rw [hJ.2.1]; omega)).2)⟩⟩
          have h9 : lp_X4_add_50 tl signs (nI b) E n (nI (z_nP q + zs_k (z_rn t b N (z_nP q) (z_tk q) (z_bh q) (N - i)))) (nI (b + i - 1)) (upd s1 (z_nP q + z_ac t b (i + 1) - 1) (nI (if t (b + i) = 46 then 6 else t (b + i) - 48))) (upd s2 (z_nP q + z_ac t b (i + 1) - 1) (nI 0)) (nI (zs_h (z_rn t b N (z_nP q) (z_tk q) (z_bh q) (N - i)))) (upd s3 (z_du t b (i + 1)) (nI (2 ^ (z_nP q + z_ac t b (i + 1) - 1)))) (upd s4 (z_du t b (i + 1)) (nI (2 ^ (z_nP q + z_ac t b (i + 1) - 1)))) (upd s5 (z_du t b (i + 1)) (nI false.toNat)) := h9
          have f1 : zs_k (z_rn t b N (z_nP q) (z_tk q) (z_bh q) (N - i)) = z_ac t b (i + 1) - 1 := by rw [hat, z_sg_am ha, hJ.2.1]; rfl
          have f2 : zs_h (z_rn t b N (z_nP q) (z_tk q) (z_bh q) (N - i)) = z_du t b (i + 1) + 1 := by rw [hat, z_sg_am ha, hJ.1]; rfl
          rw [f1, f2, show z_nP q + (z_ac t b (i + 1) - 1) = z_nP q + z_ac t b (i + 1) - 1 by omega] at h9
          exact h9
        rw [zn_eq (by omega) (by omega)]
        unfold z_am at ha
        refine ⟨fun e => ?_, fun e => ?_⟩
        · rw [if_neg e] at fin
          rw [zn_sub (by omega)]
          exact fin
        · rw [if_pos e] at fin
          exact fin
      rw [zn_eq (by omega) (by omega)]
      refine ⟨fun e => atom (Or.inl e), fun e => sx_isClassD (by omega) (fun q1 q2 => zb_f (by decide) (atom (Or.inr ⟨q1, q2⟩))) (fun q1 => zb_t rfl ?_)⟩
      have hc : t (b + i) = 38 ∨ t (b + i) = 124 ∨ t (b + i) = 42 ∨ t (b + i) = 43 ∨ t (b + i) = 63 := by
        unfold z_sn z_am at sn
        omega
      refine sx_join h10 (by omega) hc (by rw [z_du_S]; omega) hJ g (fun F' L' W' B' hH => ?_)
      rintro _ rfl
      rw [zn_m1 (by omega)]
      rw [← hat] at hH ⊢
      have h9 := ih (s1, B', F', L', W') ⟨by omega, hH⟩
      have h9 : lp_X4_add_50 tl signs (nI b) E n (nI (z_nP q + zs_k (z_rn t b N (z_nP q) (z_tk q) (z_bh q) (N - i)))) (nI (b + i - 1)) s1 B' (nI (zs_h (z_rn t b N (z_nP q) (z_tk q) (z_bh q) (N - i)))) F' L' W' := h9
      have f1 : zs_k (z_rn t b N (z_nP q) (z_tk q) (z_bh q) (N - i)) = z_ac t b (i + 1) := by
        have h1 := (z_rn_J (z_nP q) (z_tk q) (z_bh q) hv (N - i) i (by omega)).1.2.1
        rw [h1, z_ac_S]
        have hz : z_pt (t (b + i)) ≠ 0 := by
          rcases hc with e | e | e | e | e <;> rw [e] <;> decide
        rw [if_neg hz]
        rfl
      rw [f1] at h9
      exact h9
    · show zH (z_nP q) (z_ac t b N) (z_rn t b N (z_nP q) (z_tk q) (z_bh q) (N - N)) pf pl pw T B
      rw [Nat.sub_self]
      refine ⟨fun i hi => absurd hi (Nat.not_lt_zero _), fun p hp => ?_⟩
      have hp : p < z_nP q ∨ (z_nP q + z_ac t b N ≤ p ∧ p < z_nP q + z_ac t b N) := hp
      exact ht p (by omega)
  rw [Nat.sub_self] at key
  exact key

