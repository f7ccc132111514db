/-! least: the class's search, the model's levels -/
theorem zu_self (f : zF) (k : Nat) : upd f k (f k) = f := by
  funext j
  rw [zu_e]
  split
  · rename_i h; rw [h]
  · rfl
theorem sx_fewest {L M : List Nat} {W : Nat} {st fe : zF} {K : Int32 → Prop} (hL : zL L) (hML : M.length = L.length) (hW : W < 1024) (hst : ∀ i, i < L.length → st i = nI (z_nth L i)) (hfe : xF M fe)
    (h1 : ∀ k, k < L.length → ¬ z_nth L k &&& W = 0 → (∀ j, j < k → z_nth L j &&& W = 0) → K (nI (z_nth M k))) (h0 : (∀ j, j < L.length → z_nth L j &&& W = 0) → K (-4)) : wp_X8_fewestLettersTo (nI L.length) st fe (nI W) K := by
  have hlen := hL.len
  unfold wp_X8_fewestLettersTo
  intro E hE E2 hE2
  refine zl_inv (σ := Unit) (fun n i _ => lp_X8_fewestLettersTo_2 (nI L.length) st (nI W) E E2 n (nI i)) (fun i _ => ∀ j, j < i → z_nth L j &&& W = 0) L.length ?_ ?_ 0 () (Nat.zero_le _) (fun j hj => absurd hj (Nat.not_lt_zero _))
  · intro n _ hj
    rw [lp_X8_fewestLettersTo_2]
    exact zb_t (by rw [zn_le (by omega) (by omega)]; exact Nat.le_refl _) (hE2 (h0 hj))
  · intro n i _ hi hj ih
    have hs := hL.2 _ (z_nth_mem hi)
    have ha : z_nth L i &&& W < 1024 := Nat.lt_of_le_of_lt Nat.and_le_right hW
    rw [lp_X8_fewestLettersTo_2]
    refine zb_f (by rw [zn_le (by omega) (by omega)]; omega) ?_
    rw [zn_in (by omega), zn_cl (by omega), hst i hi, zn_and, zn_eq0 (by omega)]
    refine ⟨by omega, fun e => ?_, fun e => ?_⟩
    · rintro _ rfl
      rw [zn_add]
      refine ih () (fun j q => ?_)
      by_cases q2 : j = i
      · subst q2; exact e
      · exact hj j (by omega)
    · apply hE
      rw [zn_in (by omega), zn_cl (by omega), hfe i (by omega)]
      exact ⟨by omega, h1 i hi e hj⟩
/-- the model's levels up to n -/
def mLv (P : List Nat × List Nat) (n : Nat) (fn : zF) : Prop := fn 0 = nI 0 ∧ ∀ s, 0 < s → s < 1024 → (∃ k, k < P.1.length ∧ z_nth P.1 k = s ∧ z_nth P.2 k ≤ n ∧ fn s = nI (z_nth P.2 k)) ∨ (fn s = nI 0 ∧ ∀ k, k < P.1.length → z_nth P.1 k = s → n < z_nth P.2 k)
def mMd (go : Nat → Nat → Nat) (P : List Nat × List Nat) (n c y : Nat) (fn : zF) : Prop := fn 0 = nI 0 ∧ ∀ s, 0 < s → s < 1024 → (∃ k, k < P.1.length ∧ z_nth P.1 k = s ∧ z_nth P.2 k ≤ n + 1 ∧ fn s = nI (z_nth P.2 k)) ∨ (fn s = nI 0 ∧ (∀ k, k < P.1.length → z_nth P.1 k = s → n < z_nth P.2 k) ∧ ∀ a x, a < P.1.length → x < 6 → z_nth P.2 a = n → (z_nth P.1 a < c ∨ (z_nth P.1 a = c ∧ x < y)) → ¬ go (z_nth P.1 a) x = s)
theorem mLv.md {go : Nat → Nat → Nat} {P : List Nat × List Nat} {n : Nat} {fn : zF} (h0 : ∀ x, go 0 x = 0) (h : mLv P n fn) : mMd go P n 1 0 fn := by
  refine ⟨h.1, fun s s0 s1 => ?_⟩
  rcases h.2 s s0 s1 with ⟨k, k1, k2, k3, k4⟩ | ⟨e1, e2⟩
  · exact Or.inl ⟨k, k1, k2, by omega, k4⟩
  · refine Or.inr ⟨e1, e2, fun a x _ _ _ hc => ?_⟩
    have hz : z_nth P.1 a = 0 := by omega
    rw [hz, h0]
    omega
theorem mMd.lv {bg : Nat → Nat} {go : Nat → Nat → Nat} {P : List Nat × List Nat} {hi n c : Nat} {fn : zF} (hI : zI bg go P hi) (hn : 1 ≤ n) (hc : ∀ a, a < P.1.length → z_nth P.1 a < c) (h : mMd go P n c 0 fn) : mLv P (n + 1) fn := by
  refine ⟨h.1, fun s s0 s1 => ?_⟩
  rcases h.2 s s0 s1 with ⟨k, k1, k2, k3, k4⟩ | ⟨e1, e2, e3⟩
  · exact Or.inl ⟨k, k1, k2, k3, k4⟩
  · refine Or.inr ⟨e1, fun k k1 k2 => ?_⟩
    have h1 := e2 k k1 k2
    rcases Nat.lt_or_ge (n + 1) (z_nth P.2 k) with q | q
    · exact q
    · rcases hI.2.2.2 k k1 with ⟨b1, -⟩ | ⟨a, x, a1, a2, a3, a4, a5, a6⟩
      · omega
      · exact absurd (by rw [← a5, k2]) (e3 a x a1 a2 (by omega) (Or.inl (hc a a1)))
theorem mMd.is {bg : Nat → Nat} {go : Nat → Nat → Nat} {P : List Nat × List Nat} {hi n c y s : Nat} {fn : zF} (hI : zI bg go P hi) (hM : hi ≤ 1025) (hn : 1 ≤ n) (hn2 : n < 10) (h : mMd go P n c y fn) (s0 : 0 < s) (s1 : s < 1024) : fn s = nI n ↔ ∃ k, k < P.1.length ∧ z_nth P.1 k = s ∧ z_nth P.2 k = n := by
  rcases h.2 s s0 s1 with ⟨k, k1, k2, k3, k4⟩ | ⟨e1, e2, -⟩
  · have b := hI.2.2.1 k k1
    rw [k4, zn_eq (by omega) (by omega)]
    constructor
    · intro e; exact ⟨k, k1, k2, e⟩
    · rintro ⟨k', b1, b2, b3⟩
      have e := z_nth_inj hI.1.1.1 k1 b1 (by rw [k2, b2])
      subst e; exact b3
  · rw [e1, zn_eq (by omega) (by omega)]
    constructor
    · intro e; omega
    · rintro ⟨k', b1, b2, b3⟩
      have := e2 k' b1 b2
      omega
theorem mMd.next {go : Nat → Nat → Nat} {P : List Nat × List Nat} {n c y : Nat} {fn : zF} (h : mMd go P n c y fn) (hc : ∀ a, a < P.1.length → z_nth P.1 a = c → z_nth P.2 a = n → y = 6) : mMd go P n (c + 1) 0 fn := by
  refine ⟨h.1, fun s s0 s1 => ?_⟩
  rcases h.2 s s0 s1 with ⟨k, k1, k2, k3, k4⟩ | ⟨e1, e2, e3⟩
  · exact Or.inl ⟨k, k1, k2, k3, k4⟩
  · refine Or.inr ⟨e1, e2, fun a x ha hx hm q => ?_⟩
    rcases Nat.lt_or_ge (z_nth P.1 a) c with q2 | q2
    · exact e3 a x ha hx hm (Or.inl q2)
    · have q3 : z_nth P.1 a = c := by omega
      have q4 := hc a ha q3 hm
      exact e3 a x ha hx hm (Or.inr ⟨q3, by omega⟩)
theorem sp_least152 {q : zR} {kn : Nat → Nat} {n c hi : Nat} {rule takes behind slot fn : zF} {E : zF → Prop} (hq : zW q) (hr : ∀ r, r < z_nR q → rule r = nI (z_fst q r) ∧ rule (4 + r) = nI (z_whl q r) ∧ rule (8 + r) = nI (z_of q r)) (ht : ∀ p, p < z_nP q → takes p = nI (z_tk q p) ∧ behind p = nI (z_bh q p)) (hk : ∀ r, r < 4 → slot (26 + r) = nI (kn r)) (hk4 : ∀ r, r < 4 → kn r < 4) (hI : zI (z_bgn q 0) (z_go q kn) (z_pe (z_bgn q 0) (z_go q kn)) hi) (hhi : hi ≤ 1025) (hC : zCl (z_go q kn) (z_pe (z_bgn q 0) (z_go q kn)) (z_pe (z_bgn q 0) (z_go q kn)).1.length) (hn : 1 ≤ n) (hn2 : n < 9) (c0 : 0 < c) (c1 : c < 1024) (h0 : mMd (z_go q kn) (z_pe (z_bgn q 0) (z_go q kn)) n c 0 fn)
    (h : ∀ fn' : zF, mMd (z_go q kn) (z_pe (z_bgn q 0) (z_go q kn)) n (c + 1) 0 fn' → E fn') : ∃ m, lp_X10_least_152 (nI (z_nR q)) (nI (z_nP q)) rule takes behind slot (nI n) (nI c) E m (nI 0) fn := by
  refine zl_inv (σ := zF) (fun m y s => lp_X10_least_152 (nI (z_nR q)) (nI (z_nP q)) rule takes behind slot (nI n) (nI c) E m (nI y) s) (fun y s => mMd (z_go q kn) (z_pe (z_bgn q 0) (z_go q kn)) n c y s) 6 ?_ ?_ 0 fn (Nat.zero_le _) h0
  · intro m s hs
    rw [lp_X10_least_152]
    exact zb_t (by rw [zn_le (by omega) (by omega)]; omega) (h s (hs.next (fun _ _ _ _ => rfl)))
  · intro m y s hy hs ih
    have his := hs.is hI hhi hn (by omega) c0 c1
    rw [lp_X10_least_152]
    refine zb_f (by rw [zn_le (by omega) (by omega)]; omega) ?_
    rw [zn_in (by omega), zn_cl (by omega)]
    refine ⟨c1, fun e => ?_, fun e => ?_⟩
    · exact h s (hs.next (fun a a1 a2 a3 => absurd (his.mpr ⟨a, a1, a2, a3⟩) e))
    · obtain ⟨k0, k1, k2, k3⟩ := his.mp e
      have hg := hq.bnd (z_go_lt hq kn c y)
      refine sp_goes hq (fun r hr' => (hr r hr').2) (fun p hp => (ht p hp).1) (fun p hp => (ht p hp).2) hk hk4 (by omega) (by omega) ?_
      rw [zn_in (by omega), zn_cl (by omega)]
      refine ⟨fun e2 => ⟨hg, ?_⟩, fun e2 => ⟨hg, fun e3 => ⟨hg, ?_⟩, fun e3 => ?_⟩⟩
      · rintro _ rfl
        refine ⟨hg, ?_⟩
        rintro _ rfl _ rfl
        rw [zu_self, zn_add]
        rw [zn_eq0 (by omega)] at e2
        refine ih s ⟨hs.1, fun t t0 t1 => ?_⟩
        rcases hs.2 t t0 t1 with b | ⟨b1, b2, b3⟩
        · exact Or.inl b
        · refine Or.inr ⟨b1, b2, fun a x ha hx hm q2 => ?_⟩
          by_cases q3 : z_nth (z_pe (z_bgn q 0) (z_go q kn)).1 a = c ∧ x = y
          · rw [q3.1, q3.2, e2]; omega
          · exact b3 a x ha hx hm (by omega)
      · rintro _ rfl
        refine ⟨hg, ?_⟩
        rintro _ rfl _ rfl
        rw [zu_self, zn_add]
        refine ih s ⟨hs.1, fun t t0 t1 => ?_⟩
        rcases hs.2 t t0 t1 with b | ⟨b1, b2, b3⟩
        · exact Or.inl b
        · refine Or.inr ⟨b1, b2, fun a x ha hx hm q2 => ?_⟩
          by_cases q3 : z_nth (z_pe (z_bgn q 0) (z_go q kn)).1 a = c ∧ x = y
          · rw [q3.1, q3.2]
            intro q4
            rw [q4] at e3
            exact e3 b1
          · exact b3 a x ha hx hm (by omega)
      · rw [zn_add]
        rintro _ rfl
        refine ⟨hg, ?_⟩
        rintro _ rfl _ rfl
        rw [zn_add]
        rw [zn_eq0 (by omega)] at e2
        have hne : ¬ z_go q kn (z_nth (z_pe (z_bgn q 0) (z_go q kn)).1 k0) y = 0 := by rw [k2]; exact e2
        obtain ⟨k, j1, j2, j3⟩ := hC k0 y k1 k1 hy hne
        rw [k2] at j2
        rw [k3] at j3
        have hk1 := hI.one j1
        have hkn : z_nth (z_pe (z_bgn q 0) (z_go q kn)).2 k = n + 1 := by
          rcases hs.2 (z_go q kn c y) (by omega) hg with ⟨k', b1, b2, b3, b4⟩ | ⟨b1, b2, b3⟩
          · have b5 := hI.one b1
            have b6 := hI.2.2.1 k' b1
            rw [b4, zn_eq0 (by omega)] at e3
            omega
          · have := b2 k j1 j2
            omega
        refine ih _ ⟨?_, fun t t0 t1 => ?_⟩
        · rw [zu_n (by omega)]; exact hs.1
        · by_cases q5 : t = z_go q kn c y
          · refine Or.inl ⟨k, j1, by rw [j2, q5], by omega, ?_⟩
            rw [q5, zu_s, hkn]
          · rw [zu_n q5]
            rcases hs.2 t t0 t1 with b | ⟨b1, b2, b3⟩
            · exact Or.inl b
            · refine Or.inr ⟨b1, b2, fun a x ha hx hm q2 => ?_⟩
              by_cases q3 : z_nth (z_pe (z_bgn q 0) (z_go q kn)).1 a = c ∧ x = y
              · rw [q3.1, q3.2]; exact fun z => q5 z.symm
              · exact b3 a x ha hx hm (by omega)
theorem sp_least138 {q : zR} {kn : Nat → Nat} {n hi : Nat} {rule takes behind slot fn : zF} {E : zF → Prop} (hq : zW q) (hr : ∀ r, r < z_nR q → rule r = nI (z_fst q r) ∧ rule (4 + r) = nI (z_whl q r) ∧ rule (8 + r) = nI (z_of q r)) (ht : ∀ p, p < z_nP q → takes p = nI (z_tk q p) ∧ behind p = nI (z_bh q p)) (hk : ∀ r, r < 4 → slot (26 + r) = nI (kn r)) (hk4 : ∀ r, r < 4 → kn r < 4) (hI : zI (z_bgn q 0) (z_go q kn) (z_pe (z_bgn q 0) (z_go q kn)) hi) (hhi : hi ≤ 1025) (hC : zCl (z_go q kn) (z_pe (z_bgn q 0) (z_go q kn)) (z_pe (z_bgn q 0) (z_go q kn)).1.length) (hlt : ∀ a, a < (z_pe (z_bgn q 0) (z_go q kn)).1.length → z_nth (z_pe (z_bgn q 0) (z_go q kn)).1 a < 2 ^ z_nP q) (hn : 1 ≤ n) (hn2 : n < 9) (h0 : mLv (z_pe (z_bgn q 0) (z_go q kn)) n fn)
    (h : ∀ fn' : zF, mLv (z_pe (z_bgn q 0) (z_go q kn)) (n + 1) fn' → E fn') : ∃ m, lp_X10_least_138 (nI (z_nR q)) (nI (z_nP q)) rule takes behind slot (nI n) E m (nI 1) fn := by
  have hP : z_nP q ≤ 10 := hq.2.2.1
  have h2 := hq.pP
  have h2' : 1 ≤ 2 ^ z_nP q := Nat.two_pow_pos _
  refine zl_inv (σ := zF) (fun m c s => lp_X10_least_138 (nI (z_nR q)) (nI (z_nP q)) rule takes behind slot (nI n) E m (nI c) s) (fun c s => 1 ≤ c ∧ mMd (z_go q kn) (z_pe (z_bgn q 0) (z_go q kn)) n c 0 s) (2 ^ z_nP q) ?_ ?_ 1 fn h2' ⟨Nat.le_refl _, h0.md (z_fall_0 q kn)⟩
  · rintro m s ⟨-, hs⟩
    rw [lp_X10_least_138, zn_shl (by omega)]
    exact zb_t (by rw [zn_le (by omega) (by omega)]; exact Nat.le_refl _) (h s (hs.lv hI hn hlt))
  · rintro m c s hc ⟨hc1, hs⟩ ih
    rw [lp_X10_least_138, zn_shl (by omega)]
    refine zb_f (by rw [zn_le (by omega) (by omega)]; omega) ?_
    intro E2 hE2
    refine sp_least152 hq hr ht hk hk4 hI hhi hC hn hn2 hc1 (by omega) hs (fun fn' hf => hE2 _ ?_)
    rintro _ rfl
    rw [zn_add]
    exact ih fn' ⟨by omega, hf⟩
theorem sp_least77 {q : zR} {P : List Nat × List Nat} {bg : Nat → Nat} {go : Nat → Nat → Nat} {n hi r W : Nat} {rule fn : zF} {E : Int32 → Prop} (hq : zW q) (hI : zI bg go P hi) (hhi : hi ≤ 1025) (h00 : ∀ x, go 0 x = 0) (hlt : ∀ a, a < P.1.length → z_nth P.1 a < 2 ^ z_nP q) (hr : r < 4) (hw : rule (4 + r) = nI W) (hW : W < 1024) (hn : 1 ≤ n) (hn2 : n < 9) (h0 : mLv P n fn)
    (h1 : (∃ k, k < P.1.length ∧ z_nth P.2 k = n ∧ ¬ z_nth P.1 k &&& W = 0) → E (nI 1)) (h2 : (∀ k, k < P.1.length → z_nth P.2 k = n → z_nth P.1 k &&& W = 0) → E (nI 0)) : ∃ m, lp_X10_least_77 (nI (z_nP q)) rule fn (nI r) (nI n) E m (nI 0) (nI 1) := by
  have hP : z_nP q ≤ 10 := hq.2.2.1
  have p2 := hq.pP
  have p2' : 1 ≤ 2 ^ z_nP q := Nat.two_pow_pos _
  refine zl_inv (σ := Int32) (fun m c v => lp_X10_least_77 (nI (z_nP q)) rule fn (nI r) (nI n) E m v (nI c)) (fun c v => 1 ≤ c ∧ ((v = nI 1 ∧ ∃ k, k < P.1.length ∧ z_nth P.2 k = n ∧ ¬ z_nth P.1 k &&& W = 0) ∨ (v = nI 0 ∧ ∀ k, k < P.1.length → z_nth P.2 k = n → z_nth P.1 k < c → z_nth P.1 k &&& W = 0))) (2 ^ z_nP q) ?_ ?_ 1 (nI 0) p2' ⟨Nat.le_refl _, Or.inr ⟨rfl, fun k _ _ hk => by rw [show z_nth P.1 k = 0 by omega, Nat.zero_and]⟩⟩
  · rintro m v ⟨-, ⟨rfl, hx⟩ | ⟨rfl, hx⟩⟩
    · rw [lp_X10_least_77, zn_shl (by omega)]
      exact zb_t (by rw [zn_le (by omega) (by omega)]; exact Nat.le_refl _) (h1 hx)
    · rw [lp_X10_least_77, zn_shl (by omega)]
      exact zb_t (by rw [zn_le (by omega) (by omega)]; exact Nat.le_refl _) (h2 (fun k k1 k2 => hx k k1 k2 (hlt k k1)))
  · rintro m c v hc ⟨hc1, ⟨rfl, hx⟩ | ⟨rfl, hx⟩⟩ ih
    · rw [lp_X10_least_77, zn_shl (by omega)]
      refine zb_f (by rw [zn_le (by omega) (by omega)]; omega) (zb_f2 zi_1 ?_)
      rintro _ rfl
      rw [zn_add]
      exact ih _ ⟨by omega, Or.inl ⟨rfl, hx⟩⟩
    · have his := (h0.md (go := go) h00).is hI hhi hn (by omega) (show 0 < c by omega) (show c < 1024 by omega)
      have ha : c &&& W < 1024 := Nat.lt_of_le_of_lt Nat.and_le_right hW
      rw [lp_X10_least_77, zn_shl (by omega)]
      refine zb_f (by rw [zn_le (by omega) (by omega)]; omega) (zb_t2 rfl ?_)
      rw [zn_in (by omega), zn_cl (by omega), zn_add 4 r, zn_in (by omega), zn_cl (by omega), hw, zn_and, zn_eq0 (by omega)]
      refine ⟨by omega, fun e => ?_, fun e => ⟨by omega, fun e2 => ?_, fun e2 => ?_⟩⟩
      · rintro _ rfl
        rw [zn_add]
        refine ih _ ⟨by omega, Or.inr ⟨rfl, fun k k1 k2 k3 => ?_⟩⟩
        by_cases q2 : z_nth P.1 k = c
        · exact absurd (his.mpr ⟨k, k1, q2, k2⟩) e
        · exact hx k k1 k2 (by omega)
      · rintro _ rfl
        rw [zn_add]
        refine ih _ ⟨by omega, Or.inr ⟨rfl, fun k k1 k2 k3 => ?_⟩⟩
        by_cases q2 : z_nth P.1 k = c
        · rw [q2]; exact e2
        · exact hx k k1 k2 (by omega)
      · rintro _ rfl
        rw [zn_add]
        obtain ⟨k, k1, k2, k3⟩ := his.mp e
        exact ih _ ⟨by omega, Or.inl ⟨rfl, k, k1, k3, by rw [k2]; exact e2⟩⟩
