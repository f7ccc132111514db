/-! the model begins with the same -/
theorem sq_atom {base many h k c v k' h' : Nat} {s s' : zS} {F L W T B : zF} {K : Int32 → zF → zF → zF → zF → zF → Prop} (hs' : s' = z_sg base c s) (hv : v = if c = 46 then 6 else c - 48) (hk' : k' = k - 1) (hh' : h' = h + 1) (hb : base + many ≤ 10) (hh : h < 16) (hk : 1 ≤ k) (hkm : k ≤ many) (hc : c = 46 ∨ (48 ≤ c ∧ c ≤ 53)) (hJ : zJ base many h k s) (hH : zH base many s F L W T B) (hK : ∀ F' L' W' T' B' : zF, zH base many s' F' L' W' T' B' → K (nI h') T' B' F' L' W') : wp_X10_atom (nI base) (nI h) T B F L W (nI k') (nI v) K := by
  subst hs' hv hk' hh'
  refine sp_atom hb hh hk hkm hc hJ hH (fun F' L' W' T' B' q => ?_)
  have e3 : zs_h (z_sg base c s) = h + 1 := by rw [z_sg_am hc]; show zs_h s + 1 = _; rw [hJ.1]
  rw [e3]
  exact hK _ _ _ _ _ q
theorem sq_both {base many h k h' : Nat} {s s' : zS} {F L W T B : zF} {K : Int32 → zF → zF → zF → zF → Prop} (hs' : s' = z_sg base 38 s) (hh' : h' = h - 1) (hb : base + many ≤ 10) (hh : h ≤ 16) (hp : 2 ≤ h) (hJ : zJ base many h k s) (hH : zH base many s F L W T B) (hK : ∀ F' L' W' B' : zF, zH base many s' F' L' W' T B' → K (nI h') B' F' L' W') : wp_X10_both (nI h) B F L W K := by
  subst hs' hh'
  refine sp_both hb hh hp hJ hH (fun F' L' W' B' q => ?_)
  have e3 : zs_h (z_sg base 38 s) = h - 1 := by rw [z_sg_and]; show zs_h s - 1 = _; rw [hJ.1]
  rw [e3]
  exact hK _ _ _ _ q
theorem sq_either {base many h k h' : Nat} {s s' : zS} {F L W T B : zF} {K : Int32 → zF → zF → zF → Prop} (hs' : s' = z_sg base 124 s) (hh' : h' = h - 1) (hh : h ≤ 16) (hp : 2 ≤ h) (hJ : zJ base many h k s) (hH : zH base many s F L W T B) (hK : ∀ F' L' W' : zF, zH base many s' F' L' W' T B → K (nI h') F' L' W') : wp_X10_either (nI h) F L W K := by
  subst hs' hh'
  refine sp_either hh hp hJ hH (fun F' L' W' q => ?_)
  have e3 : zs_h (z_sg base 124 s) = h - 1 := by rw [z_sg_or]; show zs_h s - 1 = _; rw [hJ.1]
  rw [e3]
  exact hK _ _ _ q
theorem sq_again {base many h k : Nat} {s s' : zS} {F L W T B : zF} {K : zF → Prop} (hs' : s' = z_sg base 43 s) (hb : base + many ≤ 10) (hh : h ≤ 16) (hp : 1 ≤ h) (hJ : zJ base many h k s) (hH : zH base many s F L W T B) (hK : ∀ B' : zF, zH base many s' F L W T B' → K B') : wp_X10_again (nI h) B F L K := by
  subst hs'
  exact sp_again hb hh hp hJ hH hK
theorem sq_maybe {base many h k : Nat} {s s' : zS} {F L W T B : zF} {K : zF → Prop} (hs' : s' = z_sg base 63 s) (hh : h ≤ 16) (hp : 1 ≤ h) (hJ : zJ base many h k s) (hH : zH base many s F L W T B) (hK : ∀ W' : zF, zH base many s' F L W' T B → K W') : wp_X10_maybe (nI h) W K := by
  subst hs'
  exact sp_maybe hh hp hJ hH hK
theorem sq_any {base many h k : Nat} {s s' : zS} {F L W T B : zF} {K : zF → zF → Prop} (hs' : s' = z_sg base 42 s) (hb : base + many ≤ 10) (hh : h ≤ 16) (hp : 1 ≤ h) (hJ : zJ base many h k s) (hH : zH base many s F L W T B) (hK : ∀ W' B' : zF, zH base many s' F L W' T B' → K B' W') : wp_X10_any (nI h) B F L W K := by
  subst hs'
  exact sp_any hb hh hp hJ hH hK
theorem sq_ends {b N kd mny : Nat} {q : zR} {d : zD} {t : Nat → Nat} {nR nP : Int32} {F L W T B nr ns T0' B0' : zF} {K : Int32 → Int32 → zF → zF → Prop} (hv : z_vr t b N) (e : mny = z_ac t b N) (h4 : z_nR q < 4) (h10 : z_nP q + z_ac t b N ≤ 10) (hM : mR q nR nP nr T0' B0') (hm : mD ns 0 d) (hl : z_len d ≤ 30) (hH : zH (z_nP q) (z_ac t b N) (z_rn t b N (z_nP q) (z_tk q) (z_bh q) N) F L W T B)
    (h : ∀ (nR' nP' : Int32) (nr' ns' : zF), mR (z_ad q t b N) nR' nP' nr' T B → mD ns' 0 (z_dk d (z_nR q) kd) → K nR' nP' nr' ns') : wp_X10_ends nR nP nr ns F L (nI kd) (nI mny) K := by
  subst e
  obtain ⟨rfl, rfl, hr, -⟩ := hM
  obtain ⟨hJ, -⟩ := z_rn_J (z_nP q) (z_tk q) (z_bh q) hv N 0 (by omega)
  rw [Nat.sub_zero] at hJ
  have e1 : zs_h (z_rn t b N (z_nP q) (z_tk q) (z_bh q) N) = 1 := hJ.1
  have e2 : zs_k (z_rn t b N (z_nP q) (z_tk q) (z_bh q) N) = 0 := hJ.2.1
  have g0 := hH.1 0 (by omega)
  exact sp_ends h4 h10 hr hm hl g0.1 g0.2.1 (fun p hp => hH.2 p (by omega)) h
theorem zH_0 {q : zR} {t : Nat → Nat} {b N : Nat} {F L W T B : zF} (ht : ∀ p, p < z_nP q → T p = nI (z_tk q p) ∧ B p = nI (z_bh q p)) : zH (z_nP q) (z_ac t b N) (z_rn t b N (z_nP q) (z_tk q) (z_bh q) 0) F L W T B := by
  refine ⟨fun i hi => absurd hi (Nat.not_lt_zero _), fun p hp => ?_⟩
  have hp : p < z_nP q ∨ (z_nP q + z_ac t b N ≤ p ∧ p < z_nP q + z_ac t b N) := hp
  exact ht p (by omega)
theorem sp_letM {ns : zF} {K : zF → Prop} (h : K ns) : wp_X10_addsLetter ns (-1) K := by
  unfold wp_X10_addsLetter
  exact zb_t (by decide) h
def gx_cv (k : Nat) : Nat := if k = 0 ∨ k = 4 ∨ k = 8 ∨ k = 14 ∨ k = 20 then 1 else if k = 1 ∨ k = 2 ∨ k = 3 ∨ k = 5 ∨ k = 6 then 2 else if k = 16 then 5 else if 22 < k then 3 else 0
theorem gx_clv : ∀ k, k < 26 → z_cls gx_d4 k = gx_cv k := by decide
theorem gx_cls (k : Nat) (hk : k < 26) : ((k = 0 ∨ k = 4 ∨ k = 8 ∨ k = 14 ∨ k = 20) → z_cls gx_d4 k = 1) ∧ ((k = 1 ∨ k = 2 ∨ k = 3 ∨ k = 5 ∨ k = 6) → z_cls gx_d4 k = 2) ∧ (k = 16 → z_cls gx_d4 k = 5) ∧ (22 < k → z_cls gx_d4 k = 3) ∧ (¬ (k = 0 ∨ k = 4 ∨ k = 8 ∨ k = 14 ∨ k = 20) → ¬ (k = 1 ∨ k = 2 ∨ k = 3 ∨ k = 5 ∨ k = 6) → ¬ k = 16 → ¬ 22 < k → z_cls gx_d4 k = 0) := by
  rw [gx_clv k hk]
  unfold gx_cv
  refine ⟨fun e => if_pos e, fun e => ?_, fun e => ?_, fun e => ?_, fun e1 e2 e3 e4 => ?_⟩
  · rw [if_neg (by omega), if_pos e]
  · rw [if_neg (by omega), if_neg (by omega), if_pos e]
  · rw [if_neg (by omega), if_neg (by omega), if_neg (by omega), if_pos e]
  · rw [if_neg e1, if_neg e2, if_neg e3, if_neg e4]
theorem sp_init177 {ns0 : zF} {E : zF → Prop} (h0 : ∀ j, j < 61 → ns0 j = nI 0) (h : ∀ ns : zF, mD ns 0 gx_d4 → E ns) : ∃ n, lp_X10_init_177 E n (nI 0) ns0 := by
  refine zl_inv (σ := zF) (fun n i s => lp_X10_init_177 E n (nI i) s) (fun i s => (∀ j, j < i → s j = nI (z_cls gx_d4 j)) ∧ ∀ j, i ≤ j → j < 61 → s j = nI 0) 26 ?_ ?_ 0 ns0 (Nat.zero_le _) ⟨fun j hj => absurd hj (Nat.not_lt_zero _), fun j _ hj => h0 j hj⟩
  · rintro n s ⟨s1, s2⟩
    rw [lp_X10_init_177]
    refine zb_t (by rw [zn_le (by omega) (by omega)]; omega) (h s ⟨fun j hj => ?_, fun r hr => ?_, ?_, fun j hj => absurd hj (Nat.not_lt_zero _)⟩)
    · rw [Nat.zero_add]; exact s1 j hj
    · rw [s2 _ (by omega) (by omega)]
      have hr4 : r = 0 ∨ r = 1 ∨ r = 2 ∨ r = 3 := by omega
      rcases hr4 with rfl | rfl | rfl | rfl <;> rfl
    · rw [s2 _ (by omega) (by omega)]; rfl
  · rintro n i s hi ⟨s1, s2⟩ ih
    obtain ⟨c1, c2, c3, c4, c5⟩ := gx_cls i hi
    have nxt : ∀ v : Nat, v = z_cls gx_d4 i → lp_X10_init_177 E n (nI (i + 1)) (upd s i (nI v)) := by
      intro v hv
      refine ih _ ⟨fun j hj => ?_, fun j j1 j2 => ?_⟩
      · by_cases e : j = i
        · subst e; rw [zu_s, hv]
        · rw [zu_n e]; exact s1 j (by omega)
      · rw [zu_n (by omega)]; exact s2 j (by omega) j2
    rw [lp_X10_init_177]
    refine zb_f (by rw [zn_le (by omega) (by omega)]; omega) ?_
    intro J hJ
    rw [zn_in (by omega), zn_cl (by omega)] at hJ
    have one : z_cls gx_d4 i = 1 → J := by
      intro e
      apply hJ
      refine ⟨by omega, ?_⟩
      rintro _ rfl _ rfl
      rw [zn_add]
      exact nxt 1 e.symm
    rw [zn_eq0 (by omega), zn_eq (by omega) (by omega), zn_eq (by omega) (by omega), zn_eq (by omega) (by omega), zn_eq (by omega) (by omega)]
    refine ⟨fun e => one (c1 (by omega)), fun e0 => ⟨fun e => one (c1 (by omega)), fun e4 => ⟨fun e => one (c1 (by omega)), fun e8 => ⟨fun e => one (c1 (by omega)), fun e14 => ⟨fun e20 => ?_, fun e => one (c1 (by omega))⟩⟩⟩⟩⟩
    intro J2 hJ2
    rw [zn_in (by omega), zn_cl (by omega)] at hJ2
    have two : z_cls gx_d4 i = 2 → J2 := by
      intro e
      apply hJ2
      refine ⟨by omega, ?_⟩
      rintro _ rfl _ rfl
      rw [zn_add]
      exact nxt 2 e.symm
    rw [zn_eq (by omega) (by omega), zn_eq (by omega) (by omega), zn_eq (by omega) (by omega), zn_eq (by omega) (by omega), zn_eq (by omega) (by omega), zn_eq (by omega) (by omega), zn_le (by omega) (by omega), zn_in (by omega), zn_cl (by omega)]
    refine ⟨fun e => two (c2 (by omega)), fun e1 => ⟨fun e => two (c2 (by omega)), fun e2 => ⟨fun e => two (c2 (by omega)), fun e3 => ⟨fun e => two (c2 (by omega)), fun e5 => ⟨fun e6 => ⟨fun e22 => ⟨fun e16 => ⟨by omega, ?_⟩, fun e16 => ⟨by omega, ?_⟩⟩, fun e22 => ⟨by omega, ?_⟩⟩, fun e => two (c2 (by omega))⟩⟩⟩⟩⟩
    · rintro _ rfl _ rfl
      rw [zn_add]
      exact nxt 0 (c5 (by omega) (by omega) e16 (by omega)).symm
    · rintro _ rfl _ rfl
      rw [zn_add]
      exact nxt 5 (c3 e16).symm
    · rintro _ rfl _ rfl
      rw [zn_add]
      exact nxt 3 (c4 (by omega)).symm
theorem sp_init {K : Int32 → Int32 → Int32 → Int32 → Int32 → Int32 → Int32 → Int32 → Int32 → Int32 → Int32 → Int32 → Int32 → zF → zF → zF → zF → zF → zF → zF → zF → zF → zF → zF → zF → zF → zF → zF → zF → zF → zF → zF → zF → Prop}
    (h : ∀ (rules places nR nP pa : Int32) (rule takes behind nr nT nB ns s Fi La Ma : zF), mR gx_q4 rules places rule takes behind → mD s 0 gx_d9 → K rules places nR nP (nI 0) (nI 0) 0 0 0 0 pa 0 0 rule takes behind nr nT nB ns s (fun _ => 0) Fi La Ma (fun _ => 0) (fun _ => 0) (fun _ => 0) (fun _ => 0) (fun _ => 0) (fun _ => 0) (fun _ => 0) (fun _ => 0)) : wp_X10_init K := by
  unfold wp_X10_init
  refine sp_begins (fun ns0 hns0 => ?_)
  intro E hE
  refine sp_init177 hns0 (fun ns4 m4 => hE _ ?_)
  unfold wp_X10_rowBegins
  have M0 : mR z_q0 (nI 0) (nI 0) (fun _ => 0) (fun _ => 0) (fun _ => 0) := ⟨rfl, rfl, fun r hr => absurd hr (Nat.not_lt_zero _), fun p hp => absurd hp (Nat.not_lt_zero _)⟩
  have H0_0 := fun F L W T B ht => zH_0 (q := z_q0) (t := gx_t) (b := 33) (N := 5) (F := F) (L := L) (W := W) (T := T) (B := B) ht
  refine sq_atom (base := z_nP z_q0) (many := 2) (h := 0) (k := 2) (c := 49) (s := (z_rn gx_t 33 5 (z_nP z_q0) (z_tk z_q0) (z_bh z_q0) 0)) (s' := (z_rn gx_t 33 5 (z_nP z_q0) (z_tk z_q0) (z_bh z_q0) 1)) rfl rfl rfl rfl (by decide) (by omega) (by omega) (by omega) (by decide) (show zJ (z_nP z_q0) 2 0 2 (z_rn gx_t 33 5 (z_nP z_q0) (z_tk z_q0) (z_bh z_q0) 0) from (z_rn_J (z_nP z_q0) (z_tk z_q0) (z_bh z_q0) gx_v1 0 5 rfl).1) (H0_0 _ _ _ _ _ M0.2.2.2) (fun F0_0 L0_0 W0_0 T0_0 B0_0 hH0_1 => ?_)
  refine sq_maybe (base := z_nP z_q0) (many := 2) (h := 1) (k := 1) (s := (z_rn gx_t 33 5 (z_nP z_q0) (z_tk z_q0) (z_bh z_q0) 1)) (s' := (z_rn gx_t 33 5 (z_nP z_q0) (z_tk z_q0) (z_bh z_q0) 2)) rfl (by omega) (by omega) (show zJ (z_nP z_q0) 2 1 1 (z_rn gx_t 33 5 (z_nP z_q0) (z_tk z_q0) (z_bh z_q0) 1) from (z_rn_J (z_nP z_q0) (z_tk z_q0) (z_bh z_q0) gx_v1 1 4 rfl).1) hH0_1 (fun W0_1 hH0_2 => ?_)
  refine sq_atom (base := z_nP z_q0) (many := 2) (h := 1) (k := 1) (c := 50) (s := (z_rn gx_t 33 5 (z_nP z_q0) (z_tk z_q0) (z_bh z_q0) 2)) (s' := (z_rn gx_t 33 5 (z_nP z_q0) (z_tk z_q0) (z_bh z_q0) 3)) rfl rfl rfl rfl (by decide) (by omega) (by omega) (by omega) (by decide) (show zJ (z_nP z_q0) 2 1 1 (z_rn gx_t 33 5 (z_nP z_q0) (z_tk z_q0) (z_bh z_q0) 2) from (z_rn_J (z_nP z_q0) (z_tk z_q0) (z_bh z_q0) gx_v1 2 3 rfl).1) hH0_2 (fun F0_2 L0_2 W0_2 T0_2 B0_2 hH0_3 => ?_)
  refine sq_again (base := z_nP z_q0) (many := 2) (h := 2) (k := 0) (s := (z_rn gx_t 33 5 (z_nP z_q0) (z_tk z_q0) (z_bh z_q0) 3)) (s' := (z_rn gx_t 33 5 (z_nP z_q0) (z_tk z_q0) (z_bh z_q0) 4)) rfl (by decide) (by omega) (by omega) (show zJ (z_nP z_q0) 2 2 0 (z_rn gx_t 33 5 (z_nP z_q0) (z_tk z_q0) (z_bh z_q0) 3) from (z_rn_J (z_nP z_q0) (z_tk z_q0) (z_bh z_q0) gx_v1 3 2 rfl).1) hH0_3 (fun B0_3 hH0_4 => ?_)
  refine sq_both (base := z_nP z_q0) (many := 2) (h := 2) (k := 0) (s := (z_rn gx_t 33 5 (z_nP z_q0) (z_tk z_q0) (z_bh z_q0) 4)) (s' := (z_rn gx_t 33 5 (z_nP z_q0) (z_tk z_q0) (z_bh z_q0) 5)) rfl rfl (by decide) (by omega) (by omega) (show zJ (z_nP z_q0) 2 2 0 (z_rn gx_t 33 5 (z_nP z_q0) (z_tk z_q0) (z_bh z_q0) 4) from (z_rn_J (z_nP z_q0) (z_tk z_q0) (z_bh z_q0) gx_v1 4 1 rfl).1) hH0_4 (fun F0_4 L0_4 W0_4 B0_4 hH0_5 => ?_)
  refine sq_ends (b := 33) (N := 5) (kd := 0) (q := z_q0) (d := gx_d4) (t := gx_t) gx_v1 rfl (by decide) (by decide) M0 m4 (by decide) hH0_5 (fun nR1 nP1 nr1 ns1 M1 m5 => ?_)
  have M1 : mR gx_q1 nR1 nP1 nr1 _ _ := M1
  have m5 : mD ns1 0 gx_d5 := m5
  have eR1 := M1.1
  have eP1 := M1.2.1
  subst eR1 eP1
  have H1_0 := fun F L W T B ht => zH_0 (q := gx_q1) (t := gx_t) (b := 42) (N := 6) (F := F) (L := L) (W := W) (T := T) (B := B) ht
  refine sq_atom (base := z_nP gx_q1) (many := 3) (h := 0) (k := 3) (c := 50) (s := (z_rn gx_t 42 6 (z_nP gx_q1) (z_tk gx_q1) (z_bh gx_q1) 0)) (s' := (z_rn gx_t 42 6 (z_nP gx_q1) (z_tk gx_q1) (z_bh gx_q1) 1)) rfl rfl rfl rfl (by decide) (by omega) (by omega) (by omega) (by decide) (show zJ (z_nP gx_q1) 3 0 3 (z_rn gx_t 42 6 (z_nP gx_q1) (z_tk gx_q1) (z_bh gx_q1) 0) from (z_rn_J (z_nP gx_q1) (z_tk gx_q1) (z_bh gx_q1) gx_v2 0 6 rfl).1) (H1_0 _ _ _ _ _ M1.2.2.2) (fun F1_0 L1_0 W1_0 T1_0 B1_0 hH1_1 => ?_)
  refine sq_atom (base := z_nP gx_q1) (many := 3) (h := 1) (k := 2) (c := 49) (s := (z_rn gx_t 42 6 (z_nP gx_q1) (z_tk gx_q1) (z_bh gx_q1) 1)) (s' := (z_rn gx_t 42 6 (z_nP gx_q1) (z_tk gx_q1) (z_bh gx_q1) 2)) rfl rfl rfl rfl (by decide) (by omega) (by omega) (by omega) (by decide) (show zJ (z_nP gx_q1) 3 1 2 (z_rn gx_t 42 6 (z_nP gx_q1) (z_tk gx_q1) (z_bh gx_q1) 1) from (z_rn_J (z_nP gx_q1) (z_tk gx_q1) (z_bh gx_q1) gx_v2 1 5 rfl).1) hH1_1 (fun F1_1 L1_1 W1_1 T1_1 B1_1 hH1_2 => ?_)
  refine sq_either (base := z_nP gx_q1) (many := 3) (h := 2) (k := 1) (s := (z_rn gx_t 42 6 (z_nP gx_q1) (z_tk gx_q1) (z_bh gx_q1) 2)) (s' := (z_rn gx_t 42 6 (z_nP gx_q1) (z_tk gx_q1) (z_bh gx_q1) 3)) rfl rfl (by omega) (by omega) (show zJ (z_nP gx_q1) 3 2 1 (z_rn gx_t 42 6 (z_nP gx_q1) (z_tk gx_q1) (z_bh gx_q1) 2) from (z_rn_J (z_nP gx_q1) (z_tk gx_q1) (z_bh gx_q1) gx_v2 2 4 rfl).1) hH1_2 (fun F1_2 L1_2 W1_2 hH1_3 => ?_)
  refine sq_any (base := z_nP gx_q1) (many := 3) (h := 1) (k := 1) (s := (z_rn gx_t 42 6 (z_nP gx_q1) (z_tk gx_q1) (z_bh gx_q1) 3)) (s' := (z_rn gx_t 42 6 (z_nP gx_q1) (z_tk gx_q1) (z_bh gx_q1) 4)) rfl (by decide) (by omega) (by omega) (show zJ (z_nP gx_q1) 3 1 1 (z_rn gx_t 42 6 (z_nP gx_q1) (z_tk gx_q1) (z_bh gx_q1) 3) from (z_rn_J (z_nP gx_q1) (z_tk gx_q1) (z_bh gx_q1) gx_v2 3 3 rfl).1) hH1_3 (fun W1_3 B1_3 hH1_4 => ?_)
  refine sq_atom (base := z_nP gx_q1) (many := 3) (h := 1) (k := 1) (c := 49) (s := (z_rn gx_t 42 6 (z_nP gx_q1) (z_tk gx_q1) (z_bh gx_q1) 4)) (s' := (z_rn gx_t 42 6 (z_nP gx_q1) (z_tk gx_q1) (z_bh gx_q1) 5)) rfl rfl rfl rfl (by decide) (by omega) (by omega) (by omega) (by decide) (show zJ (z_nP gx_q1) 3 1 1 (z_rn gx_t 42 6 (z_nP gx_q1) (z_tk gx_q1) (z_bh gx_q1) 4) from (z_rn_J (z_nP gx_q1) (z_tk gx_q1) (z_bh gx_q1) gx_v2 4 2 rfl).1) hH1_4 (fun F1_4 L1_4 W1_4 T1_4 B1_4 hH1_5 => ?_)
  refine sq_both (base := z_nP gx_q1) (many := 3) (h := 2) (k := 0) (s := (z_rn gx_t 42 6 (z_nP gx_q1) (z_tk gx_q1) (z_bh gx_q1) 5)) (s' := (z_rn gx_t 42 6 (z_nP gx_q1) (z_tk gx_q1) (z_bh gx_q1) 6)) rfl rfl (by decide) (by omega) (by omega) (show zJ (z_nP gx_q1) 3 2 0 (z_rn gx_t 42 6 (z_nP gx_q1) (z_tk gx_q1) (z_bh gx_q1) 5) from (z_rn_J (z_nP gx_q1) (z_tk gx_q1) (z_bh gx_q1) gx_v2 5 1 rfl).1) hH1_5 (fun F1_5 L1_5 W1_5 B1_5 hH1_6 => ?_)
  refine sq_ends (b := 42) (N := 6) (kd := 1) (q := gx_q1) (d := gx_d5) (t := gx_t) gx_v2 rfl (by decide) (by decide) M1 m5 (by decide) hH1_6 (fun nR2 nP2 nr2 ns2 M2 m6 => ?_)
  have M2 : mR gx_q2 nR2 nP2 nr2 _ _ := M2
  have m6 : mD ns2 0 gx_d6 := m6
  have eR2 := M2.1
  have eP2 := M2.2.1
  subst eR2 eP2
  have H2_0 := fun F L W T B ht => zH_0 (q := gx_q2) (t := gx_t) (b := 52) (N := 5) (F := F) (L := L) (W := W) (T := T) (B := B) ht
  refine sq_atom (base := z_nP gx_q2) (many := 3) (h := 0) (k := 3) (c := 51) (s := (z_rn gx_t 52 5 (z_nP gx_q2) (z_tk gx_q2) (z_bh gx_q2) 0)) (s' := (z_rn gx_t 52 5 (z_nP gx_q2) (z_tk gx_q2) (z_bh gx_q2) 1)) rfl rfl rfl rfl (by decide) (by omega) (by omega) (by omega) (by decide) (show zJ (z_nP gx_q2) 3 0 3 (z_rn gx_t 52 5 (z_nP gx_q2) (z_tk gx_q2) (z_bh gx_q2) 0) from (z_rn_J (z_nP gx_q2) (z_tk gx_q2) (z_bh gx_q2) gx_v3 0 5 rfl).1) (H2_0 _ _ _ _ _ M2.2.2.2) (fun F2_0 L2_0 W2_0 T2_0 B2_0 hH2_1 => ?_)
  refine sq_atom (base := z_nP gx_q2) (many := 3) (h := 1) (k := 2) (c := 46) (s := (z_rn gx_t 52 5 (z_nP gx_q2) (z_tk gx_q2) (z_bh gx_q2) 1)) (s' := (z_rn gx_t 52 5 (z_nP gx_q2) (z_tk gx_q2) (z_bh gx_q2) 2)) rfl rfl rfl rfl (by decide) (by omega) (by omega) (by omega) (by decide) (show zJ (z_nP gx_q2) 3 1 2 (z_rn gx_t 52 5 (z_nP gx_q2) (z_tk gx_q2) (z_bh gx_q2) 1) from (z_rn_J (z_nP gx_q2) (z_tk gx_q2) (z_bh gx_q2) gx_v3 1 4 rfl).1) hH2_1 (fun F2_1 L2_1 W2_1 T2_1 B2_1 hH2_2 => ?_)
  refine sq_both (base := z_nP gx_q2) (many := 3) (h := 2) (k := 1) (s := (z_rn gx_t 52 5 (z_nP gx_q2) (z_tk gx_q2) (z_bh gx_q2) 2)) (s' := (z_rn gx_t 52 5 (z_nP gx_q2) (z_tk gx_q2) (z_bh gx_q2) 3)) rfl rfl (by decide) (by omega) (by omega) (show zJ (z_nP gx_q2) 3 2 1 (z_rn gx_t 52 5 (z_nP gx_q2) (z_tk gx_q2) (z_bh gx_q2) 2) from (z_rn_J (z_nP gx_q2) (z_tk gx_q2) (z_bh gx_q2) gx_v3 2 3 rfl).1) hH2_2 (fun F2_2 L2_2 W2_2 B2_2 hH2_3 => ?_)
  refine sq_atom (base := z_nP gx_q2) (many := 3) (h := 1) (k := 1) (c := 51) (s := (z_rn gx_t 52 5 (z_nP gx_q2) (z_tk gx_q2) (z_bh gx_q2) 3)) (s' := (z_rn gx_t 52 5 (z_nP gx_q2) (z_tk gx_q2) (z_bh gx_q2) 4)) rfl rfl rfl rfl (by decide) (by omega) (by omega) (by omega) (by decide) (show zJ (z_nP gx_q2) 3 1 1 (z_rn gx_t 52 5 (z_nP gx_q2) (z_tk gx_q2) (z_bh gx_q2) 3) from (z_rn_J (z_nP gx_q2) (z_tk gx_q2) (z_bh gx_q2) gx_v3 3 2 rfl).1) hH2_3 (fun F2_3 L2_3 W2_3 T2_3 B2_3 hH2_4 => ?_)
  refine sq_both (base := z_nP gx_q2) (many := 3) (h := 2) (k := 0) (s := (z_rn gx_t 52 5 (z_nP gx_q2) (z_tk gx_q2) (z_bh gx_q2) 4)) (s' := (z_rn gx_t 52 5 (z_nP gx_q2) (z_tk gx_q2) (z_bh gx_q2) 5)) rfl rfl (by decide) (by omega) (by omega) (show zJ (z_nP gx_q2) 3 2 0 (z_rn gx_t 52 5 (z_nP gx_q2) (z_tk gx_q2) (z_bh gx_q2) 4) from (z_rn_J (z_nP gx_q2) (z_tk gx_q2) (z_bh gx_q2) gx_v3 4 1 rfl).1) hH2_4 (fun F2_4 L2_4 W2_4 B2_4 hH2_5 => ?_)
  refine sq_ends (b := 52) (N := 5) (kd := 2) (q := gx_q2) (d := gx_d6) (t := gx_t) gx_v3 rfl (by decide) (by decide) M2 m6 (by decide) hH2_5 (fun nR3 nP3 nr3 ns3 M3 m7 => ?_)
  have M3 : mR gx_q3 nR3 nP3 nr3 _ _ := M3
  have m7 : mD ns3 0 gx_d7 := m7
  have eR3 := M3.1
  have eP3 := M3.2.1
  subst eR3 eP3
  have H3_0 := fun F L W T B ht => zH_0 (q := gx_q3) (t := gx_t) (b := 61) (N := 2) (F := F) (L := L) (W := W) (T := T) (B := B) ht
  refine sq_atom (base := z_nP gx_q3) (many := 1) (h := 0) (k := 1) (c := 51) (s := (z_rn gx_t 61 2 (z_nP gx_q3) (z_tk gx_q3) (z_bh gx_q3) 0)) (s' := (z_rn gx_t 61 2 (z_nP gx_q3) (z_tk gx_q3) (z_bh gx_q3) 1)) rfl rfl rfl rfl (by decide) (by omega) (by omega) (by omega) (by decide) (show zJ (z_nP gx_q3) 1 0 1 (z_rn gx_t 61 2 (z_nP gx_q3) (z_tk gx_q3) (z_bh gx_q3) 0) from (z_rn_J (z_nP gx_q3) (z_tk gx_q3) (z_bh gx_q3) gx_v4 0 2 rfl).1) (H3_0 _ _ _ _ _ M3.2.2.2) (fun F3_0 L3_0 W3_0 T3_0 B3_0 hH3_1 => ?_)
  refine sq_again (base := z_nP gx_q3) (many := 1) (h := 1) (k := 0) (s := (z_rn gx_t 61 2 (z_nP gx_q3) (z_tk gx_q3) (z_bh gx_q3) 1)) (s' := (z_rn gx_t 61 2 (z_nP gx_q3) (z_tk gx_q3) (z_bh gx_q3) 2)) rfl (by decide) (by omega) (by omega) (show zJ (z_nP gx_q3) 1 1 0 (z_rn gx_t 61 2 (z_nP gx_q3) (z_tk gx_q3) (z_bh gx_q3) 1) from (z_rn_J (z_nP gx_q3) (z_tk gx_q3) (z_bh gx_q3) gx_v4 1 1 rfl).1) hH3_1 (fun B3_1 hH3_2 => ?_)
  refine sq_ends (b := 61) (N := 2) (kd := 0) (q := gx_q3) (d := gx_d7) (t := gx_t) gx_v4 rfl (by decide) (by decide) M3 m7 (by decide) hH3_2 (fun nR4 nP4 nr4 ns4 M4 m8 => ?_)
  have M4 : mR gx_q4 nR4 nP4 nr4 _ _ := M4
  have m8 : mD ns4 0 gx_d8 := m8
  have eR4 := M4.1
  have eP4 := M4.2.1
  subst eR4 eP4
  unfold wp_X10_letters
  have l0 : mD _ 0 (z_dl gx_d8 []) := m8
  refine sp_addsLetter (d := gx_d8) (l := []) (x := 1) (by decide) (by omega) l0 (fun nl1 l1 => ?_)
  have l1 : mD nl1 0 (z_dl gx_d8 [1]) := l1
  refine sp_addsLetter (d := gx_d8) (l := [1]) (x := 0) (by decide) (by omega) l1 (fun nl2 l2 => ?_)
  have l2 : mD nl2 0 (z_dl gx_d8 [1, 0]) := l2
  refine sp_addsLetter (d := gx_d8) (l := [1, 0]) (x := 16) (by decide) (by omega) l2 (fun nl3 l3 => ?_)
  have l3 : mD nl3 0 (z_dl gx_d8 [1, 0, 16]) := l3
  refine sp_addsLetter (d := gx_d8) (l := [1, 0, 16]) (x := 1) (by decide) (by omega) l3 (fun nl4 l4 => ?_)
  have l4 : mD nl4 0 (z_dl gx_d8 [1, 0, 16, 1]) := l4
  refine sp_addsLetter (d := gx_d8) (l := [1, 0, 16, 1]) (x := 23) (by decide) (by omega) l4 (fun nl5 l5 => ?_)
  have l5 : mD nl5 0 (z_dl gx_d8 [1, 0, 16, 1, 23]) := l5
  refine sp_addsLetter (d := gx_d8) (l := [1, 0, 16, 1, 23]) (x := 24) (by decide) (by omega) l5 (fun nl6 l6 => ?_)
  have l6 : mD nl6 0 (z_dl gx_d8 [1, 0, 16, 1, 23, 24]) := l6
  refine sp_addsLetter (d := gx_d8) (l := [1, 0, 16, 1, 23, 24]) (x := 25) (by decide) (by omega) l6 (fun nl7 l7 => ?_)
  have l7 : mD nl7 0 (z_dl gx_d8 [1, 0, 16, 1, 23, 24, 25]) := l7
  refine sp_addsLetter (d := gx_d8) (l := [1, 0, 16, 1, 23, 24, 25]) (x := 0) (by decide) (by omega) l7 (fun nl8 l8 => ?_)
  have l8 : mD nl8 0 (z_dl gx_d8 [1, 0, 16, 1, 23, 24, 25, 0]) := l8
  refine sp_addsLetter (d := gx_d8) (l := [1, 0, 16, 1, 23, 24, 25, 0]) (x := 16) (by decide) (by omega) l8 (fun nl9 l9 => ?_)
  have l9 : mD nl9 0 (z_dl gx_d8 [1, 0, 16, 1, 23, 24, 25, 0, 16]) := l9
  refine sp_addsLetter (d := gx_d8) (l := [1, 0, 16, 1, 23, 24, 25, 0, 16]) (x := 16) (by decide) (by omega) l9 (fun nl10 l10 => ?_)
  have l10 : mD nl10 0 (z_dl gx_d8 [1, 0, 16, 1, 23, 24, 25, 0, 16, 16]) := l10
  refine sp_addsLetter (d := gx_d8) (l := [1, 0, 16, 1, 23, 24, 25, 0, 16, 16]) (x := 4) (by decide) (by omega) l10 (fun nl11 l11 => ?_)
  have l11 : mD nl11 0 (z_dl gx_d8 [1, 0, 16, 1, 23, 24, 25, 0, 16, 16, 4]) := l11
  refine sp_addsLetter (d := gx_d8) (l := [1, 0, 16, 1, 23, 24, 25, 0, 16, 16, 4]) (x := 1) (by decide) (by omega) l11 (fun nl12 l12 => ?_)
  have l12 : mD nl12 0 (z_dl gx_d8 [1, 0, 16, 1, 23, 24, 25, 0, 16, 16, 4, 1]) := l12
  refine sp_addsLetter (d := gx_d8) (l := [1, 0, 16, 1, 23, 24, 25, 0, 16, 16, 4, 1]) (x := 2) (by decide) (by omega) l12 (fun nl13 l13 => ?_)
  have l13 : mD nl13 0 (z_dl gx_d8 [1, 0, 16, 1, 23, 24, 25, 0, 16, 16, 4, 1, 2]) := l13
  refine sp_addsLetter (d := gx_d8) (l := [1, 0, 16, 1, 23, 24, 25, 0, 16, 16, 4, 1, 2]) (x := 23) (by decide) (by omega) l13 (fun nl14 l14 => ?_)
  have l14 : mD nl14 0 (z_dl gx_d8 [1, 0, 16, 1, 23, 24, 25, 0, 16, 16, 4, 1, 2, 23]) := l14
  refine sp_addsLetter (d := gx_d8) (l := [1, 0, 16, 1, 23, 24, 25, 0, 16, 16, 4, 1, 2, 23]) (x := 16) (by decide) (by omega) l14 (fun nl15 l15 => ?_)
  have l15 : mD nl15 0 (z_dl gx_d8 [1, 0, 16, 1, 23, 24, 25, 0, 16, 16, 4, 1, 2, 23, 16]) := l15
  refine sp_addsLetter (d := gx_d8) (l := [1, 0, 16, 1, 23, 24, 25, 0, 16, 16, 4, 1, 2, 23, 16]) (x := 25) (by decide) (by omega) l15 (fun nl16 l16 => ?_)
  have l16 : mD nl16 0 (z_dl gx_d8 [1, 0, 16, 1, 23, 24, 25, 0, 16, 16, 4, 1, 2, 23, 16, 25]) := l16
  refine sp_addsLetter (d := gx_d8) (l := [1, 0, 16, 1, 23, 24, 25, 0, 16, 16, 4, 1, 2, 23, 16, 25]) (x := 25) (by decide) (by omega) l16 (fun nl17 l17 => ?_)
  have l17 : mD nl17 0 (z_dl gx_d8 [1, 0, 16, 1, 23, 24, 25, 0, 16, 16, 4, 1, 2, 23, 16, 25, 25]) := l17
  refine sp_letM (sp_letM (sp_letM ?_))
  have m9 : mD nl17 0 gx_d9 := l17
  exact sp_settles (by decide) (by decide) gx_W.2 M4 m9 (fun rule' takes' behind' s' c1 c2 _ => h _ _ _ _ _ _ _ _ _ _ _ _ _ _ _ _ c1 c2)
