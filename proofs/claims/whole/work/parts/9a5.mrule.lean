theorem sp_rule250 {m b N : Nat} {q : zR} {t : Nat → Nat} {len : Int32} {text F L W T B : zF} {E : Int32 → zF → zF → zF → zF → zF → Prop} (hT : zT m t) (hx : mT m t len text) (hb : 1 ≤ b) (hbN : b + N ≤ m) (hv : z_vr t b N) (h10 : z_nP q + z_ac t b N ≤ 10) (ht : ∀ p, p < z_nP q → T p = nI (z_tk q p) ∧ B p = nI (z_bh q p))
    (h : ∀ F' L' W' T' B' : zF, F' 0 = nI (zs_f (z_rn t b N (z_nP q) (z_tk q) (z_bh q) N) 0) → L' 0 = nI (zs_l (z_rn t b N (z_nP q) (z_tk q) (z_bh q) N) 0) → (∀ p, p < z_nP q + z_ac t b N → T' p = nI (zs_t (z_rn t b N (z_nP q) (z_tk q) (z_bh q) N) p) ∧ B' p = nI (zs_b (z_rn t b N (z_nP q) (z_tk q) (z_bh q) N) p)) → E (nI 1) T' B' F' L' W') : ∃ n, lp_X10_ruleItem_250 (nI (z_nP q)) len text (nI b) E n (nI (z_ac t b N)) (nI (b + N - 1)) (nI 0) T B F L W := by
  have hm := hT.1
  have hN := hv.2.2
  have key : ∃ n, lp_X10_ruleItem_250 (nI (z_nP q)) len text (nI b) E n (nI (zs_k (z_rn t b N (z_nP q) (z_tk q) (z_bh q) (N - N)))) (nI (b + N - 1)) (nI (zs_h (z_rn t b N (z_nP q) (z_tk q) (z_bh q) (N - N)))) T B F L W := by
    refine zl_down (σ := zF × zF × zF × zF × zF) (fun n i s => lp_X10_ruleItem_250 (nI (z_nP q)) len text (nI b) E n (nI (zs_k (z_rn t b N (z_nP q) (z_tk q) (z_bh q) (N - i)))) (nI (b + i - 1)) (nI (zs_h (z_rn t b N (z_nP q) (z_tk q) (z_bh q) (N - i)))) s.1 s.2.1 s.2.2.1 s.2.2.2.1 s.2.2.2.2) (fun i s => i ≤ N ∧ zH (z_nP q) (z_ac t b N) (z_rn t b N (z_nP q) (z_tk q) (z_bh q) (N - i)) s.2.2.1 s.2.2.2.1 s.2.2.2.2 s.1 s.2.1) ?_ ?_ N (T, B, F, L, W) ⟨Nat.le_refl _, ?_⟩
    · rintro n ⟨s1, s2, s3, s4, s5⟩ ⟨-, g⟩
      have g : zH (z_nP q) (z_ac t b N) (z_rn t b N (z_nP q) (z_tk q) (z_bh q) (N - 0)) s3 s4 s5 s1 s2 := g
      obtain ⟨hJ, hJo⟩ := z_rn_J (z_nP q) (z_tk q) (z_bh q) hv N 0 (by omega)
      rw [Nat.sub_zero] at g hJ hJo
      have e1 : zs_h (z_rn t b N (z_nP q) (z_tk q) (z_bh q) N) = 1 := hJ.1
      have e2 : zs_k (z_rn t b N (z_nP q) (z_tk q) (z_bh q) N) = 0 := hJ.2.1
      show lp_X10_ruleItem_250 (nI (z_nP q)) len text (nI b) E (n + 1) (nI (zs_k (z_rn t b N (z_nP q) (z_tk q) (z_bh q) (N - 0)))) (nI (b + 0 - 1)) (nI (zs_h (z_rn t b N (z_nP q) (z_tk q) (z_bh q) (N - 0)))) s1 s2 s3 s4 s5
      rw [lp_X10_ruleItem_250, Nat.sub_zero, e1]
      have g0 := g.1 0 (by omega)
      exact zb_t (by rw [zn_lt (by omega) (by omega)]; omega) (h _ _ _ _ _ g0.1 g0.2.1 (fun p hp => g.2 p (by omega)))
    · rintro n i ⟨s1, s2, s3, s4, s5⟩ ⟨hi, g⟩ ih
      have g : zH (z_nP q) (z_ac t b N) (z_rn t b N (z_nP q) (z_tk q) (z_bh q) (N - (i + 1))) s3 s4 s5 s1 s2 := g
      obtain ⟨hJ, hJo⟩ := z_rn_J (z_nP q) (z_tk q) (z_bh q) hv (N - (i + 1)) (i + 1) (by omega)
      have hd := z_vr_du hv (N - (i + 1)) (i + 1) (by omega)
      have hac := z_ac_m t b (show i + 1 ≤ N by omega)
      obtain ⟨sn, du⟩ := hv.1 i (by omega)
      have htt := hT.2 (b + i) (by omega)
      have hat := z_rn_at t b N (z_nP q) (z_tk q) (z_bh q) (show i < N by omega)
      have hJi := (z_rn_J (z_nP q) (z_tk q) (z_bh q) hv (N - i) i (by omega)).1.2.1
      have nxt : ∀ s1 s2 s3 s4 s5 : zF, zH (z_nP q) (z_ac t b N) (z_sg (z_nP q) (t (b + i)) (z_rn t b N (z_nP q) (z_tk q) (z_bh q) (N - (i + 1)))) s3 s4 s5 s1 s2 → lp_X10_ruleItem_250 (nI (z_nP q)) len text (nI b) E n (nI (z_ac t b i)) (nI (b + i - 1)) (nI (zs_h (z_sg (z_nP q) (t (b + i)) (z_rn t b N (z_nP q) (z_tk q) (z_bh q) (N - (i + 1)))))) s1 s2 s3 s4 s5 := by
        intro u1 u2 u3 u4 u5 hH
        rw [← hat] at hH ⊢
        have h9 := ih (u1, u2, u3, u4, u5) ⟨by omega, hH⟩
        have h9 : lp_X10_ruleItem_250 (nI (z_nP q)) len text (nI b) E n (nI (zs_k (z_rn t b N (z_nP q) (z_tk q) (z_bh q) (N - i)))) (nI (b + i - 1)) (nI (zs_h (z_rn t b N (z_nP q) (z_tk q) (z_bh q) (N - i)))) u1 u2 u3 u4 u5 := h9
        rw [hJi] at h9
        exact h9
      show lp_X10_ruleItem_250 (nI (z_nP q)) len text (nI b) E (n + 1) (nI (zs_k (z_rn t b N (z_nP q) (z_tk q) (z_bh q) (N - (i + 1))))) (nI (b + (i + 1) - 1)) (nI (zs_h (z_rn t b N (z_nP q) (z_tk q) (z_bh q) (N - (i + 1))))) s1 s2 s3 s4 s5
      rw [hJ.1, hJ.2.1, show b + (i + 1) - 1 = b + i by omega, lp_X10_ruleItem_250]
      refine zb_f (by rw [zn_lt (by omega) (by omega)]; omega) ?_
      refine sp_letterAt hT hx (by omega) (fun _ => ?_) (fun q => by omega)
      have keepk : ∀ c, t (b + i) = c → z_pt c ≠ 0 → z_ac t b (i + 1) = z_ac t b i := by
        intro c hc hz
        rw [z_ac_S, hc, if_neg hz]
        rfl
      refine sp_isAtom (by omega) (fun ha => zb_f (by decide) ?_) (fun ha => zb_t rfl ?_)
      · have hp0 := z_pt_am ha
        have eac : z_ac t b (i + 1) = z_ac t b i + 1 := by rw [z_ac_S, if_pos hp0]
        have edu : z_du t b (i + 1) = z_du t b i - 1 := by rw [z_du_S, hp0, Nat.add_zero]
        rintro _ rfl
        rw [zn_m1 (by omega)]
        intro J hJ2
        have fin : J (nI (if t (b + i) = 46 then 6 else t (b + i) - 48)) := by
          apply hJ2
          refine sp_atom h10 (by omega) (by omega) (by omega) ha hJ g (fun F' L' W' T' B' hH => ?_)
          rintro _ rfl
          rw [zn_m1 (by omega)]
          have h9 := nxt T' B' F' L' W' hH
          rw [show z_ac t b (i + 1) - 1 = z_ac t b i by omega]
          exact h9
        rw [zn_eq (by omega) (by omega)]
        unfold z_am at ha
        refine ⟨fun e => ?_, fun e => ?_⟩
        · rw [if_neg e] at fin
          rw [zn_sub (by omega)]
          exact fin
        · rw [if_pos e] at fin
          exact fin
      · rw [zn_eq (by omega) (by omega), zn_eq (by omega) (by omega), zn_eq (by omega) (by omega), zn_eq (by omega) (by omega)]
        refine ⟨fun e1 => ⟨fun e2 => ⟨fun e3 => ⟨fun e4 => ?_, fun e4 => ?_⟩, fun e3 => ?_⟩, fun e2 => ?_⟩, fun e1 => ?_⟩
        · have e5 : t (b + i) = 42 := by
            rcases sn with z | z | z | z | z | z
            · exact absurd z e1
            · exact absurd z e2
            · exact z
            · exact absurd z e4
            · exact absurd z e3
            · exact absurd z ha
          have hk := keepk 42 e5 (by decide)
          have hd2 := z_du_S t b i
          rw [e5, z_pt_42] at hd2
          refine sp_any h10 (by omega) (by omega) hJ g (fun W' B' hH => ?_)
          rintro _ rfl
          rw [zn_m1 (by omega)]
          rw [← e5] at hH
          have h9 := nxt s1 B' s3 s4 W' hH
          have e6 : zs_h (z_sg (z_nP q) (t (b + i)) (z_rn t b N (z_nP q) (z_tk q) (z_bh q) (N - (i + 1)))) = z_du t b (i + 1) := by rw [e5, z_sg_star]; exact hJ.1
          rw [e6] at h9
          rw [hk]
          exact h9
        · have hk := keepk 43 e4 (by decide)
          have hd2 := z_du_S t b i
          rw [e4, z_pt_43] at hd2
          refine sp_again h10 (by omega) (by omega) hJ g (fun B' hH => ?_)
          rintro _ rfl
          rw [zn_m1 (by omega)]
          rw [← e4] at hH
          have h9 := nxt s1 B' s3 s4 s5 hH
          have e6 : zs_h (z_sg (z_nP q) (t (b + i)) (z_rn t b N (z_nP q) (z_tk q) (z_bh q) (N - (i + 1)))) = z_du t b (i + 1) := by rw [e4, z_sg_plus]; exact hJ.1
          rw [e6] at h9
          rw [hk]
          exact h9
        · have hk := keepk 63 e3 (by decide)
          have hd2 := z_du_S t b i
          rw [e3, z_pt_63] at hd2
          refine sp_maybe (by omega) (by omega) hJ g (fun W' hH => ?_)
          rintro _ rfl
          rw [zn_m1 (by omega)]
          rw [← e3] at hH
          have h9 := nxt s1 s2 s3 s4 W' hH
          have e6 : zs_h (z_sg (z_nP q) (t (b + i)) (z_rn t b N (z_nP q) (z_tk q) (z_bh q) (N - (i + 1)))) = z_du t b (i + 1) := by rw [e3, z_sg_may]; exact hJ.1
          rw [e6] at h9
          rw [hk]
          exact h9
        · have hk := keepk 124 e2 (by decide)
          have hd2 := z_du_S t b i
          rw [e2, z_pt_124] at hd2
          refine sp_either (by omega) (by omega) hJ g (fun F' L' W' hH => ?_)
          rintro _ rfl
          rw [zn_m1 (by omega)]
          rw [← e2] at hH ⊢
          have h9 := nxt s1 s2 F' L' W' hH
          rw [hk]
          exact h9
        · have hk := keepk 38 e1 (by decide)
          have hd2 := z_du_S t b i
          rw [e1, z_pt_38] at hd2
          refine sp_both h10 (by omega) (by omega) hJ g (fun F' L' W' B' hH => ?_)
          rintro _ rfl
          rw [zn_m1 (by omega)]
          rw [← e1] at hH ⊢
          have h9 := nxt s1 B' F' L' W' hH
          rw [hk]
          exact h9
    · show zH (z_nP q) (z_ac t b N) (z_rn t b N (z_nP q) (z_tk q) (z_bh q) (N - N)) F L W T B
      rw [Nat.sub_self]
      refine ⟨fun i hi => absurd hi (Nat.not_lt_zero _), fun p hp => ?_⟩
      have hp : p < z_nP q ∨ (z_nP q + z_ac t b N ≤ p ∧ p < z_nP q + z_ac t b N) := hp
      exact ht p (by omega)
  rw [Nat.sub_self] at key
  exact key
theorem zn_shlN {a p : Nat} (hp : p < 31) (ha : a * 2 ^ p < 4294967296) : nI a <<< (nI p &&& 31) = nI (a * 2 ^ p) := by
  rw [pk_shlN (nI p &&& 31) p (zn_s31 p (by omega)) ha]
theorem z_of_eq (a b : Nat) : (2 ^ b - 1) * 2 ^ a = 2 ^ (a + b) - 2 ^ a := by
  rw [Nat.sub_mul, Nat.one_mul, ← Nat.pow_add, Nat.add_comm b a]
/-- the kind of a rule -/
def z_dk (d : zD) (r x : Nat) : zD := (d.1, z_up d.2.1 r x, d.2.2)
theorem sp_ends {b N kd : Nat} {q : zR} {d : zD} {t : Nat → Nat} {F L T B nr ns : zF} {K : Int32 → Int32 → zF → zF → Prop} (h4 : z_nR q < 4) (h10 : z_nP q + z_ac t b N ≤ 10) (hr : ∀ r, r < z_nR q → nr r = nI (z_fst q r) ∧ nr (4 + r) = nI (z_whl q r) ∧ nr (8 + r) = nI (z_of q r)) (hm : mD ns 0 d) (hl : z_len d ≤ 30) (hF : F 0 = nI (zs_f (z_rn t b N (z_nP q) (z_tk q) (z_bh q) N) 0)) (hL : L 0 = nI (zs_l (z_rn t b N (z_nP q) (z_tk q) (z_bh q) N) 0)) (ht : ∀ p, p < z_nP q + z_ac t b N → T p = nI (zs_t (z_rn t b N (z_nP q) (z_tk q) (z_bh q) N) p) ∧ B p = nI (zs_b (z_rn t b N (z_nP q) (z_tk q) (z_bh q) N) p))
    (h : ∀ (nR' nP' : Int32) (nr' ns' : zF), mR (z_ad q t b N) nR' nP' nr' T B → mD ns' 0 (z_dk d (z_nR q) kd) → K nR' nP' nr' ns') : wp_X10_ends (nI (z_nR q)) (nI (z_nP q)) nr ns F L (nI kd) (nI (z_ac t b N)) K := by
  have hz := hm.z
  have p2 : 1 ≤ (2 : Nat) ^ z_ac t b N := Nat.two_pow_pos _
  have p3 : (2 ^ z_ac t b N - 1) * 2 ^ z_nP q < 4294967296 := by
    rw [z_of_eq]
    have h2 : (2 : Nat) ^ (z_nP q + z_ac t b N) ≤ 2 ^ 10 := Nat.pow_le_pow_right (by decide) h10
    exact Nat.lt_of_le_of_lt (Nat.le_trans (Nat.sub_le _ _) h2) (by decide)
  unfold wp_X10_ends
  rw [zn_add, zn_add, zn_add, zn_add, zn_add, zn_add, zn_in (a := 0) (by omega), zn_in (a := 0 + z_nR q) (by omega), zn_in (a := 4 + z_nR q) (by omega), zn_in (a := 8 + z_nR q) (by omega), zn_in (a := 26 + z_nR q) (by omega), zn_cl (a := 0) (by omega), zn_cl (a := 0 + z_nR q) (by omega), zn_cl (a := 4 + z_nR q) (by omega), zn_cl (a := 8 + z_nR q) (by omega), zn_cl (a := 26 + z_nR q) (by omega), hF, hL, zn_shl (by omega), zn_sub p2, zn_shlN (by omega) p3, z_of_eq, Nat.zero_add]
  refine ⟨by omega, ?_⟩
  rintro _ rfl
  refine ⟨by omega, ?_⟩
  rintro _ rfl
  refine ⟨by omega, ?_⟩
  rintro _ rfl
  refine ⟨by omega, ?_⟩
  rintro _ rfl _ rfl
  refine ⟨by omega, ?_⟩
  rintro _ rfl
  refine ⟨by omega, ?_⟩
  rintro _ rfl _ rfl _ rfl
  refine h _ _ _ _ ⟨rfl, rfl, fun r hr2 => ?_, ht⟩ ⟨fun j hj => ?_, fun r hr2 => ?_, ?_, fun j hj => ?_⟩
  · have hr2 : r < z_nR q + 1 := hr2
    refine ⟨?_, ?_, ?_⟩
    · rw [zu_n (by omega), zu_n (by omega)]
      exact zu_up (fun e => (hr r (by omega)).1)
    · rw [zu_n (by omega)]
      by_cases e : r = z_nR q
      · rw [e, zu_s]
        exact congrArg nI zp_s.symm
      · rw [zu_n (by omega), zu_n (by omega), (hr r (by omega)).2.1]
        exact congrArg nI (zp_n e).symm
    · by_cases e : r = z_nR q
      · rw [e, zu_s]
        exact congrArg nI zp_s.symm
      · rw [zu_n (by omega), zu_n (by omega), zu_n (by omega), (hr r (by omega)).2.2]
        exact congrArg nI (zp_n e).symm
  · rw [zu_n (by omega), Nat.zero_add]
    exact hz.1 j hj
  · rw [Nat.zero_add]
    by_cases e : r = z_nR q
    · rw [e, zu_s]
      exact congrArg nI zp_s.symm
    · rw [zu_n (by omega), hz.2.1 r hr2]
      exact congrArg nI (zp_n e).symm
  · rw [zu_n (by omega)]
    exact hz.2.2.1
  · rw [zu_n (by omega), Nat.zero_add]
    exact hz.2.2.2 j hj
