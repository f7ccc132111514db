/-! the model reads a row -/
theorem sp_letterAt {m i : Nat} {t : Nat → Nat} {len : Int32} {text : zF} {K : Int32 → Prop} (hT : zT m t) (hx : mT m t len text) (hi : i < 2147483648) (h1 : i < m → K (nI (t i))) (h0 : m ≤ i → K (-1)) : wp_X10_letterAt len text (nI i) K := by
  have hm := hT.1
  obtain ⟨rfl, hs⟩ := hx
  unfold wp_X10_letterAt
  rw [zn_le (by omega) hi, zn_in hi, zn_cl hi]
  refine ⟨fun e => h0 e, fun e => ⟨by omega, ?_⟩⟩
  rw [hs i (by omega)]
  exact h1 (by omega)
theorem sp_isAtom {c : Nat} {K : Int32 → Prop} (hc : c < 127) (h1 : z_am c → K (nI 1)) (h0 : ¬ z_am c → K (nI 0)) : wp_X10_isAtom (nI c) K := by
  unfold wp_X10_isAtom
  refine sp_in_lo (by omega) (by omega) (by omega) (fun q1 q2 => zb_f2 zi_1 (h1 (Or.inr ⟨q1, q2⟩))) (fun q => zb_t2 rfl ?_)
  rw [zn_eq (by omega) (by omega)]
  refine ⟨fun e => h0 (fun z => ?_), fun e => h1 (Or.inl e)⟩
  unfold z_am at z
  omega
theorem sp_isAtomM {K : Int32 → Prop} (h0 : K (nI 0)) : wp_X10_isAtom (-1) K := by
  unfold wp_X10_isAtom
  refine sp_in_neg (by decide) (by omega) (zb_t2 rfl (zb_f2 (by decide) h0))
theorem sp_follows {B : zF} {fr to : Nat} {K : zF → Prop} (hf : fr < 1024) (h : ∀ B' : zF, zFo B B' fr to → K B') : wp_X10_follows B (nI fr) (nI to) K := by
  unfold wp_X10_follows
  intro E hE
  refine zl_inv (σ := zF) (fun n i s => lp_X10_follows_2 (nI fr) (nI to) E n (nI i) s) (fun i s => ∀ p, s p = if p < i ∧ fr.testBit p = true then B p ||| nI to else B p) 10 ?_ ?_ 0 B (Nat.zero_le _) (fun p => by rw [if_neg (fun z => absurd z.1 (Nat.not_lt_zero _))])
  · intro n s hs
    rw [lp_X10_follows_2]
    refine zb_t (by rw [zn_le (by omega) (by omega)]; omega) (hE _ (h s (fun p hp => ?_)))
    rw [hs p]
    by_cases e : fr.testBit p = true
    · rw [if_pos ⟨hp, e⟩, if_pos e]
    · rw [if_neg (fun z => e z.2), if_neg e]
  · intro n i s hi hs ih
    rw [lp_X10_follows_2]
    refine zb_f (by rw [zn_le (by omega) (by omega)]; omega) ?_
    rw [zn_in (by omega), zn_cl (by omega)]
    refine ⟨hi, sp_has (by omega) (by omega) (fun hb => zb_f (by decide) ?_) (fun hb => zb_t rfl ?_)⟩
    · rintro _ rfl
      refine ⟨hi, ?_⟩
      rintro _ rfl _ rfl
      rw [zn_add]
      refine ih _ (fun p => ?_)
      by_cases e : p = i
      · subst e
        rw [zu_s, hs p, if_neg (fun z => absurd z.1 (Nat.lt_irrefl _)), if_pos ⟨Nat.lt_succ_self _, hb⟩]
      · rw [zu_n e, hs p]
        by_cases e2 : p < i ∧ fr.testBit p = true
        · rw [if_pos e2, if_pos ⟨by omega, e2.2⟩]
        · rw [if_neg e2, if_neg (fun z => e2 ⟨by omega, z.2⟩)]
    · rintro _ rfl
      refine ⟨hi, ?_⟩
      rintro _ rfl _ rfl
      rw [zn_add, zn_or0]
      refine ih _ (fun p => ?_)
      rw [zu_self, hs p]
      by_cases e : p = i
      · subst e
        rw [if_neg (fun z => absurd z.1 (Nat.lt_irrefl _)), if_neg (fun z => by rw [hb] at z; cases z.2)]
      · by_cases e2 : p < i ∧ fr.testBit p = true
        · rw [if_pos e2, if_pos ⟨by omega, e2.2⟩]
        · rw [if_neg e2, if_neg (fun z => e2 ⟨by omega, z.2⟩)]
theorem sp_bothN {g f1 f2 l1 l2 : Nat} {a b : Bool} {B F L W : zF} {K : Int32 → zF → zF → zF → zF → Prop} (hg : g < 15) (hl : l1 < 1024) (hF1 : F (g + 1) = nI f1) (hL1 : L (g + 1) = nI l1) (hW1 : W (g + 1) = nI a.toNat) (hF : F g = nI f2) (hL : L g = nI l2) (hW : W g = nI b.toNat) (k : ∀ B' : zF, zFo B B' l1 f2 → K (nI (g + 1)) B' (upd F g (nI (f1 ||| (if a then f2 else 0)))) (upd L g (nI (l2 ||| (if b then l1 else 0)))) (upd W g (nI (a && b).toNat))) : wp_X10_both (nI (g + 2)) B F L W K := by
  unfold wp_X10_both
  rintro _ rfl _ rfl
  rw [zn_sub (by omega), zn_sub (by omega), show g + 2 - 1 = g + 1 by omega, show g + 2 - 2 = g by omega, zn_in (by omega), zn_in (by omega), zn_cl (a := g) (by omega), zn_cl (a := g + 1) (by omega), hL1, hF, hF1, hW1, hL, hW]
  refine ⟨by omega, by omega, sp_follows hl (fun B' hB => ⟨by omega, by omega, ?_⟩)⟩
  intro J hJ
  have fin : J (nI (if a then f2 else 0)) := by
    apply hJ
    rintro _ rfl
    refine ⟨by omega, by omega, ?_⟩
    intro J2 hJ2
    have fin2 : J2 (nI (if b then l1 else 0)) := by
      apply hJ2
      rintro _ rfl
      rw [zn_or, zn_or]
      refine ⟨by omega, ?_⟩
      rintro _ rfl
      refine ⟨by omega, ?_⟩
      rintro _ rfl
      have kk := k B' hB
      cases a with
      | false =>
        refine ⟨by omega, zb_t rfl ⟨by omega, ?_⟩⟩
        rintro _ rfl _ rfl
        rw [zn_b0]
        exact kk
      | true =>
        refine ⟨by omega, zb_f (by decide) ⟨by omega, ?_⟩⟩
        cases b with
        | false =>
          refine zb_t rfl ⟨by omega, ?_⟩
          rintro _ rfl _ rfl
          rw [zn_b0]
          exact kk
        | true =>
          refine zb_f (by decide) ⟨by omega, ?_⟩
          rintro _ rfl _ rfl
          rw [zn_b1]
          exact kk
    cases b with
    | false => exact zb_t rfl fin2
    | true => exact zb_f (by decide) ⟨by omega, fin2⟩
  cases a with
  | false => exact zb_t rfl fin
  | true => exact zb_f (by decide) ⟨by omega, fin⟩
theorem sp_eitherN {g f1 f2 l1 l2 : Nat} {a b : Bool} {F L W : zF} {K : Int32 → zF → zF → zF → Prop} (hg : g < 15) (hF1 : F (g + 1) = nI f1) (hL1 : L (g + 1) = nI l1) (hW1 : W (g + 1) = nI a.toNat) (hF : F g = nI f2) (hL : L g = nI l2) (hW : W g = nI b.toNat) (k : K (nI (g + 1)) (upd F g (nI (f2 ||| f1))) (upd L g (nI (l2 ||| l1))) (upd W g (nI (a || b).toNat))) : wp_X10_either (nI (g + 2)) F L W K := by
  unfold wp_X10_either
  rintro _ rfl _ rfl
  rw [zn_sub (by omega), zn_sub (by omega), show g + 2 - 1 = g + 1 by omega, show g + 2 - 2 = g by omega, zn_in (by omega), zn_in (by omega), zn_cl (a := g) (by omega), zn_cl (a := g + 1) (by omega), hL1, hF, hF1, hW1, hL, hW, zn_or, zn_or]
  refine ⟨by omega, by omega, ?_⟩
  rintro _ rfl
  refine ⟨by omega, ?_⟩
  rintro _ rfl
  refine ⟨by omega, by omega, ?_⟩
  rintro _ rfl
  refine ⟨by omega, ?_⟩
  rintro _ rfl
  refine ⟨by omega, ?_⟩
  intro J hJ
  have yes : (a || b) = true → J := by
    intro e
    apply hJ
    refine ⟨by omega, ?_⟩
    rintro _ rfl _ rfl
    rw [zn_b1]
    rw [e] at k
    exact k
  cases a with
  | true => exact zb_f2 (by decide) (yes rfl)
  | false =>
    refine zb_t2 rfl ⟨by omega, ?_⟩
    cases b with
    | true => exact zb_f (by decide) (yes rfl)
    | false =>
      refine zb_t rfl ⟨by omega, ?_⟩
      rintro _ rfl _ rfl
      rw [zn_b0]
      exact k
theorem sp_both {base many h k : Nat} {s : zS} {F L W T B : zF} {K : Int32 → zF → zF → zF → zF → Prop} (hb : base + many ≤ 10) (hh : h ≤ 16) (hp : 2 ≤ h) (hJ : zJ base many h k s) (hH : zH base many s F L W T B) (hK : ∀ F' L' W' B' : zF, zH base many (z_sg base 38 s) F' L' W' T B' → K (nI (zs_h (z_sg base 38 s))) B' F' L' W') : wp_X10_both (nI h) B F L W K := by
  have hs := hJ.1
  obtain ⟨hA, hZ⟩ := hH
  obtain ⟨g, rfl⟩ : ∃ g, h = g + 2 := ⟨h - 2, by omega⟩
  have hlt := hJ.lt hb (i := g + 1) (by omega)
  obtain ⟨a1, a2, a3⟩ := hA (g + 1) (by omega)
  obtain ⟨b1, b2, b3⟩ := hA g (by omega)
  have e1 : zs_h s - 1 = g + 1 := by omega
  have e2 : zs_h s - 2 = g := by omega
  refine sp_bothN (by omega) hlt.2 a1 a2 a3 b1 b2 b3 (fun B' hB => ?_)
  have k1 := hK (upd F g (nI (zs_f s (g + 1) ||| (if zs_w s (g + 1) then zs_f s g else 0)))) (upd L g (nI (zs_l s g ||| (if zs_w s g then zs_l s (g + 1) else 0)))) (upd W g (nI (zs_w s (g + 1) && zs_w s g).toNat)) B' (by
    rw [z_sg_and]
    refine ⟨fun i hi => ?_, fun p hp2 => ?_⟩
    · have hi : i < zs_h s - 1 := hi
      have q := hA i (by omega)
      show upd F g _ i = nI (z_up (zs_f s) (zs_h s - 2) _ i) ∧ upd L g _ i = nI (z_up (zs_l s) (zs_h s - 2) _ i) ∧ upd W g _ i = nI (z_up (zs_w s) (zs_h s - 2) _ i).toNat
      rw [e1, e2]
      exact ⟨zu_up (fun _ => q.1), zu_up (fun _ => q.2.1), zu_upb (fun _ => q.2.2)⟩
    · have hp2 : p < base ∨ (base + zs_k s ≤ p ∧ p < base + many) := hp2
      have q := hZ p hp2
      refine ⟨q.1, ?_⟩
      show B' p = nI (z_fol (zs_b s) (zs_l s (zs_h s - 1)) (zs_f s (zs_h s - 2)) p)
      rw [e1, e2]
      exact hB.fol (by omega) q.2)
  have e3 : zs_h (z_sg base 38 s) = g + 1 := by rw [z_sg_and]; exact e1
  rw [e3] at k1
  exact k1
theorem sp_either {base many h k : Nat} {s : zS} {F L W T B : zF} {K : Int32 → zF → zF → zF → Prop} (hh : h ≤ 16) (hp : 2 ≤ h) (hJ : zJ base many h k s) (hH : zH base many s F L W T B) (hK : ∀ F' L' W' : zF, zH base many (z_sg base 124 s) F' L' W' T B → K (nI (zs_h (z_sg base 124 s))) F' L' W') : wp_X10_either (nI h) F L W K := by
  have hs := hJ.1
  obtain ⟨hA, hZ⟩ := hH
  obtain ⟨g, rfl⟩ : ∃ g, h = g + 2 := ⟨h - 2, by omega⟩
  obtain ⟨a1, a2, a3⟩ := hA (g + 1) (by omega)
  obtain ⟨b1, b2, b3⟩ := hA g (by omega)
  have e1 : zs_h s - 1 = g + 1 := by omega
  have e2 : zs_h s - 2 = g := by omega
  refine sp_eitherN (by omega) a1 a2 a3 b1 b2 b3 ?_
  have k1 := hK (upd F g (nI (zs_f s g ||| zs_f s (g + 1)))) (upd L g (nI (zs_l s g ||| zs_l s (g + 1)))) (upd W g (nI (zs_w s (g + 1) || zs_w s g).toNat)) (by
    rw [z_sg_or]
    refine ⟨fun i hi => ?_, hZ⟩
    have hi : i < zs_h s - 1 := hi
    have q := hA i (by omega)
    show upd F g _ i = nI (z_up (zs_f s) (zs_h s - 2) _ i) ∧ upd L g _ i = nI (z_up (zs_l s) (zs_h s - 2) _ i) ∧ upd W g _ i = nI (z_up (zs_w s) (zs_h s - 2) _ i).toNat
    rw [e1, e2]
    exact ⟨zu_up (fun _ => q.1), zu_up (fun _ => q.2.1), zu_upb (fun _ => q.2.2)⟩)
  have e3 : zs_h (z_sg base 124 s) = g + 1 := by rw [z_sg_or]; exact e1
  rw [e3] at k1
  exact k1
theorem sp_again {base many h k : Nat} {s : zS} {F L W T B : zF} {K : zF → Prop} (hb : base + many ≤ 10) (hh : h ≤ 16) (hp : 1 ≤ h) (hJ : zJ base many h k s) (hH : zH base many s F L W T B) (hK : ∀ B' : zF, zH base many (z_sg base 43 s) F L W T B' → K B') : wp_X10_again (nI h) B F L K := by
  have hs := hJ.1
  obtain ⟨hA, hZ⟩ := hH
  obtain ⟨g, rfl⟩ : ∃ g, h = g + 1 := ⟨h - 1, by omega⟩
  have hlt := hJ.lt hb (i := g) (by omega)
  obtain ⟨a1, a2, a3⟩ := hA g (by omega)
  have e1 : zs_h s - 1 = g := by omega
  unfold wp_X10_again
  rw [zn_sub (by omega), show g + 1 - 1 = g by omega, zn_in (by omega), zn_cl (by omega), a1, a2]
  refine ⟨by omega, by omega, sp_follows hlt.2 (fun B' hB => hK B' ?_)⟩
  rw [z_sg_plus]
  refine ⟨hA, fun p hp2 => ?_⟩
  have hp2 : p < base ∨ (base + zs_k s ≤ p ∧ p < base + many) := hp2
  have q := hZ p hp2
  refine ⟨q.1, ?_⟩
  show B' p = nI (z_fol (zs_b s) (zs_l s (zs_h s - 1)) (zs_f s (zs_h s - 1)) p)
  rw [e1]
  exact hB.fol (by omega) q.2
theorem sp_maybe {base many h k : Nat} {s : zS} {F L W T B : zF} {K : zF → Prop} (hh : h ≤ 16) (hp : 1 ≤ h) (hJ : zJ base many h k s) (hH : zH base many s F L W T B) (hK : ∀ W' : zF, zH base many (z_sg base 63 s) F L W' T B → K W') : wp_X10_maybe (nI h) W K := by
  have hs := hJ.1
  obtain ⟨hA, hZ⟩ := hH
  obtain ⟨g, rfl⟩ : ∃ g, h = g + 1 := ⟨h - 1, by omega⟩
  have e1 : zs_h s - 1 = g := by omega
  unfold wp_X10_maybe
  rw [zn_sub (by omega), show g + 1 - 1 = g by omega, zn_in (by omega), zn_cl (by omega)]
  refine ⟨by omega, ?_⟩
  rintro _ rfl
  refine hK _ ?_
  rw [z_sg_may, zn_b1]
  refine ⟨fun i hi => ?_, hZ⟩
  have q := hA i hi
  refine ⟨q.1, q.2.1, ?_⟩
  show upd W g (nI true.toNat) i = nI (z_up (zs_w s) (zs_h s - 1) true i).toNat
  rw [e1]
  exact zu_upb (fun _ => q.2.2)
theorem z_sg_star2 (base : Nat) (s : zS) : z_sg base 42 s = z_sg base 63 (z_sg base 43 s) := by
  rw [z_sg_star, z_sg_may, z_sg_plus]
  rfl
theorem sp_any {base many h k : Nat} {s : zS} {F L W T B : zF} {K : zF → zF → Prop} (hb : base + many ≤ 10) (hh : h ≤ 16) (hp : 1 ≤ h) (hJ : zJ base many h k s) (hH : zH base many s F L W T B) (hK : ∀ W' B' : zF, zH base many (z_sg base 42 s) F L W' T B' → K B' W') : wp_X10_any (nI h) B F L W K := by
  have hs := hJ.1
  obtain ⟨g, rfl⟩ : ∃ g, h = g + 1 := ⟨h - 1, by omega⟩
  unfold wp_X10_any
  refine sp_again hb hh hp hJ hH (fun B' hH2 => ?_)
  unfold wp_X10_maybe
  rw [zn_sub (by omega), show g + 1 - 1 = g by omega, zn_in (by omega), zn_cl (by omega)]
  refine ⟨by omega, ?_⟩
  rintro _ rfl
  refine hK _ _ ?_
  obtain ⟨hA, hZ⟩ := hH2
  rw [z_sg_star2, z_sg_may, zn_b1]
  have e0 : zs_h (z_sg base 43 s) = g + 1 := by rw [z_sg_plus]; exact hs
  refine ⟨fun i hi => ?_, hZ⟩
  have q := hA i hi
  refine ⟨q.1, q.2.1, ?_⟩
  show upd W g (nI true.toNat) i = nI (z_up (zs_w (z_sg base 43 s)) (zs_h (z_sg base 43 s) - 1) true i).toNat
  rw [e0, show g + 1 - 1 = g by omega]
  exact zu_upb (fun _ => q.2.2)
theorem sp_atom {base many h k c : Nat} {s : zS} {F L W T B : zF} {K : Int32 → zF → zF → zF → zF → zF → Prop} (hb : base + many ≤ 10) (hh : h < 16) (hk : 1 ≤ k) (hkm : k ≤ many) (hc : z_am c) (hJ : zJ base many h k s) (hH : zH base many s F L W T B) (hK : ∀ F' L' W' T' B' : zF, zH base many (z_sg base c s) F' L' W' T' B' → K (nI (zs_h (z_sg base c s))) T' B' F' L' W') : wp_X10_atom (nI base) (nI h) T B F L W (nI (k - 1)) (nI (if c = 46 then 6 else c - 48)) K := by
  have hs := hJ.1
  have hs2 := hJ.2.1
  obtain ⟨hA, hZ⟩ := hH
  have e4 : base + (zs_k s - 1) = base + (k - 1) := by omega
  unfold wp_X10_atom
  rintro _ rfl
  rw [zn_add, zn_in (by omega), zn_cl (by omega), zn_shl (by omega), zn_in (by omega), zn_cl (by omega), zn_b0]
  refine ⟨by omega, ?_⟩
  rintro _ rfl
  refine ⟨by omega, ?_⟩
  rintro _ rfl _ rfl
  refine ⟨by omega, ?_⟩
  rintro _ rfl _ rfl
  refine ⟨by omega, ?_⟩
  rintro _ rfl
  refine ⟨by omega, ?_⟩
  rintro _ rfl _ rfl
  rw [zn_add]
  have k1 := hK (upd F h (nI (2 ^ (base + (k - 1))))) (upd L h (nI (2 ^ (base + (k - 1))))) (upd W h (nI false.toNat)) (upd T (base + (k - 1)) (nI (if c = 46 then 6 else c - 48))) (upd B (base + (k - 1)) (nI 0)) (by
    rw [z_sg_am hc, e4]
    refine ⟨fun i hi => ?_, fun p hp => ?_⟩
    · have hi : i < zs_h s + 1 := hi
      show upd F h _ i = nI (z_up (zs_f s) (zs_h s) _ i) ∧ upd L h _ i = nI (z_up (zs_l s) (zs_h s) _ i) ∧ upd W h _ i = nI (z_up (zs_w s) (zs_h s) _ i).toNat
      rw [hs]
      exact ⟨zu_up (fun e => (hA i (by omega)).1), zu_up (fun e => (hA i (by omega)).2.1), zu_upb (fun e => (hA i (by omega)).2.2)⟩
    · have hp : p < base ∨ (base + (zs_k s - 1) ≤ p ∧ p < base + many) := hp
      exact ⟨zu_up (fun e => (hZ p (by omega)).1), zu_up (fun e => (hZ p (by omega)).2)⟩)
  have e3 : zs_h (z_sg base c s) = h + 1 := by rw [z_sg_am hc]; show zs_h s + 1 = _; omega
  rw [e3] at k1
  exact k1
