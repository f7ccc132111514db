/-! both sides hold a row's reading alike -/
def zH (base many : Nat) (s : zS) (F L W T B : zF) : Prop := (∀ i, i < zs_h s → F i = nI (zs_f s i) ∧ L i = nI (zs_l s i) ∧ W i = nI (zs_w s i).toNat) ∧ ∀ p, (p < base ∨ (base + zs_k s ≤ p ∧ p < base + many)) → T p = nI (zs_t s p) ∧ B p = nI (zs_b s p)
def zFo (B B' : zF) (fr to : Nat) : Prop := ∀ p, p < 10 → B' p = if fr.testBit p then B p ||| nI to else B p
theorem zFo.fol {B B' : zF} {fr to p : Nat} {b : Nat → Nat} (h : zFo B B' fr to) (hp : p < 10) (hb : B p = nI (b p)) : B' p = nI (z_fol b fr to p) := by
  rw [h p hp]
  unfold z_fol
  split
  · rw [hb, zn_or]
  · exact hb
theorem zu_up {F : zF} {f : Nat → Nat} {g v i : Nat} (h : i ≠ g → F i = nI (f i)) : upd F g (nI v) i = nI (z_up f g v i) := by
  by_cases e : i = g
  · rw [e, zu_s, zp_s]
  · rw [zu_n e, zp_n e]; exact h e
theorem zu_upb {F : zF} {f : Nat → Bool} {g i : Nat} {v : Bool} (h : i ≠ g → F i = nI (f i).toNat) : upd F g (nI v.toNat) i = nI (z_up f g v i).toNat := by
  by_cases e : i = g
  · rw [e, zu_s, zp_s]
  · rw [zu_n e, zp_n e]; exact h e
theorem zn_or0 (x : Int32) : x ||| nI 0 = x := by
  rw [zn_self x, zn_or, Nat.or_zero]
/-! the class's pile -/
theorem sx_first {h : Nat} {F : zF} {K : Int32 → Prop} (hh : h < 16) (k : K (F h)) : wp_X2_first (nI (h + 1)) F K := by
  unfold wp_X2_first
  refine zb_f (by rw [zn_le0 (by omega)]; omega) ?_
  rw [zn_sub (by omega), show h + 1 - 1 = h by omega, zn_in (by omega), zn_cl (by omega)]
  exact ⟨hh, k⟩
theorem sx_last {h : Nat} {F : zF} {K : Int32 → Prop} (hh : h < 16) (k : K (F h)) : wp_X2_last (nI (h + 1)) F K := by
  unfold wp_X2_last
  refine zb_f (by rw [zn_le0 (by omega)]; omega) ?_
  rw [zn_sub (by omega), show h + 1 - 1 = h by omega, zn_in (by omega), zn_cl (by omega)]
  exact ⟨hh, k⟩
theorem sx_mayLack {h : Nat} {W : zF} {a : Bool} {K : Int32 → Prop} (hh : h < 16) (hW : W h = nI a.toNat) (k : K (nI a.toNat)) : wp_X2_mayLack (nI (h + 1)) W K := by
  unfold wp_X2_mayLack
  refine zb_f (by rw [zn_le0 (by omega)]; omega) ?_
  rw [zn_sub (by omega), show h + 1 - 1 = h by omega, zn_in (by omega), zn_cl (by omega), hW]
  refine ⟨hh, ?_⟩
  cases a with
  | false => exact zb_t rfl k
  | true => exact zb_f (by decide) k
theorem sx_pop {h : Nat} {K : Int32 → Prop} (hh : h < 16) (k : K (nI h)) : wp_X2_pop (nI (h + 1)) K := by
  unfold wp_X2_pop
  refine zb_f (by rw [zn_le0 (by omega)]; omega) ?_
  rintro _ rfl
  rw [zn_sub (by omega), show h + 1 - 1 = h by omega]
  exact k
theorem sx_push {h : Nat} {F L W : zF} {p1 p2 : Int32} {a : Bool} {K : Int32 → zF → zF → zF → Prop} (hh : h < 16) (k : K (nI (h + 1)) (upd F h p1) (upd L h p2) (upd W h (nI a.toNat))) : wp_X2_push (nI h) F L W p1 p2 (nI a.toNat) K := by
  unfold wp_X2_push
  refine zb_f (by rw [zn_le (by omega) (by omega)]; omega) ?_
  rw [zn_in (by omega), zn_cl (by omega), zk_bool]
  refine ⟨hh, ?_⟩
  rintro _ rfl
  refine ⟨hh, ?_⟩
  rintro _ rfl
  refine ⟨hh, ?_⟩
  rintro _ rfl _ rfl
  rw [zn_add]
  exact k
theorem sx_goOnR {B : zF} {fr to : Nat} {K : zF → Prop} (hf : fr < 1024) (h : ∀ B' : zF, zFo B B' fr to → K B') : wp_X4_goOn B (nI fr) (nI to) K := by
  unfold wp_X4_goOn
  intro E hE
  refine zl_inv (σ := zF) (fun n i s => lp_X4_goOn_2 (nI fr) (nI to) E n (nI i) s) (fun i s => ∀ p, s p = if p < i ∧ fr.testBit p = true then B p ||| nI to else B p) 10 ?_ ?_ 0 B (Nat.zero_le _) (fun p => by rw [if_neg (fun z => absurd z.1 (Nat.not_lt_zero _))])
  · intro n s hs
    rw [lp_X4_goOn_2]
    refine zb_t (by rw [zn_le (by omega) (by omega)]; omega) (hE _ (h s (fun p hp => ?_)))
    rw [hs p]
    by_cases e : fr.testBit p = true
    · rw [if_pos ⟨hp, e⟩, if_pos e]
    · rw [if_neg (fun z => e z.2), if_neg e]
  · intro n i s hi hs ih
    rw [lp_X4_goOn_2]
    refine zb_f (by rw [zn_le (by omega) (by omega)]; omega) ?_
    rw [zn_bit (by omega) (by omega)]
    cases hb : fr.testBit i with
    | false =>
      refine zb_t rfl ?_
      rintro _ rfl
      rw [zn_add]
      refine ih s (fun p => ?_)
      rw [hs p]
      by_cases e : p = i
      · subst e
        rw [if_neg (fun z => absurd z.1 (Nat.lt_irrefl _)), if_neg (fun z => by rw [hb] at z; cases z.2)]
      · by_cases e2 : p < i ∧ fr.testBit p = true
        · rw [if_pos e2, if_pos ⟨by omega, e2.2⟩]
        · rw [if_neg e2, if_neg (fun z => e2 ⟨by omega, z.2⟩)]
    | true =>
      refine zb_f (by decide) ?_
      rw [zn_in (by omega), zn_cl (by omega)]
      refine ⟨hi, ?_⟩
      rintro _ rfl
      refine ⟨hi, ?_⟩
      rintro _ rfl _ rfl
      rw [zn_add]
      refine ih _ (fun p => ?_)
      by_cases e : p = i
      · subst e
        rw [zu_s, hs p, if_neg (fun z => absurd z.1 (Nat.lt_irrefl _)), if_pos ⟨Nat.lt_succ_self _, hb⟩]
      · rw [zu_n e, hs p]
        by_cases e2 : p < i ∧ fr.testBit p = true
        · rw [if_pos e2, if_pos ⟨by omega, e2.2⟩]
        · rw [if_neg e2, if_neg (fun z => e2 ⟨by omega, z.2⟩)]
theorem sx_joinNext {h f1 f2 l1 l2 : Nat} {a b : Bool} {B F L W : zF} {K : zF → Int32 → zF → zF → zF → Prop} (hh : h < 16) (hl : l1 < 1024) (hF : F h = nI f2) (hL : L h = nI l2) (hW : W h = nI b.toNat) (k : ∀ B' : zF, zFo B B' l1 f2 → K B' (nI (h + 1)) (upd F h (nI (f1 ||| (if a then f2 else 0)))) (upd L h (nI (l2 ||| (if b then l1 else 0)))) (upd W h (nI (a && b).toNat))) : wp_X4_joinNext B (nI (h + 1)) F L W (nI f1) (nI l1) (nI a.toNat) K := by
  unfold wp_X4_joinNext
  refine sx_first hh (sx_last hh (sx_mayLack hh hW (sx_pop hh ?_)))
  rw [hF, hL]
  refine sx_goOnR hl (fun B' hB => ?_)
  intro J hJ
  have fin : J (nI (f1 ||| (if a then f2 else 0))) := by
    apply hJ
    intro J2 hJ2
    have fin2 : J2 (nI (l2 ||| (if b then l1 else 0))) := by
      apply hJ2
      intro J3 hJ3 J4 hJ4
      have fin3 : J3 (nI (a && b).toNat) := by
        apply hJ3
        exact sx_push hh (k B' hB)
      cases a with
      | false => exact zb_t rfl (hJ4 fin3)
      | true =>
        cases b with
        | false => exact zb_f (by decide) (zb_t rfl (hJ4 fin3))
        | true => exact zb_f (by decide) (zb_f (by decide) fin3)
    cases b with
    | false =>
      rw [if_neg (by decide), Nat.or_zero] at fin2
      exact zb_t rfl fin2
    | true =>
      rw [if_pos rfl, Nat.or_comm, ← zn_or] at fin2
      exact zb_f (by decide) fin2
  cases a with
  | false =>
    rw [if_neg (by decide), Nat.or_zero] at fin
    exact zb_t rfl fin
  | true =>
    rw [if_pos rfl, ← zn_or] at fin
    exact zb_f (by decide) fin
theorem sx_joinOther {h f1 f2 l1 l2 : Nat} {a b : Bool} {F L W : zF} {K : Int32 → zF → zF → zF → Prop} (hh : h < 16) (hF : F h = nI f2) (hL : L h = nI l2) (hW : W h = nI b.toNat) (k : K (nI (h + 1)) (upd F h (nI (f2 ||| f1))) (upd L h (nI (l2 ||| l1))) (upd W h (nI (a || b).toNat))) : wp_X4_joinOther (nI (h + 1)) F L W (nI f1) (nI l1) (nI a.toNat) K := by
  unfold wp_X4_joinOther
  refine sx_first hh (sx_last hh (sx_mayLack hh hW (sx_pop hh ?_)))
  rw [hF, hL, zn_or, zn_or, Nat.or_comm f1, Nat.or_comm l1]
  intro J hJ J2 hJ2
  have fin : J (nI (a || b).toNat) := by
    apply hJ
    exact sx_push hh k
  cases a with
  | false =>
    cases b with
    | false => exact zb_t2 rfl (zb_t rfl fin)
    | true => exact zb_t2 rfl (zb_f (by decide) (hJ2 fin))
  | true => exact zb_f2 (by decide) (hJ2 fin)
theorem zJ.lt {base many h k i : Nat} {s : zS} (hb : base + many ≤ 10) (hJ : zJ base many h k s) (hi : i < h) : zs_f s i < 1024 ∧ zs_l s i < 1024 := by
  have h2 : (2 : Nat) ^ (base + many) ≤ 2 ^ 10 := Nat.pow_le_pow_right (by decide) hb
  have h3 : (2 : Nat) ^ 10 = 1024 := by decide
  have g := hJ.2.2.1 i hi
  have g1 := z_rng_lt g.1
  have g2 := z_rng_lt g.2
  omega
/-- one sign that is no place, the class -/
theorem sx_join {base many h k c : Nat} {s : zS} {F L W T B : zF} {K : zF → Int32 → zF → zF → zF → Prop} (hb : base + many ≤ 10) (hh : h ≤ 16) (hc : c = 38 ∨ c = 124 ∨ c = 42 ∨ c = 43 ∨ c = 63) (hp : z_pt c ≤ h) (hJ : zJ base many h k s) (hH : zH base many s F L W T B) (hK : ∀ F' L' W' B' : zF, zH base many (z_sg base c s) F' L' W' T B' → K B' (nI (zs_h (z_sg base c s))) F' L' W') : wp_X4_join B (nI h) F L W (nI c) K := by
  have hs := hJ.1
  obtain ⟨hA, hZ⟩ := hH
  have hlt := fun i hi => hJ.lt hb (i := i) hi
  have two : z_pt c = 2 → ∃ g, h = g + 2 := fun e => ⟨h - 2, by omega⟩
  have one : 1 ≤ z_pt c → ∃ g, h = g + 1 := fun e => ⟨h - 1, by omega⟩
  unfold wp_X4_join
  rcases hc with rfl | rfl | rfl | rfl | rfl
  · obtain ⟨g, rfl⟩ := two rfl
    obtain ⟨a1, a2, a3⟩ := hA (g + 1) (by omega)
    obtain ⟨b1, b2, b3⟩ := hA g (by omega)
    have e1 : zs_h s - 1 = g + 1 := by omega
    have e2 : zs_h s - 2 = g := by omega
    refine sx_first (h := g + 1) (by omega) (sx_last (h := g + 1) (by omega) (sx_mayLack (h := g + 1) (by omega) a3 (sx_pop (h := g + 1) (by omega) (zb_t rfl ?_))))
    rw [a1, a2]
    refine sx_joinNext (by omega) (hlt _ (by omega)).2 b1 b2 b3 (fun B' hB => ?_)
    have k1 := hK (upd F g (nI (zs_f s (g + 1) ||| (if zs_w s (g + 1) then zs_f s g else 0)))) (upd L g (nI (zs_l s g ||| (if zs_w s g then zs_l s (g + 1) else 0)))) (upd W g (nI (zs_w s (g + 1) && zs_w s g).toNat)) B' (by
      rw [z_sg_and]
      refine ⟨fun i hi => ?_, fun p hp2 => ?_⟩
      · have hi : i < zs_h s - 1 := hi
        have q := hA i (by omega)
        show upd F g _ i = nI (z_up (zs_f s) (zs_h s - 2) _ i) ∧ upd L g _ i = nI (z_up (zs_l s) (zs_h s - 2) _ i) ∧ upd W g _ i = nI (z_up (zs_w s) (zs_h s - 2) _ i).toNat
        rw [e1, e2]
        exact ⟨zu_up (fun _ => q.1), zu_up (fun _ => q.2.1), zu_upb (fun _ => q.2.2)⟩
      · have hp2 : p < base ∨ (base + zs_k s ≤ p ∧ p < base + many) := hp2
        have q := hZ p hp2
        refine ⟨q.1, ?_⟩
        show B' p = nI (z_fol (zs_b s) (zs_l s (zs_h s - 1)) (zs_f s (zs_h s - 2)) p)
        rw [e1, e2]
        exact hB.fol (by omega) q.2)
    have e3 : zs_h (z_sg base 38 s) = g + 1 := by rw [z_sg_and]; exact e1
    rw [e3] at k1
    exact k1
  · obtain ⟨g, rfl⟩ := two rfl
    obtain ⟨a1, a2, a3⟩ := hA (g + 1) (by omega)
    obtain ⟨b1, b2, b3⟩ := hA g (by omega)
    have e1 : zs_h s - 1 = g + 1 := by omega
    have e2 : zs_h s - 2 = g := by omega
    refine sx_first (h := g + 1) (by omega) (sx_last (h := g + 1) (by omega) (sx_mayLack (h := g + 1) (by omega) a3 (sx_pop (h := g + 1) (by omega) (zb_f (by decide) (zb_f (by decide) (zb_t rfl ?_))))))
    rw [a1, a2]
    refine sx_joinOther (by omega) b1 b2 b3 ?_
    have k1 := hK (upd F g (nI (zs_f s g ||| zs_f s (g + 1)))) (upd L g (nI (zs_l s g ||| zs_l s (g + 1)))) (upd W g (nI (zs_w s (g + 1) || zs_w s g).toNat)) B (by
      rw [z_sg_or]
      refine ⟨fun i hi => ?_, hZ⟩
      have hi : i < zs_h s - 1 := hi
      have q := hA i (by omega)
      show upd F g _ i = nI (z_up (zs_f s) (zs_h s - 2) _ i) ∧ upd L g _ i = nI (z_up (zs_l s) (zs_h s - 2) _ i) ∧ upd W g _ i = nI (z_up (zs_w s) (zs_h s - 2) _ i).toNat
      rw [e1, e2]
      exact ⟨zu_up (fun _ => q.1), zu_up (fun _ => q.2.1), zu_upb (fun _ => q.2.2)⟩)
    have e3 : zs_h (z_sg base 124 s) = g + 1 := by rw [z_sg_or]; exact e1
    rw [e3] at k1
    exact k1
  · obtain ⟨g, rfl⟩ := one (by decide)
    obtain ⟨a1, a2, a3⟩ := hA g (by omega)
    have e1 : zs_h s - 1 = g := by omega
    refine sx_first (by omega) (sx_last (by omega) (sx_mayLack (by omega) a3 (sx_pop (by omega) (zb_f (by decide) (zb_f (by decide) (zb_f (by decide) ?_))))))
    rw [a1, a2]
    refine sx_goOnR (hlt _ (by omega)).2 (fun B' hB => ?_)
    intro J hJ2 J2 hJ3
    have fin : J (nI true.toNat) := by
      apply hJ2
      refine sx_push (by omega) ?_
      have k1 := hK (upd F g (nI (zs_f s g))) (upd L g (nI (zs_l s g))) (upd W g (nI true.toNat)) B' (by
        rw [z_sg_star]
        refine ⟨fun i hi => ?_, fun p hp2 => ?_⟩
        · have hi : i < zs_h s := hi
          have q := hA i (by omega)
          show upd F g _ i = nI (zs_f s i) ∧ upd L g _ i = nI (zs_l s i) ∧ upd W g _ i = nI (z_up (zs_w s) (zs_h s - 1) true i).toNat
          rw [e1]
          refine ⟨?_, ?_, zu_upb (fun _ => q.2.2)⟩
          · by_cases e : i = g
            · rw [e, zu_s]
            · rw [zu_n e]; exact q.1
          · by_cases e : i = g
            · rw [e, zu_s]
            · rw [zu_n e]; exact q.2.1
        · have hp2 : p < base ∨ (base + zs_k s ≤ p ∧ p < base + many) := hp2
          have q := hZ p hp2
          refine ⟨q.1, ?_⟩
          show B' p = nI (z_fol (zs_b s) (zs_l s (zs_h s - 1)) (zs_f s (zs_h s - 1)) p)
          rw [e1]
          exact hB.fol (by omega) q.2)
      have e3 : zs_h (z_sg base 42 s) = g + 1 := by rw [z_sg_star]; exact hs
      rw [e3] at k1
      exact k1
    cases hw : zs_w s g with
    | false => exact zb_t2 rfl (zb_t2 rfl (hJ3 fin))
    | true => exact zb_f2 (by decide) (hJ3 fin)
  · obtain ⟨g, rfl⟩ := one (by decide)
    obtain ⟨a1, a2, a3⟩ := hA g (by omega)
    have e1 : zs_h s - 1 = g := by omega
    refine sx_first (by omega) (sx_last (by omega) (sx_mayLack (by omega) a3 (sx_pop (by omega) (zb_f (by decide) (zb_f (by decide) (zb_f (by decide) ?_))))))
    rw [a1, a2]
    refine sx_goOnR (hlt _ (by omega)).2 (fun B' hB => ?_)
    intro J hJ2 J2 hJ3
    have fin : J (nI (zs_w s g).toNat) := by
      apply hJ2
      refine sx_push (by omega) ?_
      have k1 := hK (upd F g (nI (zs_f s g))) (upd L g (nI (zs_l s g))) (upd W g (nI (zs_w s g).toNat)) B' (by
        rw [z_sg_plus]
        refine ⟨fun i hi => ?_, fun p hp2 => ?_⟩
        · have hi : i < zs_h s := hi
          have q := hA i (by omega)
          show upd F g _ i = nI (zs_f s i) ∧ upd L g _ i = nI (zs_l s i) ∧ upd W g _ i = nI (zs_w s i).toNat
          by_cases e : i = g
          · rw [e, zu_s, zu_s, zu_s]; exact ⟨rfl, rfl, rfl⟩
          · rw [zu_n e, zu_n e, zu_n e]; exact q
        · have hp2 : p < base ∨ (base + zs_k s ≤ p ∧ p < base + many) := hp2
          have q := hZ p hp2
          refine ⟨q.1, ?_⟩
          show B' p = nI (z_fol (zs_b s) (zs_l s (zs_h s - 1)) (zs_f s (zs_h s - 1)) p)
          rw [e1]
          exact hB.fol (by omega) q.2)
      have e3 : zs_h (z_sg base 43 s) = g + 1 := by rw [z_sg_plus]; exact hs
      rw [e3] at k1
      exact k1
    cases hw : zs_w s g with
    | false => rw [hw] at fin; exact zb_t2 rfl (zb_f2 (by decide) fin)
    | true => rw [hw] at fin; exact zb_f2 (by decide) (hJ3 fin)
  · obtain ⟨g, rfl⟩ := one (by decide)
    obtain ⟨a1, a2, a3⟩ := hA g (by omega)
    have e1 : zs_h s - 1 = g := by omega
    refine sx_first (by omega) (sx_last (by omega) (sx_mayLack (by omega) a3 (sx_pop (by omega) (zb_f (by decide) (zb_t rfl ?_)))))
    rw [a1, a2]
    refine sx_push (a := true) (by omega) ?_
    have k1 := hK (upd F g (nI (zs_f s g))) (upd L g (nI (zs_l s g))) (upd W g (nI true.toNat)) B (by
      rw [z_sg_may]
      refine ⟨fun i hi => ?_, hZ⟩
      have hi : i < zs_h s := hi
      have q := hA i (by omega)
      show upd F g _ i = nI (zs_f s i) ∧ upd L g _ i = nI (zs_l s i) ∧ upd W g _ i = nI (z_up (zs_w s) (zs_h s - 1) true i).toNat
      rw [e1]
      refine ⟨?_, ?_, zu_upb (fun _ => q.2.2)⟩
      · by_cases e : i = g
        · rw [e, zu_s]
        · rw [zu_n e]; exact q.1
      · by_cases e : i = g
        · rw [e, zu_s]
        · rw [zu_n e]; exact q.2.1)
    have e3 : zs_h (z_sg base 63 s) = g + 1 := by rw [z_sg_may]; exact hs
    rw [e3] at k1
    exact k1

