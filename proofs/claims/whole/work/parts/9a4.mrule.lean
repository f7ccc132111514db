/-! the model's item of a rule -/
theorem zi_0l : (nI 0).toInt64 = lN 0 := by decide
theorem sp_figure {m j h w : Nat} {t : Nat → Nat} {len : Int32} {text : zF} {K : Int32 → Int32 → Int32 → Prop} (hT : zT m t) (hx : mT m t len text) (hj : j < 2147483647) (hh : h ≤ 9) (hw : w < 2)
    (h1 : w = 0 → j < m → 48 ≤ t j → t j ≤ 48 + h → K (nI (t j - 48)) (nI (j + 1)) (nI 0)) (h0 : ¬ (w = 0 ∧ j < m ∧ 48 ≤ t j ∧ t j ≤ 48 + h) → K (nI 0) (nI (j + 1)) (nI 1)) : wp_X10_figure len (nI j) (nI w) text (nI 0) (nI h) K := by
  have bad : ∀ r : Int32, ¬ (w = 0 ∧ j < m ∧ 48 ≤ t j ∧ t j ≤ 48 + h) → ∀ J : Int32 → Prop, (∀ s1 : Int32, ((narrow .boolean (.int s1) = .int s1 ∧ fits .boolean (.int s1) = true) ∧ ∀ nx : Int32, nx = nI j + nI 1 → (s1 = 0 → K (r - nI 48) nx s1) ∧ (¬ s1 = 0 → K (nI 0) nx s1)) → J s1) → J (nI 1) := by
    intro r hn J hJ
    apply hJ
    refine ⟨⟨rfl, rfl⟩, ?_⟩
    rintro _ rfl
    rw [zn_add]
    exact zb_f (by decide) (h0 hn)
  unfold wp_X10_figure
  rw [zi_0l]
  have hw2 : w = 0 ∨ w = 1 := by omega
  rcases hw2 with rfl | rfl
  · rcases Nat.lt_or_ge j m with q | q
    · have htj := hT.2 j q
      refine sp_letterAt hT hx (by omega) (fun _ => ?_) (fun q2 => by omega)
      rintro _ rfl
      intro J hJ J2 hJ2
      refine zb_t2 rfl (sp_letterAt hT hx (by omega) (fun _ => ?_) (fun q2 => by omega))
      refine sp_in_lo (by omega) (by omega) (by omega) (fun q1 q2 => zb_f zi_1 ?_) (fun q1 => zb_t rfl (hJ2 (bad _ (by omega) J hJ)))
      rw [zn_sub q1]
      rcases Nat.lt_or_ge h (t j - 48) with q3 | q3
      · exact sp_inn_f (by omega) (Or.inr ⟨_, by omega, by omega, rfl⟩) (zb_t2 rfl (hJ2 (bad _ (by omega) J hJ)))
      · refine sp_inn_t (by omega) q3 (zb_f2 zi_1 ?_)
        apply hJ
        refine ⟨⟨rfl, rfl⟩, ?_⟩
        rintro _ rfl
        rw [zn_add, zn_sub q1]
        exact zb_t rfl (h1 rfl q q1 (by omega))
    · refine sp_letterAt hT hx (by omega) (fun q2 => by omega) (fun _ => ?_)
      rintro _ rfl
      intro J hJ J2 hJ2
      refine zb_t2 rfl (sp_letterAt hT hx (by omega) (fun q2 => by omega) (fun _ => ?_))
      exact sp_in_neg (by decide) (by omega) (zb_t rfl (hJ2 (bad _ (by omega) J hJ)))
  · rcases Nat.lt_or_ge j m with q | q
    · refine sp_letterAt hT hx (by omega) (fun _ => ?_) (fun q2 => by omega)
      rintro _ rfl
      intro J hJ J2 hJ2
      exact zb_f2 zi_1 (hJ2 (bad _ (by omega) J hJ))
    · refine sp_letterAt hT hx (by omega) (fun q2 => by omega) (fun _ => ?_)
      rintro _ rfl
      intro J hJ J2 hJ2
      exact zb_f2 zi_1 (hJ2 (bad _ (by omega) J hJ))
theorem sp_comma {m j w : Nat} {t : Nat → Nat} {len : Int32} {text : zF} {K : Int32 → Int32 → Prop} (hT : zT m t) (hx : mT m t len text) (hj : j < 2147483647) (hw : w < 2)
    (h1 : w = 0 → j < m → t j = 44 → K (nI (j + 1)) (nI 0)) (h0 : ¬ (w = 0 ∧ j < m ∧ t j = 44) → K (nI (j + 1)) (nI 1)) : wp_X10_comma len (nI j) (nI w) text K := by
  unfold wp_X10_comma
  intro J hJ
  have bad : ¬ (w = 0 ∧ j < m ∧ t j = 44) → J := by
    intro hn
    apply hJ
    rintro _ rfl
    rw [zn_add]
    exact h0 hn
  have hw2 : w = 0 ∨ w = 1 := by omega
  rcases hw2 with rfl | rfl
  · refine zb_t2 rfl (sp_letterAt hT hx (by omega) (fun q => ?_) (fun q => ?_))
    · have htj := hT.2 j q
      rw [zn_eq (by omega) (by omega)]
      refine ⟨fun e => ?_, fun e => bad (by omega)⟩
      rintro _ rfl
      rw [zn_add]
      exact h1 rfl q e
    · exact zb_f (by decide) (bad (by omega))
  · exact zb_f2 zi_1 (bad (by omega))
theorem zk_nar (w : Bool) : narrow .boolean (.int (nI w.toNat)) = .int (nI w.toNat) := by
  cases w with
  | true => rfl
  | false => rfl
theorem zk_fit (w : Bool) : fits .boolean (.int (nI w.toNat)) = true := by
  cases w with
  | true => rfl
  | false => rfl
/-- one sign of a row, as the model takes it -/
theorem sp_signStep {r nx bg v3 v4 : Int32} {Z : Int32 → Int32 → Int32 → Int32 → Prop} (a b c w : Bool) (ha : (r = nI 38 ∨ r = nI 124) ↔ a = true) (hb : (r = nI 42 ∨ r = nI 43 ∨ r = nI 63) ↔ b = true) (hc : ∀ K : Int32 → Prop, K (nI c.toNat) → wp_X10_isAtom r K) (hw1 : nx - bg = nI 16 → w = true) (hw2 : ¬ nx - bg = nI 16 → w = !(a || b || c))
    (hZ : Z (v3 + (if a then nI 1 else if b then nI 0 else -1)) (v4 + nI c.toNat) (nx + nI 1) (nI w.toNat)) :
    ∀ J78_98 : Int32 → Prop,
        (∀ (s0_97 : Int32), 
          (∀ J106_100 : Int32 → Prop,
          (∀ (s0_99 : Int32), 
            (∀ J143_102 : Int32 → Prop,
            (∀ (s1_101 : Int32), 
              ((narrow .boolean (.int s1_101) = .int s1_101 ∧ fits .boolean (.int s1_101) = true) ∧
              ∀ J166_104 : Int32 → Prop,
              (∀ (s1_103 : Int32), 
                (∀ v3_105 : Int32, v3_105 = v3 + s1_103 →
                wp_X10_isAtom r (fun r_106 =>
                (r_106 = 0 →
                  ∀ v4_107 : Int32, v4_107 = v4 + (nI 0) →
                  ∀ x_next_108 : Int32, x_next_108 = nx + (nI 1) →
                  Z v3_105 v4_107 x_next_108 s1_101) ∧
                (¬ r_106 = 0 →
                  ∀ v4_109 : Int32, v4_109 = v4 + (nI 1) →
                  ∀ x_next_110 : Int32, x_next_110 = nx + (nI 1) →
                  Z v3_105 v4_109 x_next_110 s1_101))) →
               J166_104 s1_103) →
              (s0_97 = 0 →
                  (s0_99 = 0 →
                    J166_104 (-1)) ∧
                  (¬ s0_99 = 0 →
                    J166_104 (nI 0))) ∧
                (¬ s0_97 = 0 →
                  J166_104 (nI 1))) →
             J143_102 s1_101) →
            ∀ J138_111 : Prop,
              (
                (J143_102 (nI 1)) →
               J138_111) →
              ((nx - bg) = (nI 16) →
                  J138_111) ∧
                (¬ (nx - bg) = (nI 16) →
                  (¬ s0_97 = 0 →
                    J143_102 (nI 0)) ∧
                  (s0_97 = 0 →
                    (¬ s0_99 = 0 →
                      J143_102 (nI 0)) ∧
                    (s0_99 = 0 →
                      wp_X10_isAtom r (fun r_112 =>
                      (¬ r_112 = 0 →
                        J143_102 (nI 0)) ∧
                      (r_112 = 0 →
                        J138_111)))))) →
           J106_100 s0_99) →
          ∀ J101_113 : Prop,
            (
              (J106_100 (nI 1)) →
             J101_113) →
            (r = (nI 42) →
                J101_113) ∧
              (¬ r = (nI 42) →
                (r = (nI 43) →
                  J101_113) ∧
                (¬ r = (nI 43) →
                  (¬ r = (nI 63) →
                    J106_100 (nI 0)) ∧
                  (r = (nI 63) →
                    J101_113)))) →
         J78_98 s0_97) →
        ∀ J73_114 : Prop,
          (
            (J78_98 (nI 1)) →
           J73_114) →
          (r = (nI 38) →
              J73_114) ∧
            (¬ r = (nI 38) →
              (¬ r = (nI 124) →
                J78_98 (nI 0)) ∧
              (r = (nI 124) →
                J73_114)) := by
  intro J hJ J2 hJ2
  have fin : J (nI a.toNat) := by
    apply hJ
    intro J3 hJ3 J4 hJ4
    have fin2 : J3 (nI b.toNat) := by
      apply hJ3
      intro J5 hJ5 J6 hJ6
      have fin3 : J5 (nI w.toNat) := by
        apply hJ5
        refine ⟨⟨zk_nar w, zk_fit w⟩, ?_⟩
        intro J7 hJ7
        have fin4 : J7 (if a then nI 1 else if b then nI 0 else -1) := by
          apply hJ7
          rintro _ rfl
          apply hc
          cases c with
          | false =>
            refine zb_t rfl ?_
            rintro _ rfl _ rfl
            exact hZ
          | true =>
            refine zb_f (by decide) ?_
            rintro _ rfl _ rfl
            exact hZ
        cases a with
        | true => exact zb_f (by decide) fin4
        | false =>
          cases b with
          | true => exact zb_t rfl (zb_f (by decide) fin4)
          | false => exact zb_t rfl (zb_t rfl fin4)
      refine ⟨fun e => ?_, fun e => ?_⟩
      · rw [hw1 e] at fin3
        exact hJ6 fin3
      · rw [hw2 e] at fin3
        cases a with
        | true => exact zb_f2 (by decide) fin3
        | false =>
          cases b with
          | true => exact zb_t2 rfl (zb_f2 (by decide) fin3)
          | false =>
            refine zb_t2 rfl (zb_t2 rfl (hc _ ?_))
            cases c with
            | true => exact zb_f2 (by decide) fin3
            | false => exact zb_t2 rfl (hJ6 fin3)
    refine ⟨fun e => hJ4 ?_, fun e1 => ⟨fun e => hJ4 ?_, fun e2 => ⟨fun e3 => ?_, fun e => hJ4 ?_⟩⟩⟩
    · rw [hb.mp (Or.inl e)] at fin2; exact fin2
    · rw [hb.mp (Or.inr (Or.inl e))] at fin2; exact fin2
    · cases b with
      | false => exact fin2
      | true =>
        rcases hb.mpr rfl with e | e | e
        · exact absurd e e1
        · exact absurd e e2
        · exact absurd e e3
    · rw [hb.mp (Or.inr (Or.inr e))] at fin2; exact fin2
  refine ⟨fun e => hJ2 ?_, fun e1 => ⟨fun e2 => ?_, fun e => hJ2 ?_⟩⟩
  · rw [ha.mp (Or.inl e)] at fin; exact fin
  · cases a with
    | false => exact fin
    | true =>
      rcases ha.mpr rfl with e | e
      · exact absurd e e1
      · exact absurd e e2
  · rw [ha.mp (Or.inr e)] at fin; exact fin
theorem z_vr_uniq {t : Nat → Nat} {b N M : Nat} (h1 : z_vr t b N) (h2 : z_vr t b M) : N = M := by
  rcases Nat.lt_trichotomy N M with q | q | q
  · have h3 := (h2.1 N q).2
    rw [h1.2.1] at h3; omega
  · exact q
  · have h3 := (h1.1 M q).2
    rw [h2.2.1] at h3; omega
theorem sp_rule38 {m b : Nat} {t : Nat → Nat} {len : Int32} {text : zF} {E : Int32 → Int32 → Int32 → Prop} (hT : zT m t) (hx : mT m t len text) (hb : b ≤ 210)
    (h1 : ∀ N, z_vr t b N → b + N ≤ m → E (nI (z_ac t b N)) (nI (b + N)) (nI 0)) (h0 : (∀ N, b + N ≤ m → ¬ z_vr t b N) → ∀ v x : Int32, E v x (nI 1)) : ∃ n, lp_X10_ruleItem_38 len text (nI b) E n (nI 1) (nI 0) (nI b) (nI 0) := by
  have hm := hT.1
  have last : ∀ (n : Nat) (v3 v4 x : Int32), (∀ N, b + N ≤ m → ¬ z_vr t b N) → lp_X10_ruleItem_38 len text (nI b) E (n + 1) v3 v4 x (nI 1) := by
    intro n v3 v4 x hn
    rw [lp_X10_ruleItem_38]
    exact zb_f2 zi_1 (h0 hn _ _)
  have key : ∃ n, lp_X10_ruleItem_38 len text (nI b) E (n + 1) (nI (z_du t b 0)) (nI (z_ac t b 0)) (nI (b + 0)) (nI 0) := by
    refine zl_inv (σ := Unit) (fun n i _ => lp_X10_ruleItem_38 len text (nI b) E (n + 1) (nI (z_du t b i)) (nI (z_ac t b i)) (nI (b + i)) (nI 0)) (fun i _ => (∀ j, j < i → z_sn (t (b + j)) ∧ 0 < z_du t b j) ∧ (i = 0 ∨ b + i ≤ m) ∧ i ≤ 16) 17 ?_ ?_ 0 () (Nat.zero_le _) ⟨fun j hj => absurd hj (Nat.not_lt_zero _), Or.inl rfl, by omega⟩
    · rintro n _ ⟨-, -, h⟩
      omega
    · rintro n i _ hi ⟨g1, g2, g3⟩ ih
      have hd := z_du_le t b i
      rw [lp_X10_ruleItem_38]
      refine zb_t2 rfl ?_
      rw [zn_le0 (by omega)]
      refine ⟨fun e => ?_, fun e => ?_⟩
      · have i0 : ¬ i = 0 := fun z => by subst z; exact absurd (show (1 : Nat) = 0 from e) (by decide)
        exact h1 i ⟨g1, e, g3⟩ (by omega)
      · have more : ∀ N, b + N ≤ m → z_vr t b N → i < 16 ∧ b + i < m ∧ z_sn (t (b + i)) := by
          intro N hN hv
          have q : i < N := by
            rcases Nat.lt_trichotomy N i with q | q | q
            · have q2 := (g1 N q).2
              rw [hv.2.1] at q2; omega
            · subst q; exact absurd hv.2.1 e
            · exact q
          exact ⟨by have := hv.2.2; omega, by omega, (hv.1 i q).1⟩
        have hsub : nI (b + i) - nI b = nI i := by rw [zn_sub (by omega)]; congr 1; omega
        refine sp_letterAt hT hx (by omega) (fun q => ?_) (fun q => ?_)
        · have htj := hT.2 (b + i) q
          by_cases sn : z_sn (t (b + i))
          · refine sp_signStep (Z := fun v3 v4 x w => lp_X10_ruleItem_38 len text (nI b) E (n + 1) v3 v4 x w) (decide (z_pt (t (b + i)) = 2)) (decide (z_pt (t (b + i)) = 1)) (decide (z_pt (t (b + i)) = 0)) (decide (i = 16)) ?_ ?_ ?_ ?_ ?_ ?_
            · rw [zn_eq (by omega) (by omega), zn_eq (by omega) (by omega), decide_eq_true_iff]
              unfold z_pt
              constructor
              · intro z
                rw [if_pos (by omega)]
              · intro z
                by_cases z2 : t (b + i) = 38 ∨ t (b + i) = 124
                · exact z2
                · rw [if_neg z2] at z
                  split at z <;> omega
            · rw [zn_eq (by omega) (by omega), zn_eq (by omega) (by omega), zn_eq (by omega) (by omega), decide_eq_true_iff]
              unfold z_pt
              constructor
              · intro z
                rw [if_neg (by omega), if_pos (by omega)]
              · intro z
                by_cases z2 : t (b + i) = 38 ∨ t (b + i) = 124
                · rw [if_pos z2] at z; omega
                · rw [if_neg z2] at z
                  by_cases z3 : t (b + i) = 42 ∨ t (b + i) = 43 ∨ t (b + i) = 63
                  · exact z3
                  · rw [if_neg z3] at z; omega
            · intro K hK
              refine sp_isAtom (by omega) (fun ha => ?_) (fun ha => ?_)
              · rw [decide_eq_true (z_pt_am ha)] at hK; exact hK
              · have hz : ¬ z_pt (t (b + i)) = 0 := by
                  rcases sn with z | z | z | z | z | z
                  · rw [z]; decide
                  · rw [z]; decide
                  · rw [z]; decide
                  · rw [z]; decide
                  · rw [z]; decide
                  · exact absurd z ha
                rw [decide_eq_false hz] at hK; exact hK
            · rw [hsub, zn_eq (by omega) (by omega), decide_eq_true_iff]
              exact id
            · rw [hsub, zn_eq (by omega) (by omega)]
              intro z
              rw [decide_eq_false z]
              have h3 : z_pt (t (b + i)) = 2 ∨ z_pt (t (b + i)) = 1 ∨ z_pt (t (b + i)) = 0 := by
                unfold z_pt
                split
                · omega
                · split <;> omega
              rcases h3 with z | z | z <;> rw [z] <;> rfl
            · by_cases q16 : i = 16
              · rw [decide_eq_true q16]
                exact last n _ _ _ (fun N hN hv => by have := (more N hN hv).1; omega)
              · rw [decide_eq_false q16]
                have h9 := ih () ⟨fun j hj => by
                  by_cases z : j = i
                  · subst z; exact ⟨sn, by omega⟩
                  · exact g1 j (by omega), Or.inr (by omega), by omega⟩
                rw [z_du_S, z_ac_S] at h9
                have h3 : z_pt (t (b + i)) = 2 ∨ z_pt (t (b + i)) = 1 ∨ z_pt (t (b + i)) = 0 := by
                  unfold z_pt
                  split
                  · omega
                  · split <;> omega
                rcases h3 with z | z | z
                · rw [z] at h9 ⊢
                  rw [if_neg (by omega)] at h9
                  show lp_X10_ruleItem_38 len text (nI b) E (n + 1) (nI (z_du t b i) + nI 1) (nI (z_ac t b i) + nI 0) (nI (b + i) + nI 1) (nI 0)
                  rw [zn_add, zn_add, zn_add]
                  rw [show z_du t b i - 1 + 2 = z_du t b i + 1 by omega] at h9
                  exact h9
                · rw [z] at h9 ⊢
                  rw [if_neg (by omega)] at h9
                  show lp_X10_ruleItem_38 len text (nI b) E (n + 1) (nI (z_du t b i) + nI 0) (nI (z_ac t b i) + nI 0) (nI (b + i) + nI 1) (nI 0)
                  rw [zn_add, zn_add, zn_add]
                  rw [show z_du t b i - 1 + 1 = z_du t b i + 0 by omega] at h9
                  exact h9
                · rw [z] at h9 ⊢
                  rw [if_pos rfl] at h9
                  show lp_X10_ruleItem_38 len text (nI b) E (n + 1) (nI (z_du t b i) + (-1)) (nI (z_ac t b i) + nI 1) (nI (b + i) + nI 1) (nI 0)
                  rw [zn_add, zn_add, zn_m1 (by omega)]
                  exact h9
          · refine sp_signStep (Z := fun v3 v4 x w => lp_X10_ruleItem_38 len text (nI b) E (n + 1) v3 v4 x w) false false false true ?_ ?_ ?_ (fun _ => rfl) (fun _ => rfl) ?_
            · rw [zn_eq (by omega) (by omega), zn_eq (by omega) (by omega)]
              refine ⟨fun z => absurd (by unfold z_sn; omega) sn, fun z => by cases z⟩
            · rw [zn_eq (by omega) (by omega), zn_eq (by omega) (by omega), zn_eq (by omega) (by omega)]
              refine ⟨fun z => absurd (by unfold z_sn; omega) sn, fun z => by cases z⟩
            · intro K hK
              exact sp_isAtom (by omega) (fun ha => absurd (by unfold z_sn; exact Or.inr (Or.inr (Or.inr (Or.inr (Or.inr ha))))) sn) (fun _ => hK)
            · exact last n _ _ _ (fun N hN hv => sn (more N hN hv).2.2)
        · refine sp_signStep (Z := fun v3 v4 x w => lp_X10_ruleItem_38 len text (nI b) E (n + 1) v3 v4 x w) false false false true ?_ ?_ ?_ (fun _ => rfl) (fun _ => rfl) ?_
          · exact ⟨fun z => by rcases z with z | z <;> exact absurd z (by decide), fun z => by cases z⟩
          · exact ⟨fun z => by rcases z with z | z | z <;> exact absurd z (by decide), fun z => by cases z⟩
          · intro K hK
            exact sp_isAtomM hK
          · exact last n _ _ _ (fun N hN hv => by have := (more N hN hv).2.1; omega)
  obtain ⟨n, hn⟩ := key
  exact ⟨n + 1, hn⟩
