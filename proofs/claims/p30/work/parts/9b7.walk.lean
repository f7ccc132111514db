/-! the law's stands: one step, the line gone through -/
theorem z_gl_lt {q : zR} (kn ro : Nat → Nat) (s c : Nat) {p : Nat} (hp : p < z_nP q) : z_gl q kn ro s c p < 2 ^ z_nP q := by
  have h2 := Nat.pow_lt_pow_right (a := 2) (by decide) hp
  have h0 := Nat.two_pow_pos (z_nP q)
  unfold z_gl
  split
  · refine Nat.or_lt_two_pow ?_ ?_
    · split
      · exact h0
      · exact z_take_lt _ _ _
    · split
      · exact h2
      · exact h0
  · exact h0
theorem sl_goes27 {q : zR} {x : zF} {ro : Nat → Nat} {p : Nat} {E : Int32 → Prop} (hq : zW q) (hx : lR q x) (hro : zCo q ro) (hp : p < z_nP q) (h : E (nI (ro p))) : ∃ n, lp_L_goes_27 38 x (nI p) E n (nI 0) := by
  have hR : z_nR q ≤ 4 := hq.2.1
  have hP : z_nP q ≤ 10 := hq.2.2.1
  obtain ⟨hr, hb⟩ := hro p hp
  refine zl_cnt (fun n i => lp_L_goes_27 38 x (nI p) E n (nI i)) (ro p) ?_ ?_ 0 (Nat.zero_le _)
  · intro n
    have h10 := (hx.2.2.1 _ hr).2.2
    have hl := hq.bnd (hq.2.2.2.1 _ hr).2.2.1
    rw [lp_L_goes_27, zn_add 10, zn_in (by omega), zn_cl (by omega), h10, zn_bit (by omega) (by omega), hb]
    exact ⟨by omega, fun _ => h, fun e => absurd e (by decide)⟩
  · intro n i hi ih
    have hir : i < z_nR q := by omega
    have h10 := (hx.2.2.1 i hir).2.2
    have hl := hq.bnd (hq.2.2.2.1 i hir).2.2.1
    have hb0 : (z_of q i).testBit p = false := by
      cases e : (z_of q i).testBit p with
      | false => rfl
      | true => have := hq.2.2.2.2.2 _ _ p hir hr e hb; omega
    rw [lp_L_goes_27, zn_add 10, zn_in (by omega), zn_cl (by omega), h10, zn_bit (by omega) (by omega), hb0]
    refine ⟨by omega, fun e => absurd rfl e, fun _ => ?_⟩
    rintro _ rfl
    rw [zn_add]
    exact ih
theorem sl_goes {q : zR} {d : zD} {ro : Nat → Nat} {x y : zF} {s c : Nat} {K : Int32 → Prop} (hq : zW q) (hx : lR q x) (hro : zCo q ro) (hd : zE d) (hy : ∀ r, r < z_nR q → y (26 + r) = nI (z_knd d r)) (hs : s < 2147483648) (hc : c < 2147483648) (h : K (nI (z_go q (z_knd d) s c))) : wp_L_goes 38 61 x y (nI s) (nI c) K := by
  have hR : z_nR q ≤ 4 := hq.2.1
  have hP : z_nP q ≤ 10 := hq.2.2.1
  rw [← z_goL hq hro] at h
  unfold wp_L_goes
  intro E hE
  have key : ∃ n, lp_L_goes_6 38 61 x y (nI s) (nI c) E n (nI (zs_or (z_gl q (z_knd d) ro s c) 0)) (nI 0) := by
    refine zl_cnt (fun n i => lp_L_goes_6 38 61 x y (nI s) (nI c) E n (nI (zs_or (z_gl q (z_knd d) ro s c) i)) (nI i)) (z_nP q) ?_ ?_ 0 (Nat.zero_le _)
    · intro n
      rw [lp_L_goes_6, zn_in (a := 1) (by omega), zn_cl (a := 1) (by omega), hx.2.1]
      exact ⟨by omega, zb_t (by rw [zn_le (by omega) (by omega)]; omega) (hE _ h)⟩
    · intro n i hi ih
      obtain ⟨hr, hbr⟩ := hro i hi
      have hk4 := hd.2.1 (ro i) (by omega)
      have hwl := hq.bnd (hq.2.2.2.1 _ hr).2.1
      have hbl := hq.bnd (hq.2.2.2.2.1 i hi).2
      have h14 := (hx.2.2.2 i hi).1
      have h6 := (hx.2.2.1 _ hr).2.1
      have h26 := hy _ hr
      rw [zs_orS] at ih
      rw [lp_L_goes_6, zn_bit hs (by omega), zn_in (a := 1) (by omega), zn_cl (a := 1) (by omega), hx.2.1]
      refine ⟨by omega, zb_f (by rw [zn_le (by omega) (by omega)]; omega) ?_⟩
      cases hb : s.testBit i with
      | false =>
        have e : z_gl q (z_knd d) ro s c i = 0 := by unfold z_gl; rw [hb, if_neg (by decide)]
        rw [e, Nat.or_zero] at ih
        refine zb_f2 (by decide) ?_
        rintro _ rfl
        rw [zn_add]
        exact ih
      | true =>
        refine zb_t2 rfl ?_
        intro E48 hE48
        refine sl_goes27 hq hx hro hi (hE48 _ ?_)
        rw [zn_add 26, zn_in (a := 26 + ro i) (by omega), zn_cl (a := 26 + ro i) (by omega), h26, zn_add 6, zn_in (a := 6 + ro i) (by omega), zn_cl (a := 6 + ro i) (by omega), h6, zn_bit (s := z_whl q (ro i)) (by omega) (by omega), zn_add 14, zn_in (a := 14 + i) (by omega), zn_cl (a := 14 + i) (by omega), h14, zn_shl (p := i) (by omega)]
        refine ⟨by omega, ?_⟩
        rintro _ rfl
        -- behind the places: the loose rule's own
        have tail : ∀ t : Nat, (zs_or (z_gl q (z_knd d) ro s c) i ||| t) ||| (if c = 5 ∧ z_knd d (ro i) % 2 = 1 then 2 ^ i else 0) = zs_or (z_gl q (z_knd d) ro s c) i ||| z_gl q (z_knd d) ro s c i → ∀ J : Int32 → Prop, (∀ s1 : Int32, (∀ v4 : Int32, v4 = nI (zs_or (z_gl q (z_knd d) ro s c) i) ||| s1 → (¬ nI c = nI 5 → ∀ v4' : Int32, v4' = v4 ||| nI 0 → ∀ v5 : Int32, v5 = nI i + nI 1 → lp_L_goes_6 38 61 x y (nI s) (nI c) E n v4' v5) ∧ (nI c = nI 5 → (nI (z_knd d (ro i)) = nI 1 → ∀ v4' : Int32, v4' = v4 ||| nI (2 ^ i) → ∀ v5 : Int32, v5 = nI i + nI 1 → lp_L_goes_6 38 61 x y (nI s) (nI c) E n v4' v5) ∧ (¬ nI (z_knd d (ro i)) = nI 1 → (¬ nI (z_knd d (ro i)) = nI 3 → ∀ v4' : Int32, v4' = v4 ||| nI 0 → ∀ v5 : Int32, v5 = nI i + nI 1 → lp_L_goes_6 38 61 x y (nI s) (nI c) E n v4' v5) ∧ (nI (z_knd d (ro i)) = nI 3 → ∀ v4' : Int32, v4' = v4 ||| nI (2 ^ i) → ∀ v5 : Int32, v5 = nI i + nI 1 → lp_L_goes_6 38 61 x y (nI s) (nI c) E n v4' v5)))) → J s1) → J (nI t) := by
          intro t ht J hJ
          apply hJ
          rintro _ rfl
          rw [zn_or, zn_eq hc (by omega), zn_eq (by omega) (by omega), zn_eq (by omega) (by omega)]
          have off : ¬ (c = 5 ∧ z_knd d (ro i) % 2 = 1) → ∀ v4' : Int32, v4' = nI (zs_or (z_gl q (z_knd d) ro s c) i ||| t) ||| nI 0 → ∀ v5 : Int32, v5 = nI i + nI 1 → lp_L_goes_6 38 61 x y (nI s) (nI c) E n v4' v5 := by
            intro e
            rw [if_neg e] at ht
            rintro _ rfl _ rfl
            rw [zn_or, zn_add, ht]
            exact ih
          have on : (c = 5 ∧ z_knd d (ro i) % 2 = 1) → ∀ v4' : Int32, v4' = nI (zs_or (z_gl q (z_knd d) ro s c) i ||| t) ||| nI (2 ^ i) → ∀ v5 : Int32, v5 = nI i + nI 1 → lp_L_goes_6 38 61 x y (nI s) (nI c) E n v4' v5 := by
            intro e
            rw [if_pos e] at ht
            rintro _ rfl _ rfl
            rw [zn_or, zn_add, ht]
            exact ih
          exact ⟨fun e => off (by omega), fun e => ⟨fun e2 => on (by omega), fun e2 => ⟨fun e3 => off (by omega), fun e3 => on (by omega)⟩⟩⟩
        have hgl : z_gl q (z_knd d) ro s c i = (if 1 < z_knd d (ro i) ∧ (z_whl q (ro i)).testBit i = true then 0 else z_take q (z_bh q i) c) ||| (if c = 5 ∧ z_knd d (ro i) % 2 = 1 then 2 ^ i else 0) := by unfold z_gl; rw [hb, if_pos rfl]
        intro J90 hJ90
        have ends : (1 < z_knd d (ro i) ∧ (z_whl q (ro i)).testBit i = true) → J90 (nI 1) := by
          intro e
          rw [if_pos e] at hgl
          apply hJ90
          intro J115 hJ115
          exact zb_f (by decide) (tail 0 (by rw [hgl, Nat.or_assoc]) J115 hJ115)
        have goes : ¬ (1 < z_knd d (ro i) ∧ (z_whl q (ro i)).testBit i = true) → J90 (nI 0) := by
          intro e
          rw [if_neg e] at hgl
          apply hJ90
          intro J115 hJ115
          refine zb_t rfl ⟨by omega, ?_⟩
          refine sl_taking hq hx (by omega) hc ?_
          exact tail _ (by rw [hgl, Nat.or_assoc]) J115 hJ115
        intro J89 hJ89 J69 hJ69
        rw [zn_eq (by omega) (by omega), zn_eq (by omega) (by omega)]
        have h69 : 1 < z_knd d (ro i) → J69 := by
          intro e
          apply hJ69
          refine ⟨by omega, ?_⟩
          cases hw : (z_whl q (ro i)).testBit i with
          | false => exact zb_f2 (by decide) (hJ89 (goes (fun z => by rw [hw] at z; cases z.2)))
          | true => exact zb_t2 rfl (ends ⟨e, hw⟩)
        exact ⟨fun e => h69 (by omega), fun e => ⟨fun e2 => hJ89 (goes (fun z => by have := z.1; omega)), fun e2 => h69 (by omega)⟩⟩
  exact key
/-- what the law's walk leaves -/
def lW (q : zR) (d : zD) (n : Nat) (z : zF) : Prop := ∀ j, j < n → z (1 + j) = nI (z_st q d (z_knd d) 0 (j + 1)) ∧ z (32 + j) = nI (z_bd q d (z_knd d) 0 j).toNat
theorem sl_walk {q : zR} {d : zD} {ro : Nat → Nat} {x y z0 : zF} {K : Int32 → zF → Prop} (hq : zW q) (hx : lR q x) (hro : zCo q ro) (hd : zE d) (hy : lD (z_nR q) d y)
    (h : ∀ z : zF, lW q d (z_len d) z → z (32 + z_len d) = nI 1 → K (nI (z_ct (z_bd q d (z_knd d) 0) (z_len d))) z) : wp_L_walk 38 61 64 x y z0 (nI 0) K := by
  have hl : z_len d ≤ 30 := hd.2.2.1
  have hstl : ∀ k, z_st q d (z_knd d) 0 k < 1024 := fun k => hq.bnd (z_st_lt hq d (z_knd d) 0 k)
  unfold wp_L_walk
  intro E hE
  have key : ∃ n, lp_L_walk_9 38 61 64 x y (nI 0) E n (nI (z_st q d (z_knd d) 0 0)) (nI (z_ct (z_bd q d (z_knd d) 0) 0)) (nI 0) z0 := by
    refine zl_inv (σ := zF) (fun n i s => lp_L_walk_9 38 61 64 x y (nI 0) E n (nI (z_st q d (z_knd d) 0 i)) (nI (z_ct (z_bd q d (z_knd d) 0) i)) (nI i) s) (fun i s => lW q d i s) (z_len d) ?_ ?_ 0 z0 (Nat.zero_le _) (fun j hj => absurd hj (Nat.not_lt_zero _))
    · intro n s hs
      rw [lp_L_walk_9, zn_in (a := 30) (by omega), zn_cl (a := 30) (by omega), hy.2.2.1]
      refine ⟨by omega, zb_t (by rw [zn_le (by omega) (by omega)]; omega) (hE _ _ ?_)⟩
      rw [zn_in (a := 30) (by omega), zn_cl (a := 30) (by omega), hy.2.2.1, zn_add 32, zn_in (a := 32 + z_len d) (by omega), zn_cl (a := 32 + z_len d) (by omega)]
      refine ⟨by omega, by omega, ?_⟩
      rintro _ rfl
      refine h _ (fun j hj => ?_) zu_s
      rw [zu_n (by omega), zu_n (by omega)]
      exact hs j hj
    · intro n i s hi hs ih
      have hat := hd.at hi
      have hca := hd.ca hi
      have hca' : z_cls d (z_at d i) < 6 := hca
      have hbd : z_bd q d (z_knd d) 0 i = (z_go q (z_knd d) (z_st q d (z_knd d) 0 i) (z_ca d i) == 0) := by unfold z_bd; rw [if_pos hi]
      have hst := z_st_S q d (z_knd d) 0 i
      have hgl : z_go q (z_knd d) (z_st q d (z_knd d) 0 i) (z_ca d i) < 1024 := hq.bnd (z_go_lt hq _ _ _)
      rw [z_ct_S] at ih
      rw [lp_L_walk_9, zn_in (a := 30) (by omega), zn_cl (a := 30) (by omega), hy.2.2.1, zn_add 31 i, zn_in (a := 31 + i) (by omega), zn_cl (a := 31 + i) (by omega), hy.2.2.2 i hi, zn_in (a := z_at d i) (by omega), zn_cl (a := z_at d i) (by omega), hy.1 _ hat]
      refine ⟨by omega, zb_f (by rw [zn_le (by omega) (by omega)]; omega) ⟨by omega, by omega, ?_⟩⟩
      rintro _ rfl
      intro J47 hJ47
      have fin : J47 (nI (z_go q (z_knd d) (z_st q d (z_knd d) 0 i) (z_ca d i))) := by
        apply hJ47
        intro J65 hJ65
        have fin2 : J65 (nI (z_bd q d (z_knd d) 0 i).toNat) := by
          apply hJ65
          rw [zn_add 32 i, zn_in (a := 32 + i) (by omega), zn_cl (a := 32 + i) (by omega)]
          refine ⟨by omega, ?_⟩
          rintro _ rfl
          intro J78 hJ78
          have fin3 : J78 (nI (z_bd q d (z_knd d) 0 i).toNat) := by
            apply hJ78
            rintro _ rfl
            rw [zn_add 1 i, zn_in (a := 1 + i) (by omega), zn_cl (a := 1 + i) (by omega), zn_eq0 (by omega), zn_add (z_ct (z_bd q d (z_knd d) 0) i)]
            have put : ∀ v : Nat, v = z_st q d (z_knd d) 0 (i + 1) → 1 + i < 64 ∧ ∀ z' : zF, z' = upd (upd s (32 + i) (nI (z_bd q d (z_knd d) 0 i).toNat)) (1 + i) (nI v) → ∀ v6 : Int32, v6 = nI i + nI 1 → lp_L_walk_9 38 61 64 x y (nI 0) E n (nI v) (nI (z_ct (z_bd q d (z_knd d) 0) i + (z_bd q d (z_knd d) 0 i).toNat)) v6 z' := by
              rintro _ rfl
              refine ⟨by omega, ?_⟩
              rintro _ rfl _ rfl
              rw [zn_add]
              refine ih _ (fun j hj => ?_)
              by_cases e : j = i
              · rw [e, zu_s, zu_n (by omega), zu_s]
                exact ⟨rfl, rfl⟩
              · rw [zu_n (by omega), zu_n (by omega), zu_n (by omega), zu_n (by omega)]
                exact hs j (by omega)
            refine ⟨fun e => put _ (by rw [hst, if_neg e]), fun e => sl_begun hq hx (by omega) (put _ (by rw [hst, if_pos e]; first | done | rfl))⟩
          by_cases e : z_go q (z_knd d) (z_st q d (z_knd d) 0 i) (z_ca d i) = 0
          · have eb : z_bd q d (z_knd d) 0 i = true := by rw [hbd, e]; rfl
            rw [eb] at fin3
            exact zb_t2 (by rw [e]; rfl) fin3
          · have eb : z_bd q d (z_knd d) 0 i = false := by rw [hbd]; simp [e]
            rw [eb] at fin3
            exact zb_f2 (by rw [zn_eq0 (by omega)]; exact e) fin3
        by_cases e : z_go q (z_knd d) (z_st q d (z_knd d) 0 i) (z_ca d i) = 0
        · have eb : z_bd q d (z_knd d) 0 i = true := by rw [hbd, e]; rfl
          rw [eb] at fin2
          exact zb_t2 (by rw [e]; rfl) fin2
        · have eb : z_bd q d (z_knd d) 0 i = false := by rw [hbd]; simp [e]
          rw [eb] at fin2
          exact zb_f2 (by rw [zn_eq0 (by omega)]; exact e) fin2
      rw [zn_le0 (by omega)]
      refine ⟨fun e => ?_, fun e => sl_goes hq hx hro hd hy.2.1 (by have := hstl i; omega) (by show z_ca d i < _; omega) fin⟩
      subst e
      have e0 : z_st q d (z_knd d) 0 0 = 0 := rfl
      rw [e0, z_go_0] at fin
      exact fin
  exact key
