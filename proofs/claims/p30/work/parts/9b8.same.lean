/-! the law's comparison of all that the class shows with what it reckons itself -/
theorem z_bd_end (q : zR) (d : zD) (kn : Nat → Nat) (wo : Nat) : z_bd q d kn wo (z_len d) = true := z_bd_n q d kn wo
theorem sl_same {q : zR} {n : Nat} {hs : Nat → zD} {ro : Nat → Nat} {kI tl nu pn l an fi lo pl pb : Int32} {P F Wh T Bh c k f A W B on ta ps y z : zF} {K : Int32 → Prop} (hI : xI q n hs nu pn l fi lo pl pb P F Wh T Bh c k f A W B on ta ps) (hro : zCo q ro) (hx : lR q y) (hz : lD (z_nR q) (hs n) z) (hK : K (nI 1)) : wp_L_same 38 61 kI tl nu pn P F Wh l c k f an pl pb ps y z K := by
  obtain ⟨hq, hn, hE, hR, hD, hA, hS, hP⟩ := hI
  have hEn := hE n (Nat.le_refl _)
  have hl : z_len (hs n) ≤ 30 := hEn.2.2.1
  have hR4 : z_nR q ≤ 4 := hq.2.1
  unfold wp_L_same
  refine sl_walk hq hx hro hEn hz (fun w hw hw1 => ?_)
  have hbd : ∀ i, i ≤ z_len (hs n) → w (32 + i) = nI (z_bd q (hs n) (z_knd (hs n)) 0 i).toNat := by
    intro i hi
    by_cases e : i = z_len (hs n)
    · rw [e, hw1, z_bd_end]; rfl
    · exact (hw i (by omega)).2
  intro E37 h37 E45 h45
  have e45 : E45 := by
    apply h45
    intro E123 h123 E131 h131
    have e131 : E131 := by
      apply h131
      intro E212 h212 E220 h220
      have e220 : E220 := by
        apply h220
        rw [zn_in (a := 30) (by omega), zn_cl (a := 30) (by omega), hz.2.2.1, zn_in (a := 0) (by omega), zn_cl (a := 0) (by omega), hx.1, zn_in (a := 1) (by omega), zn_cl (a := 1) (by omega), hx.2.1, zn_add]
        refine ⟨by omega, sx_letterOut hEn hD (zb_t2 rfl ?_)⟩
        refine sx_count (j := 0) (r := nI (z_nR q)) hEn hR hD hP (by omega) (fun _ => rfl) (fun e => by omega) (fun e => by omega) (fun e => by omega) (fun e => by omega) (fun e => by omega) ⟨by omega, zb_t2 rfl ?_⟩
        refine sx_count (j := 1) (r := nI (z_nP q)) hEn hR hD hP (by omega) (fun e => by omega) (fun _ => rfl) (fun e => by omega) (fun e => by omega) (fun e => by omega) (fun e => by omega) ⟨by omega, zb_t2 rfl ?_⟩
        refine sx_count (j := 2) (r := nI (z_len (hs n))) hEn hR hD hP (by omega) (fun e => by omega) (fun e => by omega) (fun _ => rfl) (fun e => by omega) (fun e => by omega) (fun e => by omega) ⟨by omega, zb_t2 rfl ?_⟩
        exact sx_count (j := 3) (r := nI (z_ct (z_bd q (hs n) (z_knd (hs n)) 0) (z_len (hs n)))) hEn hR hD hP (by omega) (fun e => by omega) (fun e => by omega) (fun e => by omega) (fun _ => rfl) (fun e => by omega) (fun e => by omega) (zb_t2 rfl hK)
      refine zl_cnt (fun m i => lp_L_same_134 61 l f pl pb ps z w E212 E220 m (nI i)) (z_len (hs n) + 1) ?_ ?_ 0 (Nat.zero_le _)
      · intro m
        rw [lp_L_same_134, zn_in (a := 30) (by omega), zn_cl (a := 30) (by omega), hz.2.2.1]
        exact ⟨by omega, zb_t (by rw [zn_lt (by omega) (by omega)]; omega) e220⟩
      · intro m i hi ih
        have hi : i ≤ z_len (hs n) := by omega
        rw [lp_L_same_134, zn_in (a := 30) (by omega), zn_cl (a := 30) (by omega), hz.2.2.1, zn_add 32 i, zn_in (a := 32 + i) (by omega), zn_cl (a := 32 + i) (by omega), hbd i hi, zn_in (a := i) (by omega), zn_cl (a := i) (by omega), zn_add i 1]
        refine ⟨by omega, zb_f (by rw [zn_lt (by omega) (by omega)]; omega) ?_⟩
        have next : ∀ v : Int32, v = nI (i + 1) → lp_L_same_134 61 l f pl pb ps z w E212 E220 m v := by
          rintro _ rfl
          exact ih
        have tail : True → (∀ K2 : Int32 → Prop, K2 (nI (z_bd q (hs n) (z_knd (hs n)) 0 i).toNat) → wp_X9_isBoundary l pb (nI i) K2) := fun Q K2 h2 => sx_isBoundary hEn hD hP hi h2
        have stand : ∀ K2 : Int32 → Prop, (i = 0 → K2 (-4)) → (¬ i = 0 → K2 (w i)) → wp_X9_stand l pl ps (nI i) K2 := by
          intro K2 a b
          by_cases e : i = 0
          · subst e; exact sx_stand0 hEn hD (a rfl)
          · have b := b e
            obtain ⟨j, rfl⟩ : ∃ j, i = j + 1 := ⟨i - 1, by omega⟩
            rw [show j + 1 = 1 + j by omega, (hw j (by omega)).1] at b
            exact sx_stand hEn hD hP (by omega) b
        by_cases e : i = z_len (hs n)
        · have lt := fun K2 : Int32 → Prop => fun h2 => sx_letterEnd (K := K2) hEn hD h2
          rw [← e] at lt
          refine lt _ ⟨by omega, ?_⟩
          intro J170 h170
          refine zb_t (by rw [zn_le (by omega) (by omega)]; omega) (h170 _ (zb_t2 rfl (tail trivial _ ⟨by omega, zb_t2 rfl (stand _ (fun e0 => ?_) (fun e0 => ?_))⟩)))
          · intro J209 h209
            exact zb_t2 (by rw [zn_eq0 (by omega)]; exact e0) (h209 _ (zb_t rfl next))
          · intro J209 h209
            exact zb_f2 (by rw [zn_eq0 (by omega)]; exact e0) ⟨by omega, h209 _ (zb_t rfl next)⟩
        · refine sx_letterIn hEn hD (show i < z_len (hs n) by omega) ⟨by omega, ?_⟩
          intro J170 h170
          rw [zn_add 31 i, zn_in (a := 31 + i) (by omega), zn_cl (a := 31 + i) (by omega), hz.2.2.2 i (by omega)]
          refine zb_f (by rw [zn_le (by omega) (by omega)]; omega) ⟨by omega, h170 _ (zb_t2 rfl (tail trivial _ ⟨by omega, zb_t2 rfl (stand _ (fun e0 => ?_) (fun e0 => ?_))⟩))⟩
          · intro J209 h209
            exact zb_t2 (by rw [zn_eq0 (by omega)]; exact e0) (h209 _ (zb_t rfl next))
          · intro J209 h209
            exact zb_f2 (by rw [zn_eq0 (by omega)]; exact e0) ⟨by omega, h209 _ (zb_t rfl next)⟩
    refine zl_cnt (fun m i => lp_L_same_48 38 61 nu P F Wh k y z E123 E131 m (nI i)) (z_nR q) ?_ ?_ 0 (Nat.zero_le _)
    · intro m
      rw [lp_L_same_48, zn_in (a := 0) (by omega), zn_cl (a := 0) (by omega), hx.1]
      exact ⟨by omega, zb_t (by rw [zn_le (by omega) (by omega)]; omega) e131⟩
    · intro m i hi ih
      obtain ⟨g1, g2, g3⟩ := hx.2.2.1 i hi
      rw [lp_L_same_48, zn_in (a := 0) (by omega), zn_cl (a := 0) (by omega), hx.1, zn_add 26 i, zn_in (a := 26 + i) (by omega), zn_cl (a := 26 + i) (by omega), hz.2.1 i hi, zn_add 10 i, zn_in (a := 10 + i) (by omega), zn_cl (a := 10 + i) (by omega), g3, zn_add 2 i, zn_in (a := 2 + i) (by omega), zn_cl (a := 2 + i) (by omega), g1, zn_add 6 i, zn_in (a := 6 + i) (by omega), zn_cl (a := 6 + i) (by omega), g2, zn_add i 1]
      refine ⟨by omega, zb_f (by rw [zn_le (by omega) (by omega)]; omega) ?_⟩
      refine sx_rule (w := 0) (r := nI (z_knd (hs n) i)) hq hR hD.2.2.1 hi (by omega) (fun _ => rfl) (fun e => by omega) (fun e => by omega) (fun e => by omega) ⟨by omega, zb_t2 rfl ?_⟩
      refine sx_rule (d := hs n) (w := 1) (r := nI (z_of q i)) hq hR hD.2.2.1 hi (by omega) (fun e => by omega) (fun _ => rfl) (fun e => by omega) (fun e => by omega) ⟨by omega, zb_t2 rfl ?_⟩
      refine sx_rule (d := hs n) (w := 2) (r := nI (z_fst q i)) hq hR hD.2.2.1 hi (by omega) (fun e => by omega) (fun e => by omega) (fun _ => rfl) (fun e => by omega) ⟨by omega, zb_t2 rfl ?_⟩
      refine sx_rule (d := hs n) (w := 3) (r := nI (z_whl q i)) hq hR hD.2.2.1 hi (by omega) (fun e => by omega) (fun e => by omega) (fun e => by omega) (fun _ => rfl) ⟨by omega, zb_t rfl ?_⟩
      rintro _ rfl
      exact ih
  refine zl_cnt (fun m i => lp_L_same_17 61 c z E37 E45 m (nI i)) 26 ?_ ?_ 0 (Nat.zero_le _)
  · intro m
    rw [lp_L_same_17]
    exact zb_t (by rw [zn_le (by omega) (by omega)]; omega) e45
  · intro m i hi ih
    rw [lp_L_same_17, zn_in (a := i) (by omega), zn_cl (a := i) (by omega), hz.1 i hi, zn_add i 1]
    refine zb_f (by rw [zn_le (by omega) (by omega)]; omega) (sx_kind hD.2.1 hi ⟨by omega, zb_t rfl ?_⟩)
    rintro _ rfl
    exact ih
