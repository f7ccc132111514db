/-! the class's stands -/
theorem zc_of (x : Int32) : x < 0 ∨ ∃ j : Nat, j < 2147483648 ∧ x = nI j := by
  by_cases h : x < 0
  · exact Or.inl h
  · exact Or.inr (nI_of h)
theorem zc_neg {x : Int32} (h : x < 0) {j : Nat} (hj : j < 2147483648) : ¬ x = nI j := fun e => nI_pos hj (e ▸ h)
/-- the class's rules hold q -/
def xR (q : zR) (number placeNumber : Int32) (places firsts wholes taken behinds : Nat → Int32) : Prop :=
  number = nI (z_nR q) ∧ placeNumber = nI (z_nP q) ∧ (∀ r, r < z_nR q → places r = nI (z_of q r) ∧ firsts r = nI (z_fst q r) ∧ wholes r = nI (z_whl q r)) ∧ ∀ p, p < z_nP q → taken p = nI (z_tk q p) ∧ behinds p = nI (z_bh q p)
/-- a stock holds d -/
def xD (d : zD) (length : Int32) (classes kinds line : Nat → Int32) : Prop :=
  length = nI (z_len d) ∧ (∀ j, j < 26 → classes j = nI (z_cls d j)) ∧ (∀ r, r < 4 → kinds r = nI (z_knd d r)) ∧ ∀ j, j < z_len d → line j = nI (z_at d j)
def z_fa (q : zR) : Nat := zs_or (z_fst q) (z_nR q)
def z_lor (q : zR) (kn : Nat → Nat) (r : Nat) : Nat := if kn r &&& 1 = 0 then 0 else z_of q r
def z_lo (q : zR) (kn : Nat → Nat) : Nat := zs_or (z_lor q kn) (z_nR q)
def z_let (q : zR) (kn : Nat → Nat) (r : Nat) : Nat := if kn r &&& 2 = 0 then z_of q r else z_of q r ^^^ (z_of q r &&& z_whl q r)
def z_onU (q : zR) (kn : Nat → Nat) (i p : Nat) : Nat := if (zs_or (z_let q kn) i).testBit p then z_bh q p else 0
def z_on (q : zR) (kn : Nat → Nat) (p : Nat) : Nat := z_onU q kn (z_nR q) p
def z_ta (q : zR) (x : Nat) : Nat := zs_mk (fun p => z_tk q p == x || z_tk q p == 6) (z_nP q)
/-- the steps are made of q with kinds kn -/
def xS (q : zR) (kn : Nat → Nat) (firsts loose : Int32) (onward takers : Nat → Int32) : Prop :=
  firsts = nI (z_fa q) ∧ loose = nI (z_lo q kn) ∧ (∀ p, p < 10 → onward p = nI (z_on q kn p)) ∧ ∀ x, x < 6 → takers x = nI (z_ta q x)
theorem sx_isClass {x : Nat} {K : Int32 → Prop} (hx : x < 2147483648) (h1 : x < 6 → K (nI 1)) (h0 : 6 ≤ x → K (nI 0)) : wp_X9_isClass (nI x) K := by
  unfold wp_X9_isClass
  rw [zn_lt0 hx, zn_le (by omega) hx]
  exact ⟨fun h => h.elim, fun _ => ⟨h0, fun h => h1 (by omega)⟩⟩
theorem sx_isLetter {x : Nat} {K : Int32 → Prop} (hx : x < 2147483648) (h1 : x < 26 → K (nI 1)) (h0 : 26 ≤ x → K (nI 0)) : wp_X9_isLetter (nI x) K := by
  unfold wp_X9_isLetter
  rw [zn_lt0 hx, zn_le (by omega) hx]
  exact ⟨fun h => h.elim, fun _ => ⟨h0, fun h => h1 (by omega)⟩⟩
theorem sx_hasPlace {n p : Nat} {K : Int32 → Prop} (hn : n < 2147483648) (hp : p < 2147483648) (h1 : p < n → K (nI 1)) (h0 : n ≤ p → K (nI 0)) : wp_X4_hasPlace (nI n) (nI p) K := by
  unfold wp_X4_hasPlace
  rw [zn_lt0 hp, zn_le hn hp]
  exact ⟨fun h => h.elim, fun _ => ⟨h0, fun h => h1 (by omega)⟩⟩
theorem sx_has {n p : Nat} {K : Int32 → Prop} (hn : n < 2147483648) (hp : p < 2147483648) (h1 : p < n → K (nI 1)) (h0 : n ≤ p → K (nI 0)) : wp_X4_has (nI n) (nI p) K := by
  unfold wp_X4_has
  rw [zn_lt0 hp, zn_le hn hp]
  exact ⟨fun h => h.elim, fun _ => ⟨h0, fun h => h1 (by omega)⟩⟩
theorem zi_1 : ¬ nI 1 = 0 := by decide
theorem zi_0 : nI 0 = 0 := rfl
theorem sx_takenAt {n p v : Nat} {taken : Nat → Int32} {K : Int32 → Prop} (hn : n ≤ 10) (hp : p < n) (ht : taken p = nI v) (h : K (nI v)) : wp_X4_takenAt (nI n) taken (nI p) K := by
  unfold wp_X4_takenAt
  refine sx_hasPlace (by omega) (by omega) (fun _ => zb_f zi_1 ?_) (fun h => by omega)
  rw [zn_in (by omega), zn_cl (by omega), ht]
  exact ⟨by omega, h⟩
theorem sx_behind {n p v : Nat} {behinds : Nat → Int32} {K : Int32 → Prop} (hn : n ≤ 10) (hp : p < n) (ht : behinds p = nI v) (h : K (nI v)) : wp_X4_behind (nI n) behinds (nI p) K := by
  unfold wp_X4_behind
  refine sx_hasPlace (by omega) (by omega) (fun _ => zb_f zi_1 ?_) (fun h => by omega)
  rw [zn_in (by omega), zn_cl (by omega), ht]
  exact ⟨by omega, h⟩
theorem sx_firstOf {n p v : Nat} {f : Nat → Int32} {K : Int32 → Prop} (hn : n ≤ 4) (hp : p < n) (ht : f p = nI v) (h : K (nI v)) : wp_X4_firstOf (nI n) f (nI p) K := by
  unfold wp_X4_firstOf
  refine sx_has (by omega) (by omega) (fun _ => zb_f zi_1 ?_) (fun h => by omega)
  rw [zn_in (by omega), zn_cl (by omega), ht]
  exact ⟨by omega, h⟩
theorem sx_placesOf {n p v : Nat} {f : Nat → Int32} {K : Int32 → Prop} (hn : n ≤ 4) (hp : p < n) (ht : f p = nI v) (h : K (nI v)) : wp_X4_placesOf (nI n) f (nI p) K := by
  unfold wp_X4_placesOf
  refine sx_has (by omega) (by omega) (fun _ => zb_f zi_1 ?_) (fun h => by omega)
  rw [zn_in (by omega), zn_cl (by omega), ht]
  exact ⟨by omega, h⟩
theorem sx_wholeOf {n p v : Nat} {f : Nat → Int32} {K : Int32 → Prop} (hn : n ≤ 4) (hp : p < n) (ht : f p = nI v) (h : K (nI v)) : wp_X4_wholeOf (nI n) f (nI p) K := by
  unfold wp_X4_wholeOf
  refine sx_has (by omega) (by omega) (fun _ => zb_f zi_1 ?_) (fun h => by omega)
  rw [zn_in (by omega), zn_cl (by omega), ht]
  exact ⟨by omega, h⟩
theorem sx_kindOf {p v : Nat} {f : Nat → Int32} {K : Int32 → Prop} (hp : p < 4) (ht : f p = nI v) (h : K (nI v)) : wp_X6_kindOf f (nI p) K := by
  unfold wp_X6_kindOf
  rw [zn_lt0 (by omega), zn_le (by omega) (by omega), zn_in (by omega), zn_cl (by omega), ht]
  exact ⟨fun h => h.elim, fun _ => ⟨fun h => by omega, fun _ => ⟨hp, h⟩⟩⟩
/-- Arrays.fill -/
theorem sx_fill {N : Nat} {f : Nat → Int32} {v : Int32} {K : (Nat → Int32) → Prop} (hN : N < 2147483648) (h : ∀ f' : Nat → Int32, (∀ j, j < N → f' j = v) → K f') : wp_J7_fill_53178 N f v K := by
  unfold wp_J7_fill_53178
  rintro _ rfl
  intro E hE
  refine zl_inv (σ := Nat → Int32) (fun n i s => lp_J7_fill_53178_5 N v (nI N) E n (nI i) s) (fun i s => ∀ j, j < i → s j = v) N ?_ ?_ 0 f (Nat.zero_le _) (fun j hj => absurd hj (Nat.not_lt_zero _))
  · intro n s hs
    rw [lp_J7_fill_53178_5]
    exact zb_t (by rw [zn_le hN hN]; omega) (hE _ (h s hs))
  · intro n i s hi hs ih
    rw [lp_J7_fill_53178_5]
    refine zb_f (by rw [zn_le hN (by omega)]; omega) ?_
    rw [zn_in (by omega), zn_cl (by omega)]
    refine ⟨hi, ?_⟩
    rintro _ rfl
    rintro _ rfl
    rw [zn_add]
    refine ih _ (fun j hj => ?_)
    by_cases e : j = i
    · subst e; exact zu_s
    · rw [zu_n e]; exact hs j (by omega)
theorem sx_takers1 {q : zR} {taken : Nat → Int32} {p : Nat} {f : Nat → Int32} {g : Nat → Nat} {E : (Nat → Int32) → Prop} (hP : z_nP q ≤ 10) (hp : p < z_nP q) (ht : taken p = nI (z_tk q p)) (h6 : z_tk q p ≤ 6) (hf : ∀ x, x < 6 → f x = nI (g x))
    (h : ∀ f' : Nat → Int32, (∀ x, x < 6 → f' x = nI (g x ||| (if z_tk q p == x || z_tk q p == 6 then 2 ^ p else 0))) → E f') : ∃ n : Nat, lp_X5_makeTakers_20 (nI (z_nP q)) taken (nI p) E n (nI 0) f := by
  refine zl_inv (σ := Nat → Int32) (fun n i s => lp_X5_makeTakers_20 (nI (z_nP q)) taken (nI p) E n (nI i) s) (fun i s => ∀ x, x < 6 → s x = nI (if x < i then (g x ||| (if z_tk q p == x || z_tk q p == 6 then 2 ^ p else 0)) else g x)) 6 ?_ ?_ 0 f (Nat.zero_le _) (fun x hx => by rw [if_neg (Nat.not_lt_zero _)]; exact hf x hx)
  · intro n s hs
    rw [lp_X5_makeTakers_20]
    exact zb_t (by rw [zn_le (by omega) (by omega)]; omega) (h s (fun x hx => by rw [hs x hx, if_pos hx]))
  · intro n i s hi hs ih
    rw [lp_X5_makeTakers_20]
    refine zb_f (by rw [zn_le (by omega) (by omega)]; omega) ?_
    refine sx_takenAt hP hp ht ?_
    intro J hJ
    have yes : (z_tk q p == i || z_tk q p == 6) = true → J := by
      intro hc
      apply hJ
      rw [zn_in (by omega), zn_cl (by omega), zn_shl (by omega), hs i hi, if_neg (Nat.lt_irrefl _), zn_or]
      refine ⟨hi, ?_⟩
      rintro _ rfl
      refine ⟨hi, ?_⟩
      rintro _ rfl
      rintro _ rfl
      rw [zn_add]
      refine ih _ (fun x hx => ?_)
      by_cases e : x = i
      · subst e
        rw [zu_s, if_pos (by omega), if_pos hc]
      · rw [zu_n e, hs x hx]
        by_cases e2 : x < i
        · rw [if_pos e2, if_pos (show x < i + 1 by omega)]
        · rw [if_neg e2, if_neg (show ¬ x < i + 1 by omega)]
    have no : (z_tk q p == i || z_tk q p == 6) = false → ∀ v : Int32, v = nI i + nI 1 → lp_X5_makeTakers_20 (nI (z_nP q)) taken (nI p) E n v s := by
      intro hc
      rintro _ rfl
      rw [zn_add]
      refine ih _ (fun x hx => ?_)
      rw [hs x hx]
      by_cases e : x = i
      · subst e
        rw [if_neg (Nat.lt_irrefl x), if_pos (Nat.lt_succ_self x), if_neg (by rw [hc]; decide), Nat.or_zero]
      · by_cases e2 : x < i
        · rw [if_pos e2, if_pos (show x < i + 1 by omega)]
        · rw [if_neg e2, if_neg (show ¬ x < i + 1 by omega)]
    rw [zn_eq (by omega) (by omega)]
    refine ⟨fun e => yes (by simp [e]), fun e => sx_takenAt hP hp ht ?_⟩
    rw [zn_eq (by omega) (by omega)]
    exact ⟨fun e2 => no (by simp [e, e2]), fun e2 => yes (by simp [e2])⟩
theorem sx_makeTakers {q : zR} {taken : Nat → Int32} {f : Nat → Int32} {K : (Nat → Int32) → Prop} (hP : z_nP q ≤ 10) (ht : ∀ p, p < z_nP q → taken p = nI (z_tk q p)) (h6 : ∀ p, p < z_nP q → z_tk q p ≤ 6)
    (h : ∀ f' : Nat → Int32, (∀ x, x < 6 → f' x = nI (z_ta q x)) → K f') : wp_X5_makeTakers f (nI (z_nP q)) taken K := by
  unfold wp_X5_makeTakers
  refine sx_fill (by omega) (fun f1 hf1 => ?_)
  intro E hE
  refine zl_inv (σ := Nat → Int32) (fun n i s => lp_X5_makeTakers_10 (nI (z_nP q)) taken E n (nI i) s) (fun i s => ∀ x, x < 6 → s x = nI (zs_mk (fun p => z_tk q p == x || z_tk q p == 6) i)) (z_nP q) ?_ ?_ 0 f1 (Nat.zero_le _) (fun x hx => hf1 x hx)
  · intro n s hs
    rw [lp_X5_makeTakers_10]
    exact zb_t (by rw [zn_le (by omega) (by omega)]; omega) (hE _ (h s hs))
  · intro n i s hi hs ih
    rw [lp_X5_makeTakers_10]
    refine zb_f (by rw [zn_le (by omega) (by omega)]; omega) ?_
    intro E2 hE2
    refine sx_takers1 hP hi (ht i hi) (h6 i hi) hs (fun f' hf' => hE2 _ ?_)
    rintro _ rfl
    rw [zn_add]
    refine ih _ (fun x hx => ?_)
    rw [hf' x hx]
    rfl
theorem sx_letGoOn {q : zR} {behinds : Nat → Int32} {m : Nat} {f : Nat → Int32} {K : (Nat → Int32) → Prop} (hP : z_nP q ≤ 10) (hb : ∀ p, p < z_nP q → behinds p = nI (z_bh q p)) (hm : m < 2 ^ z_nP q)
    (h : ∀ f' : Nat → Int32, (∀ p, p < 10 → f' p = if m.testBit p then nI (z_bh q p) else f p) → K f') : wp_X5_letGoOn f (nI (z_nP q)) behinds (nI m) K := by
  unfold wp_X5_letGoOn
  intro E hE
  have hm2 : m < 1073741825 := zn_lt31 hm (by omega)
  refine zl_inv (σ := Nat → Int32) (fun n i s => lp_X5_letGoOn_2 (nI (z_nP q)) behinds (nI m) E n (nI i) s) (fun i s => ∀ p, p < 10 → s p = if p < i ∧ m.testBit p = true then nI (z_bh q p) else f p) 10 ?_ ?_ 0 f (Nat.zero_le _) (fun p _ => by rw [if_neg (fun z => Nat.not_lt_zero _ z.1)])
  · intro n s hs
    rw [lp_X5_letGoOn_2]
    refine zb_t (by rw [zn_le (by omega) (by omega)]; omega) (hE _ (h s (fun p hp => ?_)))
    rw [hs p hp]
    by_cases e : m.testBit p = true
    · rw [if_pos ⟨hp, e⟩, if_pos e]
    · rw [if_neg (fun z => e z.2), if_neg e]
  · intro n i s hi hs ih
    rw [lp_X5_letGoOn_2]
    refine zb_f (by rw [zn_le (by omega) (by omega)]; omega) ?_
    rw [zn_bit (by omega) (by omega), zn_eq0 (by cases m.testBit i <;> decide)]
    refine ⟨fun e => ?_, fun e => ?_⟩
    · have e : m.testBit i = false := by cases h : m.testBit i with
        | true => rw [h] at e; cases e
        | false => rfl
      rintro _ rfl
      rw [zn_add]
      refine ih _ (fun p hp => ?_)
      rw [hs p hp]
      by_cases e2 : p = i
      · subst e2
        rw [if_neg (fun z => by omega), if_neg (fun z => by rw [e] at z; cases z.2)]
      · by_cases e3 : p < i ∧ m.testBit p = true
        · rw [if_pos e3, if_pos ⟨by omega, e3.2⟩]
        · rw [if_neg e3, if_neg (fun z => e3 ⟨by omega, z.2⟩)]
    · have e : m.testBit i = true := by cases h : m.testBit i with
        | true => rfl
        | false => rw [h] at e; exact absurd rfl e
      have hip := zs_lt_bit hm e
      refine sx_behind hP hip (hb i hip) ?_
      rw [zn_in (by omega), zn_cl (by omega)]
      refine ⟨hi, ?_⟩
      rintro _ rfl
      rintro _ rfl
      rw [zn_add]
      refine ih _ (fun p hp => ?_)
      by_cases e2 : p = i
      · subst e2
        rw [zu_s, if_pos ⟨by omega, e⟩]
      · rw [zu_n e2, hs p hp]
        by_cases e3 : p < i ∧ m.testBit p = true
        · rw [if_pos e3, if_pos ⟨by omega, e3.2⟩]
        · rw [if_neg e3, if_neg (fun z => e3 ⟨by omega, z.2⟩)]

