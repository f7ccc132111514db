theorem z_let_lt {q : zR} (hq : zW q) (kn : Nat → Nat) {r : Nat} (hr : r < z_nR q) : z_let q kn r < 2 ^ z_nP q := by
  unfold z_let
  split
  · exact (hq.2.2.2.1 r hr).2.2.1
  · exact zs_nan_lt (hq.2.2.2.1 r hr).2.2.1
theorem zk_b1 : ∀ a, a < 4 → a &&& 1 < 4 := by decide
theorem zk_b2 : ∀ a, a < 4 → a &&& 2 < 4 := by decide
theorem sx_make {q : zR} {kn : Nat → Nat} {fi lo : Int32} {onw takers places firsts wholes taken behinds kinds : Nat → Int32} {K : Int32 → Int32 → (Nat → Int32) → (Nat → Int32) → Prop} (hq : zW q) (hr : ∀ r, r < z_nR q → places r = nI (z_of q r) ∧ firsts r = nI (z_fst q r) ∧ wholes r = nI (z_whl q r)) (ht : ∀ p, p < z_nP q → taken p = nI (z_tk q p) ∧ behinds p = nI (z_bh q p)) (hk : ∀ r, r < 4 → kinds r = nI (kn r)) (hk4 : ∀ r, r < 4 → kn r < 4)
    (h : ∀ (fi' lo' : Int32) (on' ta' : Nat → Int32), xS q kn fi' lo' on' ta' → K fi' lo' on' ta') : wp_X5_make fi lo onw takers (nI (z_nR q)) (nI (z_nP q)) places firsts wholes taken behinds kinds K := by
  unfold wp_X5_make
  have hR : z_nR q ≤ 4 := hq.2.1
  have hP : z_nP q ≤ 10 := hq.2.2.1
  refine sx_makeTakers hP (fun p hp => (ht p hp).1) (fun p hp => (hq.2.2.2.2.1 p hp).1) (fun ta hta => ?_)
  refine sx_fill (by omega) (fun on0 hon0 => ?_)
  intro E hE
  refine zl_inv (σ := Nat → Int32) (fun n i s => lp_X5_make_25 (nI (z_nR q)) (nI (z_nP q)) places firsts wholes behinds kinds E n (nI i) (nI (zs_or (z_fst q) i)) (nI (zs_or (z_lor q kn) i)) s) (fun i s => ∀ p, p < 10 → s p = nI (z_onU q kn i p)) (z_nR q) ?_ ?_ 0 on0 (Nat.zero_le _) (fun p hp => by rw [hon0 p hp]; unfold z_onU; simp [zs_or])
  · intro n s hs
    rw [lp_X5_make_25]
    unfold wp_X4_number
    exact zb_t (by rw [zn_le (by omega) (by omega)]; omega) (hE _ _ _ (h _ _ _ _ ⟨rfl, rfl, hs, hta⟩))
  · intro n i s hi hs ih
    rw [lp_X5_make_25]
    unfold wp_X4_number
    refine zb_f (by rw [zn_le (by omega) (by omega)]; omega) ?_
    have hk4' := hk4 i (by omega)
    have b1 := zk_b1 _ hk4'
    have b2 := zk_b2 _ hk4'
    have hof := hq.bnd (hq.2.2.2.1 i hi).2.2.1
    have hwh := hq.bnd (hq.2.2.2.1 i hi).2.1
    refine sx_firstOf hR hi (hr i hi).2.1 ?_
    rintro _ rfl
    refine sx_kindOf (by omega) (hk i (by omega)) ?_
    intro J71 hJ71
    have fin : J71 (nI (zs_or (z_lor q kn) (i + 1))) := by
      apply hJ71
      refine sx_kindOf (by omega) (hk i (by omega)) ?_
      intro J86 hJ86
      have fin2 : ∀ b : Nat, (b = 0 ∨ b = 1) → ((b = 0) ↔ kn i &&& 2 = 0) → J86 (nI b) := by
        intro b hb hbk
        apply hJ86
        intro J116 hJ116
        have fin3 : J116 (nI (z_let q kn i)) := by
          apply hJ116
          refine sx_letGoOn hP (fun p hp => (ht p hp).2) (z_let_lt hq kn hi) (fun f' hf' => ?_)
          rintro _ rfl
          rw [zn_or, zn_add]
          refine ih _ (fun p hp => ?_)
          rw [hf' p hp, hs p hp]
          unfold z_onU
          rw [zs_orS, Nat.testBit_or]
          cases h1 : (z_let q kn i).testBit p with
          | true => simp
          | false => simp
        unfold z_let at fin3
        rw [zn_eq0 (by omega)]
        refine ⟨fun e => ?_, fun e => ?_⟩
        · rw [if_pos (hbk.mp e)] at fin3
          exact sx_placesOf hR hi (hr i hi).1 fin3
        · rw [if_neg (fun z => e (hbk.mpr z))] at fin3
          refine sx_placesOf hR hi (hr i hi).1 (sx_wholeOf hR hi (hr i hi).2.2 ?_)
          rw [zn_not (by omega)]
          exact fin3
      rw [zn_and, zn_eq0 (by omega)]
      exact ⟨fun e => fin2 0 (Or.inl rfl) ⟨fun _ => e, fun _ => rfl⟩, fun e => fin2 1 (Or.inr rfl) ⟨fun z => absurd z (by decide), fun z => absurd z e⟩⟩
    rw [zs_orS] at fin
    unfold z_lor at fin
    rw [zn_and, zn_eq0 (by omega)]
    refine ⟨fun e => ?_, fun e => ?_⟩
    · rw [if_pos e] at fin
      rw [show zs_or (z_lor q kn) i = zs_or (fun r => if kn r &&& 1 = 0 then 0 else z_of q r) i ||| 0 from (Nat.or_zero _).symm]
      exact fin
    · rw [if_neg e] at fin
      refine sx_placesOf hR hi (hr i hi).1 ?_
      rintro _ rfl
      rw [zn_or]
      exact fin
def z_goX (q : zR) (kn : Nat → Nat) (s x : Nat) : Nat := (if x = 5 then s &&& z_lo q kn else 0) ||| zs_or (fun p => if s.testBit p then z_on q kn p &&& z_ta q x else 0) 10
theorem zs_or_from {g : Nat → Nat} {a : Nat} : ∀ n, a ||| zs_or g (n + 1) = (a ||| zs_or g n) ||| g n := fun n => by rw [zs_orS, Nat.or_assoc]
theorem sx_goOn {q : zR} {kn : Nat → Nat} {s x : Nat} {fi lo : Int32} {onw takers : Nat → Int32} {K : Int32 → Prop} (hS : xS q kn fi lo onw takers) (hs : s < 1024) (hx : x < 6) (h : K (nI (z_goX q kn s x))) : wp_X5_goOn lo onw takers (nI s) (nI x) K := by
  obtain ⟨rfl, rfl, hon, hta⟩ := hS
  unfold wp_X5_goOn
  refine sx_isClass (by omega) (fun _ => ?_) (fun h => by omega)
  refine zb_f2 zi_1 ?_
  intro J hJ
  have fin : J (nI (if x = 5 then s &&& z_lo q kn else 0)) := by
    apply hJ
    intro E hE
    have w : ∃ n : Nat, lp_X5_goOn_28 onw takers (nI s) (nI x) E n (nI ((if x = 5 then s &&& z_lo q kn else 0) ||| zs_or (fun p => if s.testBit p then z_on q kn p &&& z_ta q x else 0) 0)) (nI 0) := by
      refine zl_cnt (fun n i => lp_X5_goOn_28 onw takers (nI s) (nI x) E n (nI ((if x = 5 then s &&& z_lo q kn else 0) ||| zs_or (fun p => if s.testBit p then z_on q kn p &&& z_ta q x else 0) i)) (nI i)) 10 ?_ ?_ 0 (Nat.zero_le _)
      · intro n
        rw [lp_X5_goOn_28]
        exact zb_t (by rw [zn_le (by omega) (by omega)]; omega) (hE _ h)
      · intro n i hi ih
        rw [lp_X5_goOn_28]
        refine zb_f (by rw [zn_le (by omega) (by omega)]; omega) ?_
        rw [zs_or_from] at ih
        rw [zn_bit (by omega) (by omega), zn_eq0 (by cases s.testBit i <;> decide)]
        refine ⟨fun e => ?_, fun e => ?_⟩
        · rintro _ rfl
          rw [zn_add]
          have hb : ¬ s.testBit i = true := fun z => by rw [z] at e; exact absurd e (by decide)
          rw [if_neg hb, Nat.or_zero] at ih
          exact ih
        · rw [zn_in (by omega), zn_in (by omega), zn_cl (by omega), zn_cl (by omega), hon i hi, hta x hx]
          refine ⟨hi, hx, ?_⟩
          rintro _ rfl
          rintro _ rfl
          rw [zn_and, zn_or, zn_add]
          have hb : s.testBit i = true := by
            cases hb : s.testBit i with
            | true => rfl
            | false => rw [hb] at e; exact absurd rfl e
          rw [if_pos hb] at ih
          exact ih
    rw [show zs_or (fun p => if s.testBit p then z_on q kn p &&& z_ta q x else 0) 0 = 0 from rfl, Nat.or_zero] at w
    exact w
  rw [zn_eq (by omega) (by omega)]
  refine ⟨fun e => ?_, fun e => ?_⟩
  · rw [if_neg e] at fin; exact fin
  · rw [if_pos e] at fin
    rw [zn_and]
    exact fin
theorem sx_begunBy {q : zR} {kn : Nat → Nat} {x : Nat} {fi lo : Int32} {onw takers : Nat → Int32} {K : Int32 → Prop} (hS : xS q kn fi lo onw takers) (hx : x < 6) (h : K (nI (z_fa q &&& z_ta q x))) : wp_X5_begunBy fi takers (nI x) K := by
  obtain ⟨rfl, rfl, hon, hta⟩ := hS
  unfold wp_X5_begunBy
  refine sx_isClass (by omega) (fun _ => ?_) (fun h => by omega)
  refine zb_f zi_1 ?_
  rw [zn_in (by omega), zn_cl (by omega), hta x hx, zn_and]
  exact ⟨hx, h⟩

