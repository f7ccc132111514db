/-! what is known behind two classes -/
def z_kw (q : zR) (kn : Nat → Nat) (x y : Nat) : Nat → Bool
  | 0 => true
  | n + 1 => z_kw q kn x y n && (z_bo q kn (z_bo q kn (z_nth (z_pe (z_bgn q 0) (z_go q kn)).1 n) x) y == z_bo q kn (z_bgn q 0 x) y)
theorem z_kw_S (q : zR) (kn : Nat → Nat) (x y n : Nat) : z_kw q kn x y (n + 1) = (z_kw q kn x y n && (z_bo q kn (z_bo q kn (z_nth (z_pe (z_bgn q 0) (z_go q kn)).1 n) x) y == z_bo q kn (z_bgn q 0 x) y)) := rfl
theorem z_kw_f {q : zR} {kn : Nat → Nat} {x y m : Nat} (h : z_kw q kn x y m = false) : ∀ j, m ≤ j → z_kw q kn x y j = false := by
  intro j hj
  induction hj with
  | refl => exact h
  | step _ ih => rw [z_kw_S, ih]; rfl
/-- whether behind x and y all is known -/
def z_kt (q : zR) (kn : Nat → Nat) (x y : Nat) : Bool := z_kw q kn x y (z_pe (z_bgn q 0) (z_go q kn)).1.length
theorem sx_leadTogether {q : zR} {kn : Nat → Nat} {number : Int32} {nexts begun : zF} {x y : Nat} {K : Int32 → Prop} (hq : zW q) (hY : xY q kn number nexts begun) (hx : x < 6) (hy : y < 6) (h : K (nI (z_kt q kn x y).toNat)) : wp_X8_leadTogether number nexts begun (nI x) (nI y) K := by
  have hQ := z_pe_Q hq kn
  have hlen := hQ.1.len
  obtain ⟨k0, b1, b2, b3⟩ := hY.2.1 x hx
  unfold wp_X8_leadTogether
  rw [zn_in (by omega), zn_cl (by omega), b3]
  refine ⟨hx, sx_behindW hq hY b1 hy (fun k1 c1 c2 => ?_)⟩
  rw [b2] at c2
  intro E hE E2 hE2
  have hnum := hY.1
  refine zl_inv (σ := Unit) (fun n i _ => lp_X8_leadTogether_15 number nexts begun (nI x) (nI y) (nI k1) E E2 n (nI i)) (fun i _ => z_kw q kn x y i = true) (z_pe (z_bgn q 0) (z_go q kn)).1.length ?_ ?_ 0 () (Nat.zero_le _) rfl
  · intro n _ hk
    rw [lp_X8_leadTogether_15, hnum]
    refine zb_t (by rw [zn_le (by omega) (by omega)]; exact Nat.le_refl _) (hE2 ?_)
    unfold z_kt at h
    rw [hk] at h
    exact h
  · intro n i _ hi hk ih
    rw [lp_X8_leadTogether_15, hnum]
    rw [← hnum]
    refine zb_f (by rw [hnum, zn_le (by omega) (by omega)]; omega) ?_
    refine sx_behindW hq hY hi hx (fun k2 d1 d2 => sx_behindW hq hY d1 hy (fun k3 e1 e2 => ?_))
    rw [d2] at e2
    have hnext := z_kw_S q kn x y i
    rw [hk, Bool.true_and] at hnext
    refine ⟨fun e => ?_, fun e => ?_⟩
    · rw [zn_eq (by omega) (by omega)] at e
      rintro _ rfl
      rw [zn_add]
      refine ih () ?_
      rw [hnext, beq_iff_eq, ← e2, ← c2, e]
    · rw [zn_eq (by omega) (by omega)] at e
      have hf : z_kw q kn x y (i + 1) = false := by
        rw [hnext]
        refine beq_eq_false_iff_ne.mpr (fun e4 => e ?_)
        exact z_nth_inj hQ.1.1 e1 c1 (by rw [e2, c2]; exact e4)
      apply hE
      unfold z_kt at h
      rw [z_kw_f hf _ (by omega)] at h
      exact h
