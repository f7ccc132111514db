/-! the class's ways, once found -/
/-- the class holds where ways lead and where they begin -/
def xY (q : zR) (kn : Nat → Nat) (number : Int32) (nexts begun : zF) : Prop :=
  number = nI (z_pe (z_bgn q 0) (z_go q kn)).1.length ∧ xB (z_bgn q 0) (z_pe (z_bgn q 0) (z_go q kn)).1 begun 6 ∧ ∀ a y, y < 6 → a < (z_pe (z_bgn q 0) (z_go q kn)).1.length → xN (z_go q kn) (z_pe (z_bgn q 0) (z_go q kn)).1 nexts a y
theorem z_pe_Q {q : zR} (hq : zW q) (kn : Nat → Nat) : zQ (z_pe (z_bgn q 0) (z_go q kn)) :=
  z_p3_Q (fun x _ => hq.bnd (z_bgn_lt q 0 x)) (fun s x _ => hq.bnd (z_go_lt hq kn s x)) 1024
/-- within: the place of the way behind, or -1 -/
theorem sx_within {q : zR} {kn : Nat → Nat} {number : Int32} {nexts begun : zF} {a y : Nat} {K : Int32 → Prop} (hq : zW q) (hY : xY q kn number nexts begun) (ha : a < (z_pe (z_bgn q 0) (z_go q kn)).1.length) (hy : y < 6)
    (h0 : z_go q kn (z_nth (z_pe (z_bgn q 0) (z_go q kn)).1 a) y = 0 → K (-1)) (h1 : ∀ k, k < (z_pe (z_bgn q 0) (z_go q kn)).1.length → ¬ z_go q kn (z_nth (z_pe (z_bgn q 0) (z_go q kn)).1 a) y = 0 → z_nth (z_pe (z_bgn q 0) (z_go q kn)).1 k = z_go q kn (z_nth (z_pe (z_bgn q 0) (z_go q kn)).1 a) y → K (nI k)) : wp_X8_within number nexts (nI a) (nI y) K := by
  have hlen := (z_pe_Q hq kn).1.len
  obtain ⟨rfl, -, hN⟩ := hY
  unfold wp_X8_within
  refine zt_le (by omega) ha (sx_isClass_t hy (zb_f zi_1 ?_))
  rw [zn_mul, zn_add, zn_in (by omega), zn_cl (by omega)]
  refine ⟨by omega, ?_⟩
  have h2 := hN a y hy ha
  by_cases e : z_go q kn (z_nth (z_pe (z_bgn q 0) (z_go q kn)).1 a) y = 0
  · rw [h2.1 e]; exact h0 e
  · obtain ⟨k, k1, k2, k3⟩ := h2.2 e
    rw [k3]; exact h1 k k1 e k2
/-- the stand behind a stand, begun anew where it ends -/
def z_bo (q : zR) (kn : Nat → Nat) (s y : Nat) : Nat := if z_go q kn s y = 0 then z_bgn q 0 y else z_go q kn s y
theorem sx_behindW {q : zR} {kn : Nat → Nat} {number : Int32} {nexts begun : zF} {a y : Nat} {K : Int32 → Prop} (hq : zW q) (hY : xY q kn number nexts begun) (ha : a < (z_pe (z_bgn q 0) (z_go q kn)).1.length) (hy : y < 6)
    (h : ∀ k, k < (z_pe (z_bgn q 0) (z_go q kn)).1.length → z_nth (z_pe (z_bgn q 0) (z_go q kn)).1 k = z_bo q kn (z_nth (z_pe (z_bgn q 0) (z_go q kn)).1 a) y → K (nI k)) : wp_X8_behind number nexts begun (nI a) (nI y) K := by
  have hlen := (z_pe_Q hq kn).1.len
  unfold wp_X8_behind
  refine sx_within hq hY ha hy (fun e => ?_) (fun k k1 e k2 => ?_)
  · refine zb_t2 rfl ?_
    obtain ⟨k, k1, k2, k3⟩ := hY.2.1 y hy
    rw [zn_in (by omega), zn_cl (by omega), k3]
    exact ⟨hy, h k k1 (by unfold z_bo; rw [if_pos e]; exact k2)⟩
  · refine zb_f2 (by rw [zn_eqm1 (by omega)]; exact id) ?_
    exact h k k1 (by unfold z_bo; rw [if_neg e]; exact k2)
