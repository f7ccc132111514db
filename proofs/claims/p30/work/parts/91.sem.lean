/-! rules, lines, stands: what both sides say, in naturals -/
abbrev zR : Type := Nat × Nat × (Nat → Nat) × (Nat → Nat) × (Nat → Nat) × (Nat → Nat) × (Nat → Nat)
def z_nR (q : zR) : Nat := q.1
def z_nP (q : zR) : Nat := q.2.1
def z_of (q : zR) : Nat → Nat := q.2.2.1
def z_fst (q : zR) : Nat → Nat := q.2.2.2.1
def z_whl (q : zR) : Nat → Nat := q.2.2.2.2.1
def z_tk (q : zR) : Nat → Nat := q.2.2.2.2.2.1
def z_bh (q : zR) : Nat → Nat := q.2.2.2.2.2.2
/-- rules as they may be -/
def zW (q : zR) : Prop := 1 ≤ z_nR q ∧ z_nR q ≤ 4 ∧ z_nP q ≤ 10 ∧
  (∀ r, r < z_nR q → z_fst q r < 2 ^ z_nP q ∧ z_whl q r < 2 ^ z_nP q ∧ z_of q r < 2 ^ z_nP q ∧ ∀ j, (z_fst q r).testBit j = true → (z_of q r).testBit j = true) ∧
  (∀ p, p < z_nP q → z_tk q p ≤ 6 ∧ z_bh q p < 2 ^ z_nP q) ∧
  ∀ r s j, r < z_nR q → s < z_nR q → (z_of q r).testBit j = true → (z_of q s).testBit j = true → r = s
def z_take (q : zR) (s x : Nat) : Nat := zs_mk (fun p => s.testBit p && (z_tk q p == 6 || z_tk q p == x)) (z_nP q)
def z_bgn (q : zR) (wo x : Nat) : Nat := z_take q (zs_or (fun r => if wo.testBit r then 0 else z_fst q r) (z_nR q)) x
def z_from (q : zR) (knd : Nat → Nat) (s r : Nat) : Nat := if 1 < knd r then (s &&& z_of q r) ^^^ ((s &&& z_of q r) &&& z_whl q r) else s &&& z_of q r
def z_go1 (q : zR) (knd : Nat → Nat) (s x r : Nat) : Nat := z_take q (zs_or (fun p => if (z_from q knd s r).testBit p then z_bh q p else 0) (z_nP q)) x ||| (if x = 5 ∧ knd r % 2 = 1 then s &&& z_of q r else 0)
def z_go (q : zR) (knd : Nat → Nat) (s x : Nat) : Nat := zs_or (z_go1 q knd s x) (z_nR q)
theorem z_take_lt (q : zR) (s x : Nat) : z_take q s x < 2 ^ z_nP q := zs_mk_lt _ _
theorem z_bgn_lt (q : zR) (wo x : Nat) : z_bgn q wo x < 2 ^ z_nP q := z_take_lt _ _ _
theorem z_go_lt {q : zR} (hq : zW q) (knd : Nat → Nat) (s x : Nat) : z_go q knd s x < 2 ^ z_nP q := by
  apply zs_or_lt
  intro r hr
  have h := (hq.2.2.2.1 r hr).2.2.1
  refine Nat.or_lt_two_pow (z_take_lt _ _ _) ?_
  split
  · exact Nat.and_lt_two_pow _ h
  · exact Nat.two_pow_pos _
theorem zW.pP {q : zR} (hq : zW q) : 2 ^ z_nP q ≤ 1024 := by
  have := Nat.pow_le_pow_right (n := 2) (by decide) hq.2.2.1
  exact this
/-- a line, its letters' classes, the kinds of rules -/
abbrev zD : Type := (Nat → Nat) × (Nat → Nat) × List Nat
def z_cls (d : zD) : Nat → Nat := d.1
def z_knd (d : zD) : Nat → Nat := d.2.1
def z_lin (d : zD) : List Nat := d.2.2
def zE (d : zD) : Prop := (∀ j, j < 26 → z_cls d j < 6) ∧ (∀ r, r < 4 → z_knd d r < 4) ∧ (z_lin d).length ≤ 30 ∧ ∀ x ∈ z_lin d, x < 26
def z_len (d : zD) : Nat := (z_lin d).length
def z_at (d : zD) (k : Nat) : Nat := (z_lin d).getD k 0
/-- the class of the k-th letter -/
def z_ca (d : zD) (k : Nat) : Nat := z_cls d (z_at d k)
theorem zE.at {d : zD} (h : zE d) {k : Nat} (hk : k < z_len d) : z_at d k < 26 := by
  unfold z_at
  have hk' : k < (z_lin d).length := hk
  rw [List.getD_eq_getElem?_getD, List.getElem?_eq_getElem hk']
  exact h.2.2.2 _ (List.getElem_mem hk')
theorem zE.ca {d : zD} (h : zE d) {k : Nat} (hk : k < z_len d) : z_ca d k < 6 := h.1 _ (h.at hk)
/-- the stand behind k letters: nothing ahead of the first -/
def z_st (q : zR) (d : zD) (kn : Nat → Nat) (wo : Nat) : Nat → Nat
  | 0 => 0
  | k + 1 => if z_go q kn (z_st q d kn wo k) (z_ca d k) = 0 then z_bgn q wo (z_ca d k) else z_go q kn (z_st q d kn wo k) (z_ca d k)
/-- whether a boundary is at k -/
def z_bd (q : zR) (d : zD) (kn : Nat → Nat) (wo : Nat) (k : Nat) : Bool := if k < z_len d then z_go q kn (z_st q d kn wo k) (z_ca d k) == 0 else true
theorem z_go_0 (q : zR) (kn : Nat → Nat) (x : Nat) : z_go q kn 0 x = 0 := by
  apply zs_ext
  intro j
  constructor
  · intro h
    obtain ⟨r, -, h⟩ := (zs_or_bit _ _ _).mp h
    unfold z_go1 z_from at h
    have e1 : ∀ p, (if 1 < kn r then (0 &&& z_of q r) ^^^ ((0 &&& z_of q r) &&& z_whl q r) else 0 &&& z_of q r).testBit p = false := by
      intro p
      split <;> simp
    have e2 : zs_or (fun p => if (if 1 < kn r then (0 &&& z_of q r) ^^^ ((0 &&& z_of q r) &&& z_whl q r) else 0 &&& z_of q r).testBit p then z_bh q p else 0) (z_nP q) = 0 := by
      apply zs_ext
      intro i
      rw [zs_or_bit]
      constructor
      · rintro ⟨p, -, h⟩
        rw [e1] at h
        simp at h
      · intro h; simp at h
    rw [e2] at h
    rw [Nat.testBit_or, Bool.or_eq_true] at h
    rcases h with h | h
    · unfold z_take at h
      rw [zs_mk_bit] at h
      simp at h
    · split at h <;> simp at h
  · intro h; simp at h
theorem z_st_lt {q : zR} (hq : zW q) (d : zD) (kn : Nat → Nat) (wo : Nat) : ∀ k, z_st q d kn wo k < 2 ^ z_nP q
  | 0 => Nat.two_pow_pos _
  | k + 1 => by
    rw [z_st]
    split
    · exact z_bgn_lt _ _ _
    · exact z_go_lt hq _ _ _

