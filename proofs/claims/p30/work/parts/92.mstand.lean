/-! the model's stands -/
/-- the model's rules hold q -/
def mR (q : zR) (rules places : Int32) (rule takes behind : Nat → Int32) : Prop :=
  rules = nI (z_nR q) ∧ places = nI (z_nP q) ∧ (∀ r, r < z_nR q → rule r = nI (z_fst q r) ∧ rule (4 + r) = nI (z_whl q r) ∧ rule (8 + r) = nI (z_of q r)) ∧ ∀ p, p < z_nP q → takes p = nI (z_tk q p) ∧ behind p = nI (z_bh q p)
/-- a slot of the model holds d -/
def mD (slot : Nat → Int32) (b : Nat) (d : zD) : Prop :=
  (∀ j, j < 26 → slot (b + j) = nI (z_cls d j)) ∧ (∀ r, r < 4 → slot (b + 26 + r) = nI (z_knd d r)) ∧ slot (b + 30) = nI (z_len d) ∧ ∀ j, j < z_len d → slot (b + 31 + j) = nI (z_at d j)
theorem zs_tkS {s x i : Nat} {q : zR} (b : Bool) (h : (s.testBit i && (z_tk q i == 6 || z_tk q i == x)) = b) : zs_mk (fun p => s.testBit p && (z_tk q p == 6 || z_tk q p == x)) (i + 1) = zs_mk (fun p => s.testBit p && (z_tk q p == 6 || z_tk q p == x)) i ||| (if b then 2 ^ i else 0) := by
  cases b with
  | true => exact zs_mk_t h
  | false => exact zs_mk_f h
theorem zW.bnd {q : zR} (hq : zW q) {a : Nat} (h : a < 2 ^ z_nP q) : a < 1024 := Nat.lt_of_lt_of_le h hq.pP
theorem zs_orS (g : Nat → Nat) (i : Nat) : zs_or g (i + 1) = zs_or g i ||| g i := rfl
theorem z_st_S (q : zR) (d : zD) (kn : Nat → Nat) (wo k : Nat) : z_st q d kn wo (k + 1) = if z_go q kn (z_st q d kn wo k) (z_ca d k) = 0 then z_bgn q wo (z_ca d k) else z_go q kn (z_st q d kn wo k) (z_ca d k) := rfl
