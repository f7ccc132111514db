theorem z_of_eq (a b : Nat) : (2 ^ b - 1) * 2 ^ a = 2 ^ (a + b) - 2 ^ a := by
  rw [Nat.sub_mul, Nat.one_mul, ← Nat.pow_add, Nat.add_comm b a]
/-- the kind of a rule -/
def z_dk (d : zD) (r x : Nat) : zD := (d.1, z_up d.2.1 r x, d.2.2)

/-! the model's items -/
def z_ir (t : Nat → Nat) (q : zR) (i e : Nat) : Prop := i + 2 < e ∧ 48 ≤ t (i + 1) ∧ t (i + 1) ≤ 51 ∧ t (i + 2) = 44 ∧ z_vr t (i + 3) (e - (i + 3)) ∧ z_nR q < 4 ∧ z_nP q + z_ac t (i + 3) (e - (i + 3)) ≤ 10
def z_lt (t : Nat → Nat) (j : Nat) : Prop := 97 ≤ t j ∧ t j ≤ 122
def z_ic (t : Nat → Nat) (i e : Nat) : Prop := i + 3 < e ∧ 48 ≤ t (i + 1) ∧ t (i + 1) ≤ 53 ∧ t (i + 2) = 44 ∧ (∀ j, i + 3 ≤ j → j < e → z_lt t j) ∧ e - (i + 3) ≤ 26
def z_is (t : Nat → Nat) (i e : Nat) : Prop := i < e ∧ (∀ j, i + 1 ≤ j → j < e → z_lt t j) ∧ e - (i + 1) ≤ 30
/-- letters of a class -/
def z_cs (t : Nat → Nat) (b x : Nat) (d : zD) : Nat → zD
  | 0 => d
  | n + 1 => zo_tel (z_cs t b x d n) (t (b + n) - 97) x
theorem z_cs_S (t : Nat → Nat) (b x : Nat) (d : zD) (n : Nat) : z_cs t b x d (n + 1) = zo_tel (z_cs t b x d n) (t (b + n) - 97) x := rfl
theorem z_cs_E {t : Nat → Nat} {b x : Nat} {d : zD} (hd : zE d) (hx : x < 6) : ∀ n, zE (z_cs t b x d n)
  | 0 => hd
  | n + 1 => (z_cs_E hd hx n).tel hx
/-- a line of letters -/
def z_ll (t : Nat → Nat) (b : Nat) : Nat → List Nat
  | 0 => []
  | n + 1 => z_ll t b n ++ [t (b + n) - 97]
def z_dl (d : zD) (l : List Nat) : zD := (d.1, d.2.1, l)
theorem z_ll_len (t : Nat → Nat) (b : Nat) : ∀ n, (z_ll t b n).length = n
  | 0 => rfl
  | n + 1 => by
    show (z_ll t b n ++ [t (b + n) - 97]).length = _
    rw [List.length_append, z_ll_len t b n]; rfl
theorem z_dl_at (d : zD) (l : List Nat) (x j : Nat) : z_at (z_dl d (l ++ [x])) j = if j < l.length then z_at (z_dl d l) j else if j = l.length then x else 0 := by
  show (l ++ [x]).getD j 0 = if j < l.length then l.getD j 0 else _
  rw [List.getD_eq_getElem?_getD, List.getD_eq_getElem?_getD]
  by_cases e : j < l.length
  · rw [if_pos e, List.getElem?_append_left e]
  · rw [if_neg e, List.getElem?_append_right (by omega)]
    by_cases e2 : j = l.length
    · rw [if_pos e2, e2, Nat.sub_self]; rfl
    · rw [if_neg e2, List.getElem?_eq_none (by show 1 ≤ j - l.length; omega)]; rfl
