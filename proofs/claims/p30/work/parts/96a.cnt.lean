/-! how many -/
def z_ct (B : Nat → Bool) : Nat → Nat
  | 0 => 0
  | n + 1 => z_ct B n + (B n).toNat
theorem z_ct_S (B : Nat → Bool) (n : Nat) : z_ct B (n + 1) = z_ct B n + (B n).toNat := rfl
theorem zp_b1 : ∀ b : Bool, b.toNat ≤ 1 := by decide
theorem z_ct_le (B : Nat → Bool) : ∀ n, z_ct B n ≤ n
  | 0 => Nat.le_refl _
  | n + 1 => by have := z_ct_le B n; have := zp_b1 (B n); rw [z_ct_S]; omega
theorem z_ct_mono (B : Nat → Bool) {m n : Nat} (h : m ≤ n) : z_ct B m ≤ z_ct B n := by
  induction h with
  | refl => exact Nat.le_refl _
  | step _ ih => rw [z_ct_S]; omega
theorem z_ct_congr {f g : Nat → Bool} : ∀ n, (∀ j, j < n → f j = g j) → z_ct f n = z_ct g n
  | 0, _ => rfl
  | n + 1, h => by rw [z_ct_S, z_ct_S, z_ct_congr n (fun j hj => h j (by omega)), h n (by omega)]
theorem z_ct_add (f : Nat → Bool) (a : Nat) : ∀ b, z_ct f (a + b) = z_ct f a + z_ct (fun j => f (a + j)) b
  | 0 => rfl
  | b + 1 => by rw [show a + (b + 1) = (a + b) + 1 by omega, z_ct_S, z_ct_S, z_ct_add f a b]; omega
theorem z_ct_0 {f : Nat → Bool} : ∀ n, (∀ j, j < n → f j = false) → z_ct f n = 0
  | 0, _ => rfl
  | n + 1, h => by rw [z_ct_S, z_ct_0 n (fun j hj => h j (by omega)), h n (by omega)]; rfl
/-! bits counted eight by eight -/
theorem zp_and {x u : Nat} (y v : Nat) (hx : x < 256) (hu : u < 256) : (x + 256 * y) &&& (u + 256 * v) = (x &&& u) + 256 * (y &&& v) := by
  have h1 : ((x + 256 * y) &&& (u + 256 * v)) % 2 ^ 8 = x &&& u := by
    rw [Nat.and_mod_two_pow, show (x + 256 * y) % 2 ^ 8 = x by omega, show (u + 256 * v) % 2 ^ 8 = u by omega]
  have h2 : ((x + 256 * y) &&& (u + 256 * v)) / 2 ^ 8 = y &&& v := by
    rw [Nat.and_div_two_pow, show (x + 256 * y) / 2 ^ 8 = y by omega, show (u + 256 * v) / 2 ^ 8 = v by omega]
  have h3 := Nat.div_add_mod ((x + 256 * y) &&& (u + 256 * v)) (2 ^ 8)
  rw [h1, h2] at h3
  omega
def zp_1 (m a : Nat) : Nat := a - (a / 2 &&& m)
def zp_2 (m a : Nat) : Nat := (a &&& m) + (a / 4 &&& m)
def zp_3 (m a : Nat) : Nat := (a + a / 16) &&& m
def zp_d1 (b : Nat) : Bool := ((b / 2) &&& 85 == (b / 2 + 128) &&& 85) && decide ((b / 2) &&& 85 ≤ b) && ((b / 4) &&& 51 == (b / 4 + 64) &&& 51) && ((b / 4) &&& 51 == (b / 4 + 128) &&& 51) && ((b / 4) &&& 51 == (b / 4 + 192) &&& 51)
theorem zp_d1a : ∀ x, x < 16 → ∀ y, y < 16 → zp_d1 (16 * x + y) = true := by decide
theorem zp_d1b {b : Nat} (h : b < 256) : zp_d1 b = true := by
  have := zp_d1a (b / 16) (by omega) (b % 16) (by omega)
  rw [show 16 * (b / 16) + b % 16 = b by omega] at this
  exact this
def zp_d2 (b : Nat) : Bool := decide (zp_1 85 b < 256) && decide (zp_2 51 (zp_1 85 b) ≤ 68) && decide (zp_2 51 (zp_1 85 b) % 16 ≤ 4) && (zp_3 15 (zp_2 51 (zp_1 85 b)) == z_ct (fun j => b.testBit j) 8)
theorem zp_d2a : ∀ x, x < 16 → ∀ y, y < 16 → zp_d2 (16 * x + y) = true := by decide
theorem zp_d2b {b : Nat} (h : b < 256) : zp_d2 b = true := by
  have := zp_d2a (b / 16) (by omega) (b % 16) (by omega)
  rw [show 16 * (b / 16) + b % 16 = b by omega] at this
  exact this
theorem zp_d3a : ∀ x, x < 16 → ∀ y, y < 16 → ∀ e, e < 5 → (16 * x + y + 16 * e) &&& 15 = (16 * x + y) &&& 15 := by decide
theorem zp_d3 {w e : Nat} (h : w < 256) (he : e < 5) : (w + 16 * e) &&& 15 = w &&& 15 := by
  have := zp_d3a (w / 16) (by omega) (w % 16) (by omega) e he
  rw [show 16 * (w / 16) + w % 16 = w by omega] at this
  exact this
theorem zp_L1 {b : Nat} (c m : Nat) (hb : b < 256) : zp_1 (85 + 256 * m) (b + 256 * c) = zp_1 85 b + 256 * zp_1 m c := by
  unfold zp_1
  have h := zp_d1b hb
  unfold zp_d1 at h
  simp only [Bool.and_eq_true, beq_iff_eq, decide_eq_true_eq] at h
  obtain ⟨⟨⟨⟨h1, h2⟩, h3⟩, h4⟩, h5⟩ := h
  have h6 : c / 2 &&& m ≤ c := Nat.le_trans Nat.and_le_left (by omega)
  rcases (show c % 2 = 0 ∨ c % 2 = 1 by omega) with e | e
  · rw [show (b + 256 * c) / 2 = b / 2 + 256 * (c / 2) by omega, zp_and _ _ (by omega) (by omega)]
    omega
  · rw [show (b + 256 * c) / 2 = (b / 2 + 128) + 256 * (c / 2) by omega, zp_and _ _ (by omega) (by omega), ← h1]
    omega
theorem zp_L2 {b : Nat} (c m : Nat) (hb : b < 256) : zp_2 (51 + 256 * m) (b + 256 * c) = zp_2 51 b + 256 * zp_2 m c := by
  unfold zp_2
  have h := zp_d1b hb
  unfold zp_d1 at h
  simp only [Bool.and_eq_true, beq_iff_eq, decide_eq_true_eq] at h
  obtain ⟨⟨⟨⟨h1, h2⟩, h3⟩, h4⟩, h5⟩ := h
  rw [zp_and _ _ hb (by omega)]
  rcases (show c % 4 = 0 ∨ c % 4 = 1 ∨ c % 4 = 2 ∨ c % 4 = 3 by omega) with e | e | e | e
  · rw [show (b + 256 * c) / 4 = b / 4 + 256 * (c / 4) by omega, zp_and _ _ (by omega) (by omega)]
    omega
  · rw [show (b + 256 * c) / 4 = (b / 4 + 64) + 256 * (c / 4) by omega, zp_and _ _ (by omega) (by omega), ← h3]
    omega
  · rw [show (b + 256 * c) / 4 = (b / 4 + 128) + 256 * (c / 4) by omega, zp_and _ _ (by omega) (by omega), ← h4]
    omega
  · rw [show (b + 256 * c) / 4 = (b / 4 + 192) + 256 * (c / 4) by omega, zp_and _ _ (by omega) (by omega), ← h5]
    omega
theorem zp_L3 {b c : Nat} (m : Nat) (hb : b ≤ 68) (hc : c % 16 ≤ 4) : zp_3 (15 + 256 * m) (b + 256 * c) = zp_3 15 b + 256 * zp_3 m c := by
  unfold zp_3
  rw [show b + 256 * c + (b + 256 * c) / 16 = (b + b / 16 + 16 * (c % 16)) + 256 * (c + c / 16) by omega, zp_and _ _ (by omega) (by omega), zp_d3 (by omega) (by omega)]
theorem zp_ct {b : Nat} (c n : Nat) (hb : b < 256) : z_ct (fun j => (b + 256 * c).testBit j) (8 + n) = z_ct (fun j => b.testBit j) 8 + z_ct (fun j => c.testBit j) n := by
  rw [z_ct_add]
  have e1 : z_ct (fun j => (b + 256 * c).testBit j) 8 = z_ct (fun j => b.testBit j) 8 := by
    apply z_ct_congr
    intro j hj
    have h := Nat.testBit_mod_two_pow (b + 256 * c) 8 j
    rw [show (b + 256 * c) % 2 ^ 8 = b by omega, decide_eq_true hj, Bool.true_and] at h
    exact h.symm
  have e2 : z_ct (fun j => (b + 256 * c).testBit (8 + j)) n = z_ct (fun j => c.testBit j) n := by
    apply z_ct_congr
    intro j _
    have h := Nat.testBit_div_two_pow (n := 8) (b + 256 * c) j
    rw [show (b + 256 * c) / 2 ^ 8 = c by omega, show j + 8 = 8 + j by omega] at h
    exact h.symm
  rw [e1, e2]
theorem zp_all {b0 b1 b2 b3 : Nat} (h0 : b0 < 256) (h1 : b1 < 256) (h2 : b2 < 256) (h3 : b3 < 256) :
    zp_3 252645135 (zp_2 858993459 (zp_1 1431655765 (b0 + 256 * (b1 + 256 * (b2 + 256 * b3))))) = z_ct (fun j => b0.testBit j) 8 + 256 * (z_ct (fun j => b1.testBit j) 8 + 256 * (z_ct (fun j => b2.testBit j) 8 + 256 * z_ct (fun j => b3.testBit j) 8)) := by
  have q0 := zp_d2b h0
  have q1 := zp_d2b h1
  have q2 := zp_d2b h2
  have q3 := zp_d2b h3
  unfold zp_d2 at q0 q1 q2 q3
  simp only [Bool.and_eq_true, beq_iff_eq, decide_eq_true_eq] at q0 q1 q2 q3
  obtain ⟨⟨⟨a0, c0⟩, d0⟩, e0⟩ := q0
  obtain ⟨⟨⟨a1, c1⟩, d1⟩, e1⟩ := q1
  obtain ⟨⟨⟨a2, c2⟩, d2⟩, e2⟩ := q2
  obtain ⟨⟨⟨a3, c3⟩, d3⟩, e3⟩ := q3
  rw [show (1431655765 : Nat) = 85 + 256 * (85 + 256 * (85 + 256 * 85)) from rfl, show (858993459 : Nat) = 51 + 256 * (51 + 256 * (51 + 256 * 51)) from rfl, show (252645135 : Nat) = 15 + 256 * (15 + 256 * (15 + 256 * 15)) from rfl]
  rw [zp_L1 _ _ h0, zp_L1 _ _ h1, zp_L1 _ _ h2, zp_L2 _ _ a0, zp_L2 _ _ a1, zp_L2 _ _ a2]
  rw [zp_L3 _ c0 (by omega), zp_L3 _ c1 (by omega), zp_L3 _ c2 d3, e0, e1, e2, e3]
theorem zp_fin {p0 p1 p2 p3 : Nat} (h0 : p0 ≤ 8) (h1 : p1 ≤ 8) (h2 : p2 ≤ 8) (h3 : p3 ≤ 8) : (p0 + 256 * (p1 + 256 * (p2 + 256 * p3)) + (p0 + 256 * (p1 + 256 * (p2 + 256 * p3))) / 2 ^ 8 + (p0 + 256 * (p1 + 256 * (p2 + 256 * p3)) + (p0 + 256 * (p1 + 256 * (p2 + 256 * p3))) / 2 ^ 8) / 2 ^ 16) % 2 ^ 6 = p0 + (p1 + (p2 + p3)) := by
  have e1 : (p0 + 256 * (p1 + 256 * (p2 + 256 * p3))) / 2 ^ 8 = p1 + 256 * (p2 + 256 * p3) := by omega
  rw [e1]
  have e2 : (p0 + 256 * (p1 + 256 * (p2 + 256 * p3)) + (p1 + 256 * (p2 + 256 * p3))) / 2 ^ 16 = p2 + p3 + 256 * p3 := by omega
  rw [e2]
  omega
theorem sx_bitCount {a : Nat} {K : Int32 → Prop} (ha : a < 4294967296) (h : K (nI (z_ct (fun j => a.testBit j) 32))) : wp_J6_bitCount_0f7a4 (nI a) K := by
  have hb := zp_all (b0 := a % 256) (b1 := a / 256 % 256) (b2 := a / 65536 % 256) (b3 := a / 16777216) (by omega) (by omega) (by omega) (by omega)
  rw [show a % 256 + 256 * (a / 256 % 256 + 256 * (a / 65536 % 256 + 256 * (a / 16777216))) = a by omega] at hb
  have hc : z_ct (fun j => a.testBit j) 32 = z_ct (fun j => (a % 256).testBit j) 8 + (z_ct (fun j => (a / 256 % 256).testBit j) 8 + (z_ct (fun j => (a / 65536 % 256).testBit j) 8 + z_ct (fun j => (a / 16777216).testBit j) 8)) := by
    have e0 : a = a % 256 + 256 * (a / 256) := by omega
    have e1 : a / 256 = a / 256 % 256 + 256 * (a / 65536) := by omega
    have e2 : a / 65536 = a / 65536 % 256 + 256 * (a / 16777216) := by omega
    have r0 := zp_ct (b := a % 256) (a / 256) 24 (by omega)
    rw [← e0] at r0
    have r1 := zp_ct (b := a / 256 % 256) (a / 65536) 16 (by omega)
    rw [← e1] at r1
    have r2 := zp_ct (b := a / 65536 % 256) (a / 16777216) 8 (by omega)
    rw [← e2] at r2
    rw [show (32 : Nat) = 8 + 24 from rfl, r0, show (24 : Nat) = 8 + 16 from rfl, r1, show (16 : Nat) = 8 + 8 from rfl, r2]
  have l0 := z_ct_le (fun j => (a % 256).testBit j) 8
  have l1 := z_ct_le (fun j => (a / 256 % 256).testBit j) 8
  have l2 := z_ct_le (fun j => (a / 65536 % 256).testBit j) 8
  have l3 := z_ct_le (fun j => (a / 16777216).testBit j) 8
  unfold wp_J6_bitCount_0f7a4
  rw [pk_ushrN (by omega) (nI 1) 1 (by decide), zn_and, zn_sub (Nat.le_trans Nat.and_le_left (Nat.div_le_self _ _))]
  rintro _ rfl
  have k1 : a - (a / 2 ^ 1 &&& 1431655765) < 4294967296 := by omega
  rw [pk_ushrN (by omega) (nI 2) 2 (by decide), zn_and, zn_and, zn_add]
  rintro _ rfl
  have e1 : a - (a / 2 ^ 1 &&& 1431655765) = zp_1 1431655765 a := rfl
  rw [e1] at k1 ⊢
  have e2 : (zp_1 1431655765 a &&& 858993459) + (zp_1 1431655765 a / 2 ^ 2 &&& 858993459) = zp_2 858993459 (zp_1 1431655765 a) := rfl
  rw [e2]
  have k2 : zp_2 858993459 (zp_1 1431655765 a) < 4294967296 := by
    unfold zp_2
    have : zp_1 1431655765 a &&& 858993459 ≤ 858993459 := Nat.and_le_right
    have : zp_1 1431655765 a / 4 &&& 858993459 ≤ 858993459 := Nat.and_le_right
    omega
  rw [pk_ushrN (by omega) (nI 4) 4 (by decide), zn_add, zn_and]
  rintro _ rfl
  have e3 : (zp_2 858993459 (zp_1 1431655765 a) + zp_2 858993459 (zp_1 1431655765 a) / 2 ^ 4) &&& 252645135 = zp_3 252645135 (zp_2 858993459 (zp_1 1431655765 a)) := rfl
  rw [e3, hb, pk_ushrN (by omega) (nI 8) 8 (by decide), zn_add]
  rintro _ rfl
  rw [pk_ushrN (by omega) (nI 16) 16 (by decide), zn_add]
  rintro _ rfl
  rw [zn_and, show (63 : Nat) = 2 ^ 6 - 1 from rfl, Nat.and_two_pow_sub_one_eq_mod]
  rw [hc] at h
  have e4 : ∀ x : Nat, x = z_ct (fun j => (a % 256).testBit j) 8 + (z_ct (fun j => (a / 256 % 256).testBit j) 8 + (z_ct (fun j => (a / 65536 % 256).testBit j) 8 + z_ct (fun j => (a / 16777216).testBit j) 8)) → K (nI x) := fun x e => by rw [e]; exact h
  exact e4 _ (zp_fin l0 l1 l2 l3)

