/-! numbers: nI of naturals, as rewriting rules -/
theorem zn_le {a b : Nat} (ha : a < 2147483648) (hb : b < 2147483648) : (nI a ≤ nI b) = (a ≤ b) := propext (nI_leI ha hb)
theorem zn_lt {a b : Nat} (ha : a < 2147483648) (hb : b < 2147483648) : (nI a < nI b) = (a < b) := propext (nI_ltI ha hb)
theorem zn_eq {a b : Nat} (ha : a < 2147483648) (hb : b < 2147483648) : (nI a = nI b) = (a = b) := propext (nI_eq ha hb)
theorem zn_lt0 {a : Nat} (ha : a < 2147483648) : (nI a < 0) = False := eq_false (nI_pos ha)
theorem zn_0le {a : Nat} (ha : a < 2147483648) : (0 ≤ nI a) = True := eq_true (nI_pos' ha)
theorem zn_eq0 {a : Nat} (ha : a < 2147483648) : (nI a = 0) = (a = 0) := by rw [← nI_0]; exact zn_eq ha (by omega)
theorem zn_le0 {a : Nat} (ha : a < 2147483648) : (nI a ≤ 0) = (a = 0) := by
  rw [← nI_0, zn_le ha (by omega)]
  exact propext ⟨fun h => by omega, fun h => by omega⟩
theorem zn_0lt {a : Nat} (ha : a < 2147483648) : (0 < nI a) = (0 < a) := by
  rw [← nI_0, zn_lt (by omega) ha]
theorem zn_in {a N : Nat} (ha : a < 2147483648) : vp_in (nI a) N = (a < N) := by
  apply propext
  unfold vp_in
  rw [nI_clamp ha]
  have h := nI_pos ha
  constructor
  · intro q
    exact Nat.not_le.mp fun z => q (Or.inr z)
  · intro q z
    rcases z with z | z
    · exact h z
    · omega
theorem zn_cl {a : Nat} (ha : a < 2147483648) : (nI a).toNatClampNeg = a := nI_clamp ha
theorem zn_add (a b : Nat) : nI a + nI b = nI (a + b) := nI_add a b
theorem zn_sub {a b : Nat} (h : b ≤ a) : nI a - nI b = nI (a - b) := pk_sub h
theorem zn_mul (a b : Nat) : nI a * nI b = nI (a * b) := pk_mul a b
theorem zn_m1 {a : Nat} (h : 0 < a) : nI a + (-1) = nI (a - 1) := sb_m1 h
theorem zn_div {a d : Nat} (ha : a < 2147483648) (h0 : 0 < d) (hd : d < 2147483648) : nI a / nI d = nI (a / d) := pk_div ha h0 hd
theorem zn_rem {a d : Nat} (ha : a < 2147483648) (h0 : 0 < d) (hd : d < 2147483648) : nI a - nI a / nI d * nI d = nI (a % d) := pk_rem ha h0 hd
theorem zn_bv (n : Nat) : (nI n).toBitVec = BitVec.ofNat 32 n := rfl
theorem zn_and (a b : Nat) : nI a &&& nI b = nI (a &&& b) := by
  apply Int32.toBitVec_inj.1
  show BitVec.ofNat 32 a &&& BitVec.ofNat 32 b = BitVec.ofNat 32 (a &&& b)
  apply BitVec.eq_of_getLsbD_eq
  intro i hi
  simp [hi]
theorem zn_or (a b : Nat) : nI a ||| nI b = nI (a ||| b) := by
  apply Int32.toBitVec_inj.1
  show BitVec.ofNat 32 a ||| BitVec.ofNat 32 b = BitVec.ofNat 32 (a ||| b)
  apply BitVec.eq_of_getLsbD_eq
  intro i hi
  simp [hi]
theorem zn_xor (a b : Nat) : nI a ^^^ nI b = nI (a ^^^ b) := by
  apply Int32.toBitVec_inj.1
  show BitVec.ofNat 32 a ^^^ BitVec.ofNat 32 b = BitVec.ofNat 32 (a ^^^ b)
  apply BitVec.eq_of_getLsbD_eq
  intro i hi
  simp [hi]
theorem zn_m1v : (-1 : Int32) = nI 4294967295 := by decide
theorem zn_not {a b : Nat} (ha : a < 4294967296) : nI a &&& (nI b ^^^ (-1)) = nI (a ^^^ (a &&& b)) := by
  rw [zn_m1v, zn_xor, zn_and]
  congr 1
  apply Nat.eq_of_testBit_eq
  intro i
  rw [Nat.testBit_and, Nat.testBit_xor, Nat.testBit_xor, Nat.testBit_and]
  by_cases hi : i < 32
  · have h1 : Nat.testBit 4294967295 i = true := by
      have := Nat.testBit_two_pow_sub_one 32 i
      rw [show (2 : Nat) ^ 32 - 1 = 4294967295 from by decide] at this
      rw [this]; simp [hi]
    rw [h1]
    cases a.testBit i <;> cases b.testBit i <;> rfl
  · have h1 : a.testBit i = false := by
      apply Nat.testBit_lt_two_pow
      have : (2 : Nat) ^ 32 ≤ 2 ^ i := Nat.pow_le_pow_right (by decide) (by omega)
      omega
    rw [h1]
    simp
theorem zn_s31 : ∀ p, p < 32 → ((nI p &&& 31).toBitVec.smod 32).toNat = p := by decide
theorem zn_shl {p : Nat} (hp : p < 31) : nI 1 <<< (nI p &&& 31) = nI (2 ^ p) := by
  have h2 : (2 : Nat) ^ p < 2 ^ 31 := Nat.pow_lt_pow_right (by decide) hp
  rw [pk_shlN (nI p &&& 31) p (zn_s31 p (by omega)) (by omega)]
  congr 1
  omega
theorem zn_shr {a p : Nat} (ha : a < 2147483648) (hp : p < 32) : nI a >>> (nI p &&& 31) = nI (a / 2 ^ p) := pk_shrN ha (nI p &&& 31) p (zn_s31 p hp)
theorem zn_bit {s p : Nat} (hs : s < 2147483648) (hp : p < 31) : (nI s >>> (nI p &&& 31)) &&& nI 1 = nI (s.testBit p).toNat := by
  rw [zn_shr hs (by omega), zn_and]
  congr 1
  rw [Nat.and_one_is_mod, Nat.testBit_eq_decide_div_mod_eq]
  have h : s / 2 ^ p % 2 < 2 := Nat.mod_lt _ (by decide)
  by_cases q : s / 2 ^ p % 2 = 1
  · simp [q]
  · simp [q]; omega
theorem zn_ltn {a : Nat} (k : Int32) (hk : k < 0) (ha : a < 2147483648) : (nI a = k) = False := by
  apply eq_false
  intro e
  subst e
  exact nI_pos ha hk
theorem zn_eqm1 {a : Nat} (ha : a < 2147483648) : (nI a = -1) = False := zn_ltn _ (by decide) ha
theorem zn_eqm4 {a : Nat} (ha : a < 2147483648) : (nI a = -4) = False := zn_ltn _ (by decide) ha
theorem zn_b0 : vp_nar .boolean (nI 0) = nI 0 := by decide
theorem zn_b1 : vp_nar .boolean (nI 1) = nI 1 := by decide
theorem zn_lt31 {a n : Nat} (h : a < 2 ^ n) (hn : n ≤ 30) : a < 1073741825 := by
  have : (2 : Nat) ^ n ≤ 2 ^ 30 := Nat.pow_le_pow_right (by decide) hn
  omega
/-- a loop whose values hang on its counter alone -/
theorem zl_cnt (P : Nat → Nat → Prop) (e : Nat) (hx : ∀ n, P (n + 1) e) (hs : ∀ n i, i < e → P n (i + 1) → P (n + 1) i) : ∀ i, i ≤ e → ∃ n, P n i := by
  have h : ∀ k i, i + k = e → ∃ n, P n i := by
    intro k
    induction k with
    | zero => intro i hi; exact ⟨1, by rw [show i = e by omega]; exact hx 0⟩
    | succ k ih =>
      intro i hi
      obtain ⟨n, hn⟩ := ih (i + 1) (by omega)
      exact ⟨n + 1, hs n i (by omega) hn⟩
  exact fun i hi => h (e - i) i (by omega)
/-- a loop by a measure -/
theorem zl_m {σ : Type} (P : Nat → σ → Prop) (I : σ → Prop) (μ : σ → Nat) (hs : ∀ n s, I s → (∀ s', I s' → μ s' < μ s → P n s') → P (n + 1) s) : ∀ s, I s → ∃ n, P n s := by
  have h : ∀ k, ∀ s, I s → μ s < k → P k s := by
    intro k
    induction k with
    | zero => intro s _ h; exact absurd h (Nat.not_lt_zero _)
    | succ k ih => intro s hI hk; exact hs k s hI (fun s' h1 h2 => ih s' h1 (by omega))
  exact fun s hI => ⟨μ s + 1, h _ s hI (Nat.lt_succ_self _)⟩
/-- a loop with a counter and an invariant of what else it changes -/
theorem zl_inv {σ : Type} (P : Nat → Nat → σ → Prop) (I : Nat → σ → Prop) (e : Nat) (hx : ∀ n s, I e s → P (n + 1) e s) (hs : ∀ n i s, i < e → I i s → (∀ s', I (i + 1) s' → P n (i + 1) s') → P (n + 1) i s) : ∀ i s, i ≤ e → I i s → ∃ n, P n i s := by
  have h : ∀ k i, i + k = e → ∀ s, I i s → P (k + 1) i s := by
    intro k
    induction k with
    | zero => intro i hi s hI; rw [show i = e by omega] at hI ⊢; exact hx 0 s hI
    | succ k ih => intro i hi s hI; exact hs (k + 1) i s (by omega) hI (fun s' h' => ih (i + 1) (by omega) s' h')
  exact fun i s hi hI => ⟨e - i + 1, h (e - i) i (by omega) s hI⟩
/-- a loop that counts down to 0 -/
theorem zl_down {σ : Type} (P : Nat → Nat → σ → Prop) (I : Nat → σ → Prop) (hx : ∀ n s, I 0 s → P (n + 1) 0 s) (hs : ∀ n i s, I (i + 1) s → (∀ s', I i s' → P n i s') → P (n + 1) (i + 1) s) : ∀ i s, I i s → ∃ n, P n i s := by
  have h : ∀ i s, I i s → P (i + 1) i s := by
    intro i
    induction i with
    | zero => exact fun s hI => hx 0 s hI
    | succ i ih => exact fun s hI => hs (i + 1) i s hI ih
  exact fun i s hI => ⟨i + 1, h i s hI⟩
/-- a branch, decided -/
theorem zb_t {c A B : Prop} (h : c) (a : A) : (c → A) ∧ (¬ c → B) := ⟨fun _ => a, fun q => absurd h q⟩
theorem zb_f {c A B : Prop} (h : ¬ c) (b : B) : (c → A) ∧ (¬ c → B) := ⟨fun q => absurd q h, fun _ => b⟩
theorem zb_t2 {c A B : Prop} (h : c) (a : A) : (¬ c → B) ∧ (c → A) := ⟨fun q => absurd h q, fun _ => a⟩
theorem zb_f2 {c A B : Prop} (h : ¬ c) (b : B) : (¬ c → B) ∧ (c → A) := ⟨fun _ => b, fun q => absurd q h⟩
/-! sets of bits -/
def zs_or (g : Nat → Nat) : Nat → Nat
  | 0 => 0
  | i + 1 => zs_or g i ||| g i
theorem zs_or_bit (g : Nat → Nat) (j : Nat) : ∀ n, (zs_or g n).testBit j = true ↔ ∃ r, r < n ∧ (g r).testBit j = true
  | 0 => by simp [zs_or]
  | n + 1 => by
    rw [zs_or, Nat.testBit_or, Bool.or_eq_true, zs_or_bit g j n]
    constructor
    · rintro (⟨r, h1, h2⟩ | h)
      · exact ⟨r, by omega, h2⟩
      · exact ⟨n, by omega, h⟩
    · rintro ⟨r, h1, h2⟩
      by_cases e : r = n
      · subst e; exact Or.inr h2
      · exact Or.inl ⟨r, by omega, h2⟩
theorem zs_or_lt {g : Nat → Nat} {k : Nat} : ∀ {n : Nat}, (∀ r, r < n → g r < 2 ^ k) → zs_or g n < 2 ^ k
  | 0, _ => Nat.two_pow_pos k
  | n + 1, h => by
    rw [zs_or]
    exact Nat.or_lt_two_pow (zs_or_lt (fun r hr => h r (by omega))) (h n (by omega))
theorem zs_or_congr {f g : Nat → Nat} : ∀ {n : Nat}, (∀ r, r < n → f r = g r) → zs_or f n = zs_or g n
  | 0, _ => rfl
  | n + 1, h => by rw [zs_or, zs_or, zs_or_congr (fun r hr => h r (by omega)), h n (by omega)]
def zs_mk (f : Nat → Bool) (n : Nat) : Nat := zs_or (fun i => if f i then 2 ^ i else 0) n
theorem zs_mk_bit (f : Nat → Bool) (n j : Nat) : (zs_mk f n).testBit j = (decide (j < n) && f j) := by
  apply Bool.eq_iff_iff.mpr
  rw [zs_mk, zs_or_bit]
  constructor
  · rintro ⟨r, h1, h2⟩
    by_cases hf : f r = true
    · rw [if_pos hf, Nat.testBit_two_pow] at h2
      have e : r = j := by simpa using h2
      subst e
      simp [h1, hf]
    · rw [if_neg hf] at h2
      simp at h2
  · intro h
    have h' : j < n ∧ f j = true := by simpa using h
    exact ⟨j, h'.1, by simp [h'.2]⟩
theorem zs_mk_lt (f : Nat → Bool) (n : Nat) : zs_mk f n < 2 ^ n := by
  apply zs_or_lt
  intro r hr
  have h := Nat.pow_lt_pow_right (a := 2) (by decide) hr
  have h0 : 0 < 2 ^ n := Nat.two_pow_pos n
  split <;> omega
theorem zs_ext {a b : Nat} (h : ∀ j, a.testBit j = true ↔ b.testBit j = true) : a = b := Nat.eq_of_testBit_eq fun j => Bool.eq_iff_iff.mpr (h j)
theorem zs_lt_bit {a n j : Nat} (h : a < 2 ^ n) (hb : a.testBit j = true) : j < n := by
  rcases Nat.lt_or_ge j n with q | q
  · exact q
  · have : a.testBit j = false := Nat.testBit_lt_two_pow (Nat.lt_of_lt_of_le h (Nat.pow_le_pow_right (by decide) q))
    rw [this] at hb; cases hb
theorem zs_nan_bit (a b j : Nat) : (a ^^^ (a &&& b)).testBit j = (a.testBit j && !b.testBit j) := by
  rw [Nat.testBit_xor, Nat.testBit_and]
  cases a.testBit j <;> cases b.testBit j <;> rfl
theorem zs_nan_lt {a b n : Nat} (h : a < 2 ^ n) : a ^^^ (a &&& b) < 2 ^ n := Nat.xor_lt_two_pow h (by rw [Nat.and_comm]; exact Nat.and_lt_two_pow _ h)
theorem zs_mk_t {f : Nat → Bool} {i : Nat} (h : f i = true) : zs_mk f (i + 1) = zs_mk f i ||| 2 ^ i := by
  show zs_or _ i ||| (if f i then 2 ^ i else 0) = _
  rw [if_pos h]; rfl
theorem zs_mk_f {f : Nat → Bool} {i : Nat} (h : f i = false) : zs_mk f (i + 1) = zs_mk f i ||| 0 := by
  show zs_or _ i ||| (if f i then 2 ^ i else 0) = _
  rw [if_neg (by rw [h]; decide)]; rfl
theorem zu_s {f : Nat → Int32} {k : Nat} {x : Int32} : upd f k x k = x := pk_us
theorem zu_n {f : Nat → Int32} {k j : Nat} {x : Int32} (h : j ≠ k) : upd f k x j = f j := pk_un h
theorem zu_e (f : Nat → Int32) (k j : Nat) (x : Int32) : upd f k x j = if j = k then x else f j := rfl

