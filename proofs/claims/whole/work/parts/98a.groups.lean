/-! groups: a relation, numbered by the first of each -/
def z_al (f : Nat → Bool) : Nat → Bool
  | 0 => true
  | n + 1 => z_al f n && f n
theorem z_al_S (f : Nat → Bool) (n : Nat) : z_al f (n + 1) = (z_al f n && f n) := rfl
theorem z_al_iff {f : Nat → Bool} : ∀ n, z_al f n = true ↔ ∀ k, k < n → f k = true
  | 0 => ⟨fun _ k hk => absurd hk (Nat.not_lt_zero _), fun _ => rfl⟩
  | n + 1 => by
    rw [z_al_S, Bool.and_eq_true, z_al_iff n]
    constructor
    · rintro ⟨h1, h2⟩ k hk
      by_cases e : k = n
      · subst e; exact h2
      · exact h1 k (by omega)
    · intro h
      exact ⟨fun k hk => h k (by omega), h n (by omega)⟩
theorem z_al_f {f : Nat → Bool} {m n : Nat} (h : z_al f m = false) (hmn : m ≤ n) : z_al f n = false := by
  induction hmn with
  | refl => exact h
  | step _ ih => rw [z_al_S, ih]; rfl
def zV (R : Nat → Nat → Bool) : Prop := (∀ a, R a a = true) ∧ (∀ a b, R a b = true → R b a = true) ∧ ∀ a b c, R a b = true → R b c = true → R a c = true
/-- the first of its group -/
def z_new (R : Nat → Nat → Bool) (i : Nat) : Bool := z_al (fun e => !R e i) i
theorem z_new_t {R : Nat → Nat → Bool} {i : Nat} : z_new R i = true ↔ ∀ e, e < i → R e i = false := by
  unfold z_new
  rw [z_al_iff]
  constructor
  · intro h e he
    have h1 : (!R e i) = true := h e he
    cases h2 : R e i with
    | false => rfl
    | true => rw [h2] at h1; cases h1
  · intro h e he
    show (!R e i) = true
    rw [h e he]; rfl
theorem z_new_f {R : Nat → Nat → Bool} {i : Nat} (h : z_new R i = false) : ∃ e, e < i ∧ R e i = true := by
  apply Classical.byContradiction
  intro hn
  have h1 : z_new R i = true := z_new_t.mpr (fun e he => by
    cases h2 : R e i with
    | false => rfl
    | true => exact absurd ⟨e, he, h2⟩ hn)
  rw [h] at h1; cases h1
theorem z_new_no {R : Nat → Nat → Bool} {e k : Nat} (he : e < k) (h : R e k = true) : z_new R k = false := by
  cases h1 : z_new R k with
  | false => rfl
  | true => have h2 := z_new_t.mp h1 e he; rw [h] at h2; cases h2
theorem z_new_ofN {R : Nat → Nat → Bool} (hV : zV R) : ∀ n i, i < n → ∃ e, e ≤ i ∧ z_new R e = true ∧ R e i = true
  | 0, i, h => absurd h (Nat.not_lt_zero _)
  | n + 1, i, hi => by
    cases h : z_new R i with
    | true => exact ⟨i, Nat.le_refl _, h, hV.1 i⟩
    | false =>
      obtain ⟨e, he, h2⟩ := z_new_f h
      obtain ⟨e', h3, h4, h5⟩ := z_new_ofN hV n e (by omega)
      exact ⟨e', by omega, h4, hV.2.2 _ _ _ h5 h2⟩
theorem z_new_of {R : Nat → Nat → Bool} (hV : zV R) (i : Nat) : ∃ e, e ≤ i ∧ z_new R e = true ∧ R e i = true := z_new_ofN hV (i + 1) i (Nat.lt_succ_self i)
theorem z_new_u {R : Nat → Nat → Bool} (hV : zV R) {a b : Nat} (ha : z_new R a = true) (hb : z_new R b = true) (h : R a b = true) : a = b := by
  rcases Nat.lt_trichotomy a b with q | q | q
  · have h1 := z_new_t.mp hb a q
    rw [h] at h1; cases h1
  · exact q
  · have h1 := z_new_t.mp ha b q
    rw [hV.2.1 _ _ h] at h1; cases h1
/-- the groups' numbers of the first N, as an array holds them -/
def xG (R : Nat → Nat → Bool) (N : Nat) (g : zF) : Prop := ∀ i, i < N → ∃ e, e ≤ i ∧ z_new R e = true ∧ R e i = true ∧ g i = nI (z_ct (z_new R) e)
theorem xG.val {R : Nat → Nat → Bool} {N : Nat} {g : zF} (h : xG R N g) (hN : N ≤ 1024) {i : Nat} (hi : i < N) : ∃ v, v < 1024 ∧ g i = nI v := by
  obtain ⟨e, h1, -, -, h4⟩ := h i hi
  exact ⟨_, by have := z_ct_le (z_new R) e; omega, h4⟩
theorem xG.iff {R : Nat → Nat → Bool} {N : Nat} {g : zF} (hV : zV R) (h : xG R N g) (hN : N ≤ 1024) {i j : Nat} (hi : i < N) (hj : j < N) : g i = g j ↔ R i j = true := by
  obtain ⟨a, a1, a2, a3, a4⟩ := h i hi
  obtain ⟨b, b1, b2, b3, b4⟩ := h j hj
  have ca := z_ct_le (z_new R) a
  have cb := z_ct_le (z_new R) b
  rw [a4, b4, zn_eq (by omega) (by omega)]
  constructor
  · intro e
    have e2 := z_ct_inj a2 b2 e
    subst e2
    exact hV.2.2 _ _ _ (hV.2.1 _ _ a3) b3
  · intro e
    rw [z_new_u hV a2 b2 (hV.2.2 _ _ _ a3 (hV.2.2 _ _ _ e (hV.2.1 _ _ b3)))]
theorem xG.new {R : Nat → Nat → Bool} {k : Nat} {g : zF} (hV : zV R) (h : xG R k g) (hk : z_new R k = true) : xG R (k + 1) (upd g k (nI (z_ct (z_new R) k))) := by
  intro i hi
  by_cases e : i = k
  · subst e; exact ⟨i, Nat.le_refl _, hk, hV.1 i, zu_s⟩
  · rw [zu_n e]; exact h i (by omega)
theorem xG.old {R : Nat → Nat → Bool} {k e : Nat} {g : zF} (hV : zV R) (h : xG R k g) (he : e < k) (h1 : z_new R e = true) (h2 : R e k = true) : xG R (k + 1) (upd g k (g e)) := by
  intro i hi
  by_cases q : i = k
  · subst q
    obtain ⟨e', b1, b2, b3, b4⟩ := h e he
    have e3 := z_new_u hV b2 h1 b3
    subst e3
    exact ⟨e', by omega, h1, h2, by rw [zu_s]; exact b4⟩
  · rw [zu_n q]; exact h i (by omega)
theorem xG.zero {R : Nat → Nat → Bool} {N : Nat} {g : zF} (hR : ∀ a b, R a b = true) (h : ∀ i, i < N → g i = nI 0) : xG R N g := fun i hi => ⟨0, Nat.zero_le _, rfl, hR _ _, h i hi⟩
theorem z_ct_one {R : Nat → Nat → Bool} (hR : ∀ a b, R a b = true) {N : Nat} (hN : 0 < N) : z_ct (z_new R) N = 1 := by
  obtain ⟨m, rfl⟩ : ∃ m, N = 1 + m := ⟨N - 1, by omega⟩
  rw [z_ct_add, z_ct_0 m (fun j _ => z_new_no (e := 0) (by omega) (hR _ _))]
  rfl
theorem zm_ct {f g : Nat → Bool} : ∀ n, (∀ j, j < n → f j = true → g j = true) → z_ct f n ≤ z_ct g n
  | 0, _ => Nat.le_refl _
  | n + 1, h => by
    have h1 := zm_ct n (fun j hj => h j (by omega))
    have h2 := h n (by omega)
    rw [z_ct_S, z_ct_S]
    cases hf : f n with
    | false => show _ + 0 ≤ _; omega
    | true => rw [h2 hf]; omega
/-! ways that are told apart by rows of so many classes -/
def z_rl (go : Nat → Nat → Nat) : Nat → Nat → Nat → Bool
  | 0, _, _ => true
  | t + 1, s, u => z_al (fun x => ((go s x == 0) == (go u x == 0)) && (go s x == 0 || z_rl go t (go s x) (go u x))) 6
theorem z_rl_S (go : Nat → Nat → Nat) (t s u : Nat) : z_rl go (t + 1) s u = z_al (fun x => ((go s x == 0) == (go u x == 0)) && (go s x == 0 || z_rl go t (go s x) (go u x))) 6 := rfl
theorem zk_rl (a b c : Bool) : ((a == b) && (a || c)) = true ↔ (a = b ∧ (a = false → c = true)) := by
  cases a <;> cases b <;> cases c <;> decide
theorem z_rl_iff (go : Nat → Nat → Nat) (t s u : Nat) : z_rl go (t + 1) s u = true ↔ ∀ x, x < 6 → ((go s x = 0 ↔ go u x = 0) ∧ (¬ go s x = 0 → z_rl go t (go s x) (go u x) = true)) := by
  rw [z_rl_S, z_al_iff]
  have key : ∀ x, (((go s x == 0) == (go u x == 0)) && (go s x == 0 || z_rl go t (go s x) (go u x))) = true ↔ ((go s x = 0 ↔ go u x = 0) ∧ (¬ go s x = 0 → z_rl go t (go s x) (go u x) = true)) := fun x =>
    (zk_rl _ _ _).trans (and_congr (Bool.eq_iff_iff.trans (iff_congr beq_iff_eq beq_iff_eq)) (imp_congr beq_eq_false_iff_ne Iff.rfl))
  exact ⟨fun h x hx => (key x).mp (h x hx), fun h x hx => (key x).mpr (h x hx)⟩
theorem z_rl_r (go : Nat → Nat → Nat) : ∀ t s, z_rl go t s s = true
  | 0, _ => rfl
  | t + 1, s => (z_rl_iff go t s s).mpr (fun _ _ => ⟨Iff.rfl, fun _ => z_rl_r go t _⟩)
theorem z_rl_s (go : Nat → Nat → Nat) : ∀ t s u, z_rl go t s u = true → z_rl go t u s = true
  | 0, _, _, _ => rfl
  | t + 1, s, u, h => (z_rl_iff go t u s).mpr (fun x hx => by
    have h1 := (z_rl_iff go t s u).mp h x hx
    exact ⟨h1.1.symm, fun e => z_rl_s go t _ _ (h1.2 (fun z => e (h1.1.mp z)))⟩)
theorem z_rl_t (go : Nat → Nat → Nat) : ∀ t s u w, z_rl go t s u = true → z_rl go t u w = true → z_rl go t s w = true
  | 0, _, _, _, _, _ => rfl
  | t + 1, s, u, w, h, h' => (z_rl_iff go t s w).mpr (fun x hx => by
    have h1 := (z_rl_iff go t s u).mp h x hx
    have h2 := (z_rl_iff go t u w).mp h' x hx
    exact ⟨h1.1.trans h2.1, fun e => z_rl_t go t _ _ _ (h1.2 e) (h2.2 (fun z => e (h1.1.mpr z)))⟩)
theorem z_rl_m (go : Nat → Nat → Nat) : ∀ t s u, z_rl go (t + 1) s u = true → z_rl go t s u = true
  | 0, _, _, _ => rfl
  | t + 1, s, u, h => (z_rl_iff go t s u).mpr (fun x hx => by
    have h1 := (z_rl_iff go (t + 1) s u).mp h x hx
    exact ⟨h1.1, fun e => z_rl_m go t _ _ (h1.2 e)⟩)
def z_rw (go : Nat → Nat → Nat) (L : List Nat) (t i j : Nat) : Bool := z_rl go t (z_nth L i) (z_nth L j)
theorem z_rw_V (go : Nat → Nat → Nat) (L : List Nat) (t : Nat) : zV (z_rw go L t) := ⟨fun _ => z_rl_r go t _, fun _ _ h => z_rl_s go t _ _ h, fun _ _ _ h1 h2 => z_rl_t go t _ _ _ h1 h2⟩
theorem z_rw_m {go : Nat → Nat → Nat} {L : List Nat} {t i j : Nat} (h : z_rw go L (t + 1) i j = true) : z_rw go L t i j = true := z_rl_m go t _ _ h
/-- how many groups after so many times -/
def z_nu (go : Nat → Nat → Nat) (L : List Nat) (t : Nat) : Nat := z_ct (z_new (z_rw go L t)) L.length
theorem z_nu_0 {go : Nat → Nat → Nat} {L : List Nat} (h : 0 < L.length) : z_nu go L 0 = 1 := z_ct_one (fun _ _ => rfl) h
theorem z_nu_le (go : Nat → Nat → Nat) (L : List Nat) (t : Nat) : z_nu go L t ≤ L.length := z_ct_le _ _
theorem z_nu_m (go : Nat → Nat → Nat) (L : List Nat) (t : Nat) : z_nu go L t ≤ z_nu go L (t + 1) := by
  apply zm_ct
  intro j _ h
  rw [z_new_t] at h ⊢
  intro e he
  cases h2 : z_rw go L (t + 1) e j with
  | false => rfl
  | true => have h3 := h e he; rw [z_rw_m h2] at h3; cases h3
/-- the number in the end -/
def z_us (go : Nat → Nat → Nat) (L : List Nat) : Nat → Nat → Nat
  | 0, t => z_nu go L t
  | f + 1, t => if z_nu go L (t + 1) = z_nu go L t then z_nu go L t else z_us go L f (t + 1)
theorem z_us_S (go : Nat → Nat → Nat) (L : List Nat) (f t : Nat) : z_us go L (f + 1) t = if z_nu go L (t + 1) = z_nu go L t then z_nu go L t else z_us go L f (t + 1) := rfl
