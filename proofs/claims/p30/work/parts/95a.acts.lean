/-! arguments within what they may be, and outside -/
def zc_out (p : Int32) (n : Nat) : Prop := p < 0 ∨ ∃ j, n ≤ j ∧ j < 2147483648 ∧ p = nI j
theorem zc_at (p : Int32) (n : Nat) : (∃ j, j < n ∧ j < 2147483648 ∧ p = nI j) ∨ zc_out p n := by
  rcases zc_of p with h | ⟨j, hj, e⟩
  · exact Or.inr (Or.inl h)
  · by_cases h : j < n
    · exact Or.inl ⟨j, h, hj, e⟩
    · exact Or.inr (Or.inr ⟨j, by omega, hj, e⟩)
theorem zc_ne {p : Int32} {n : Nat} (h : zc_out p n) {j : Nat} (hj : j < n) (hn : n ≤ 2147483648) : ¬ p = nI j := by
  rintro rfl
  rcases h with h | ⟨i, h1, h2, h3⟩
  · rw [zn_lt0 (by omega)] at h; exact h
  · rw [zn_eq (by omega) h2] at h3; omega
theorem zg_le {p : Int32} {n : Nat} {A B : Prop} (hn : n < 2147483648) (h : zc_out p n) (a : A) : (p < 0 → A) ∧ (¬ p < 0 → (nI n ≤ p → A) ∧ (¬ nI n ≤ p → B)) := by
  rcases h with h | ⟨j, h1, h2, rfl⟩
  · exact zb_t h a
  · exact ⟨fun _ => a, fun _ => zb_t (by rw [zn_le hn h2]; exact h1) a⟩
theorem zg_ltr {p : Int32} {n : Nat} {A B : Prop} (hn : n < 2147483648) (h : zc_out p (n + 1)) (a : A) : (p < 0 → A) ∧ (¬ p < 0 → (nI n < p → A) ∧ (¬ nI n < p → B)) := by
  rcases h with h | ⟨j, h1, h2, rfl⟩
  · exact zb_t h a
  · exact ⟨fun _ => a, fun _ => zb_t (by rw [zn_lt hn h2]; exact h1) a⟩
theorem zg_lt {p : Int32} {n : Nat} {A B : Prop} (hn : n < 2147483648) (h : zc_out p n) (a : A) : (p < 0 → A) ∧ (¬ p < 0 → (p < nI n → B) ∧ (¬ p < nI n → A)) := by
  rcases h with h | ⟨j, h1, h2, rfl⟩
  · exact zb_t h a
  · exact ⟨fun _ => a, fun _ => zb_f (by rw [zn_lt h2 hn]; omega) a⟩
theorem zg_ler {p : Int32} {n : Nat} {A B : Prop} (hn : n < 2147483648) (h : zc_out p (n + 1)) (a : A) : (p < 0 → A) ∧ (¬ p < 0 → (p ≤ nI n → B) ∧ (¬ p ≤ nI n → A)) := by
  rcases h with h | ⟨j, h1, h2, rfl⟩
  · exact zb_t h a
  · exact ⟨fun _ => a, fun _ => zb_f (by rw [zn_le h2 hn]; omega) a⟩
theorem zt_le {j n : Nat} {A B : Prop} (hn : n < 2147483648) (h : j < n) (b : B) : (nI j < 0 → A) ∧ (¬ nI j < 0 → (nI n ≤ nI j → A) ∧ (¬ nI n ≤ nI j → B)) :=
  zb_f (nI_pos (by omega)) (zb_f (by rw [zn_le hn (by omega)]; omega) b)
theorem zt_ltr {j n : Nat} {A B : Prop} (hn : n < 2147483648) (h : j ≤ n) (b : B) : (nI j < 0 → A) ∧ (¬ nI j < 0 → (nI n < nI j → A) ∧ (¬ nI n < nI j → B)) :=
  zb_f (nI_pos (by omega)) (zb_f (by rw [zn_lt hn (by omega)]; omega) b)
theorem zt_lt {j n : Nat} {A B : Prop} (hn : n < 2147483648) (h : j < n) (b : B) : (nI j < 0 → A) ∧ (¬ nI j < 0 → (nI j < nI n → B) ∧ (¬ nI j < nI n → A)) :=
  zb_f (nI_pos (by omega)) (zb_t (by rw [zn_lt (by omega) hn]; omega) b)
theorem zt_ler {j n : Nat} {A B : Prop} (hn : n < 2147483648) (h : j ≤ n) (b : B) : (nI j < 0 → A) ∧ (¬ nI j < 0 → (nI j ≤ nI n → B) ∧ (¬ nI j ≤ nI n → A)) :=
  zb_f (nI_pos (by omega)) (zb_t (by rw [zn_le (by omega) hn]; omega) b)
theorem sx_isPlace_t {n a : Nat} {K : Int32 → Prop} (hn : n < 2147483648) (h : a ≤ n) (k : K (nI 1)) : wp_X9_isPlaceOfLine (nI n) (nI a) K := zt_ltr hn h k
theorem sx_isPlace_f {n : Nat} {p : Int32} {K : Int32 → Prop} (hn : n < 2147483648) (h : zc_out p (n + 1)) (k : K (nI 0)) : wp_X9_isPlaceOfLine (nI n) p K := zg_ltr hn h k
theorem sx_isRule_t {n a : Nat} {K : Int32 → Prop} (hn : n < 2147483648) (h : a < n) (k : K (nI 1)) : wp_X9_isRule (nI n) (nI a) K := zt_le hn h k
theorem sx_isRule_f {n : Nat} {p : Int32} {K : Int32 → Prop} (hn : n < 2147483648) (h : zc_out p n) (k : K (nI 0)) : wp_X9_isRule (nI n) p K := zg_le hn h k
theorem sx_isLetter_t {a : Nat} {K : Int32 → Prop} (h : a < 26) (k : K (nI 1)) : wp_X9_isLetter (nI a) K := sx_isLetter (by omega) (fun _ => k) (fun h2 => by omega)
theorem sx_isLetter_f {p : Int32} {K : Int32 → Prop} (h : zc_out p 26) (k : K (nI 0)) : wp_X9_isLetter p K := by
  rcases h with h | ⟨j, h1, h2, rfl⟩
  · exact zb_t h k
  · exact sx_isLetter h2 (fun h => by omega) (fun _ => k)
theorem sx_isClass_t {a : Nat} {K : Int32 → Prop} (h : a < 6) (k : K (nI 1)) : wp_X9_isClass (nI a) K := sx_isClass (by omega) (fun _ => k) (fun h2 => by omega)
theorem sx_isClass_f {p : Int32} {K : Int32 → Prop} (h : zc_out p 6) (k : K (nI 0)) : wp_X9_isClass p K := by
  rcases h with h | ⟨j, h1, h2, rfl⟩
  · exact zb_t h k
  · exact sx_isClass h2 (fun h => by omega) (fun _ => k)
theorem sl_neg {p : Int32} (h : p < 0) : p.toInt64 < lN 0 := by
  have h1 := Int32.lt_iff_toInt_lt.mp h
  rw [Int64.lt_iff_toInt_lt, Int32.toInt_toInt64, lN_toInt (by decide)]
  exact h1
theorem mD.z {s : Nat → Int32} {d : zD} (h : mD s 0 d) : (∀ j, j < 26 → s j = nI (z_cls d j)) ∧ (∀ r, r < 4 → s (26 + r) = nI (z_knd d r)) ∧ s 30 = nI (z_len d) ∧ ∀ j, j < z_len d → s (31 + j) = nI (z_at d j) := by
  refine ⟨fun j hj => ?_, fun r hr => ?_, ?_, fun j hj => ?_⟩
  · have := h.1 j hj; rw [Nat.zero_add] at this; exact this
  · have := h.2.1 r hr; rw [show 0 + 26 + r = 26 + r by omega] at this; exact this
  · exact h.2.2.1
  · have := h.2.2.2 j hj; rw [show 0 + 31 + j = 31 + j by omega] at this; exact this
/-! acts: what was, what is -/
def zA (a w b : Nat) (D D' : zD) : Prop :=
  (a = 0 ∧ w < z_len D' ∧ D = zo_ers D' w ∧ b < 2147483648) ∨ (a = 1 ∧ w ≤ z_len D' ∧ z_len D' < 30 ∧ b < 26 ∧ D = zo_ins D' w b) ∨ (a = 2 ∧ w < 26 ∧ b < 6 ∧ D = zo_tel D' w b) ∨ (a = 3 ∧ w < 4 ∧ b < 4 ∧ D = zo_ren D' w b)
theorem zl_ins_ers {l : List Nat} {a : Nat} (h : a < l.length) : (l.eraseIdx a).insertIdx a (l.getD a 0) = l := by
  apply List.ext_getElem?
  intro i
  rw [List.getElem?_insertIdx, List.length_eraseIdx_of_lt h]
  by_cases h1 : i < a
  · rw [if_pos h1, List.getElem?_eraseIdx, if_pos h1]
  · rw [if_neg h1]
    by_cases h2 : i = a
    · rw [if_pos h2, if_pos (by omega), h2, List.getD_eq_getElem?_getD, List.getElem?_eq_getElem h]; rfl
    · rw [if_neg h2, List.getElem?_eraseIdx, if_neg (by omega), show i - 1 + 1 = i by omega]
theorem zA_ins {d : zD} {a x : Nat} (ha : a ≤ z_len d) (hl : z_len d < 30) (hx : x < 26) : zA 0 a x d (zo_ins d a x) := by
  refine Or.inl ⟨rfl, by rw [z_len_ins x ha]; omega, ?_, by omega⟩
  show d = (d.1, d.2.1, (d.2.2.insertIdx a x).eraseIdx a)
  rw [List.eraseIdx_insertIdx_self]
theorem zA_ers {d : zD} {a : Nat} (hd : zE d) (ha : a < z_len d) : zA 1 a (z_at d a) d (zo_ers d a) := by
  refine Or.inr (Or.inl ⟨rfl, by rw [z_len_ers ha]; omega, by rw [z_len_ers ha]; have : z_len d ≤ 30 := hd.2.2.1; omega, hd.at ha, ?_⟩)
  show d = (d.1, d.2.1, (d.2.2.eraseIdx a).insertIdx a (d.2.2.getD a 0))
  rw [zl_ins_ers (show a < d.2.2.length from ha)]
theorem zA_tel {d : zD} {l x : Nat} (hd : zE d) (hl : l < 26) : zA 2 l (z_cls d l) d (zo_tel d l x) := by
  refine Or.inr (Or.inr (Or.inl ⟨rfl, hl, hd.1 l hl, ?_⟩))
  have e : (fun j => if j = l then d.1 l else if j = l then x else d.1 j) = d.1 := by
    funext j
    by_cases h : j = l
    · rw [if_pos h, h]
    · rw [if_neg h, if_neg h]
  show d = ((fun j => if j = l then d.1 l else if j = l then x else d.1 j), d.2.1, d.2.2)
  rw [e]
theorem zA_ren {d : zD} {l x : Nat} (hd : zE d) (hl : l < 4) : zA 3 l (z_knd d l) d (zo_ren d l x) := by
  refine Or.inr (Or.inr (Or.inr ⟨rfl, hl, hd.2.1 l hl, ?_⟩))
  have e : (fun j => if j = l then d.2.1 l else if j = l then x else d.2.1 j) = d.2.1 := by
    funext j
    by_cases h : j = l
    · rw [if_pos h, h]
    · rw [if_neg h, if_neg h]
  show d = (d.1, (fun j => if j = l then d.2.1 l else if j = l then x else d.2.1 j), d.2.2)
  rw [e]
def zh_n (n : Nat) : Nat := if n = 8 then 8 else n + 1
def zh_o (n : Nat) (hs : Nat → zD) (i : Nat) : zD := if n = 8 then hs (i + 1) else hs i
def zh_p (n : Nat) (hs : Nat → zD) (d : zD) (i : Nat) : zD := if i < zh_n n then zh_o n hs i else d
theorem zh_p_n (n : Nat) (hs : Nat → zD) (d : zD) : zh_p n hs d (zh_n n) = d := if_neg (Nat.lt_irrefl _)
theorem zh_p_lt {n : Nat} (hs : Nat → zD) (d : zD) {i : Nat} (h : i < zh_n n) : zh_p n hs d i = zh_o n hs i := if_pos h
theorem zh_n_le {n : Nat} (hn : n ≤ 8) : zh_n n ≤ 8 := by unfold zh_n; split <;> omega
theorem zh_n_8 {n : Nat} (h : n = 8) : zh_n n = 8 := if_pos h
theorem zh_n_S {n : Nat} (h : ¬ n = 8) : zh_n n = n + 1 := if_neg h
theorem zh_o_8 {n : Nat} (h : n = 8) (hs : Nat → zD) (i : Nat) : zh_o n hs i = hs (i + 1) := if_pos h
theorem zh_o_S {n : Nat} (h : ¬ n = 8) (hs : Nat → zD) (i : Nat) : zh_o n hs i = hs i := if_neg h
theorem zh_p_E {n : Nat} {hs : Nat → zD} {d : zD} (hE : ∀ i, i ≤ n → zE (hs i)) (hd : zE d) : ∀ i, i ≤ zh_n n → zE (zh_p n hs d i) := by
  intro i hi
  by_cases h : i < zh_n n
  · rw [zh_p_lt hs d h]
    by_cases e : n = 8
    · rw [zh_o_8 e]; rw [zh_n_8 e] at h; exact hE _ (by omega)
    · rw [zh_o_S e]; rw [zh_n_S e] at h; exact hE _ (by omega)
  · have : i = zh_n n := by omega
    rw [this, zh_p_n]; exact hd
def xA (n : Nat) (hs : Nat → zD) (A W B : Nat → Int32) : Prop := ∀ i, i < n → ∃ a w b, A i = nI a ∧ W i = nI w ∧ B i = nI b ∧ zA a w b (hs i) (hs (i + 1))
