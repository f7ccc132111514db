/-! letters put in, taken out, classes, kinds: what is done to d, and on both sides -/
def zo_ins (d : zD) (a x : Nat) : zD := (d.1, d.2.1, d.2.2.insertIdx a x)
def zo_ers (d : zD) (a : Nat) : zD := (d.1, d.2.1, d.2.2.eraseIdx a)
def zo_tel (d : zD) (l x : Nat) : zD := (fun j => if j = l then x else d.1 j, d.2.1, d.2.2)
def zo_ren (d : zD) (r x : Nat) : zD := (d.1, fun j => if j = r then x else d.2.1 j, d.2.2)
theorem z_len_ins {d : zD} {a : Nat} (x : Nat) (h : a ≤ z_len d) : z_len (zo_ins d a x) = z_len d + 1 := by
  show (d.2.2.insertIdx a x).length = d.2.2.length + 1
  exact List.length_insertIdx_of_le_length h x
theorem z_at_ins {d : zD} {a : Nat} (x : Nat) (h : a ≤ z_len d) (j : Nat) : z_at (zo_ins d a x) j = if j < a then z_at d j else if j = a then x else z_at d (j - 1) := by
  show (d.2.2.insertIdx a x).getD j 0 = if j < a then d.2.2.getD j 0 else if j = a then x else d.2.2.getD (j - 1) 0
  have h' : a ≤ d.2.2.length := h
  rw [List.getD_eq_getElem?_getD, List.getElem?_insertIdx]
  by_cases h1 : j < a
  · rw [if_pos h1, if_pos h1, List.getD_eq_getElem?_getD]
  · rw [if_neg h1, if_neg h1]
    by_cases h2 : j = a
    · rw [if_pos h2, if_pos h2]
      rw [if_pos (by omega)]
      rfl
    · rw [if_neg h2, if_neg h2, List.getD_eq_getElem?_getD]
theorem z_len_ers {d : zD} {a : Nat} (h : a < z_len d) : z_len (zo_ers d a) = z_len d - 1 := by
  show (d.2.2.eraseIdx a).length = d.2.2.length - 1
  exact List.length_eraseIdx_of_lt h
theorem z_at_ers (d : zD) (a j : Nat) : z_at (zo_ers d a) j = if j < a then z_at d j else z_at d (j + 1) := by
  show (d.2.2.eraseIdx a).getD j 0 = if j < a then d.2.2.getD j 0 else d.2.2.getD (j + 1) 0
  rw [List.getD_eq_getElem?_getD, List.getElem?_eraseIdx]
  by_cases h1 : j < a
  · rw [if_pos h1, if_pos h1, List.getD_eq_getElem?_getD]
  · rw [if_neg h1, if_neg h1, List.getD_eq_getElem?_getD]
theorem zE.ins {d : zD} (hd : zE d) {a x : Nat} (ha : a ≤ z_len d) (hl : z_len d < 30) (hx : x < 26) : zE (zo_ins d a x) := by
  refine ⟨hd.1, hd.2.1, ?_, fun y hy => ?_⟩
  · have := z_len_ins x ha
    show z_len (zo_ins d a x) ≤ 30
    omega
  · have hy' : y ∈ d.2.2.insertIdx a x := hy
    rcases (List.mem_insertIdx (show a ≤ d.2.2.length from ha)).mp hy' with h | h
    · omega
    · exact hd.2.2.2 y h
theorem zE.ers {d : zD} (hd : zE d) (a : Nat) : zE (zo_ers d a) := by
  refine ⟨hd.1, hd.2.1, ?_, fun y hy => ?_⟩
  · have h := hd.2.2.1
    have h2 : (d.2.2.eraseIdx a).length ≤ d.2.2.length := List.length_eraseIdx_le ..
    exact Nat.le_trans h2 h
  · exact hd.2.2.2 y (List.mem_of_mem_eraseIdx (show y ∈ d.2.2.eraseIdx a from hy))
theorem zE.tel {d : zD} (hd : zE d) {l x : Nat} (hx : x < 6) : zE (zo_tel d l x) := by
  refine ⟨fun j hj => ?_, hd.2.1, hd.2.2.1, hd.2.2.2⟩
  show (if j = l then x else d.1 j) < 6
  split
  · exact hx
  · exact hd.1 j hj
theorem zE.ren {d : zD} (hd : zE d) {r x : Nat} (hx : x < 4) : zE (zo_ren d r x) := by
  refine ⟨hd.1, fun j hj => ?_, hd.2.2.1, hd.2.2.2⟩
  show (if j = r then x else d.2.1 j) < 4
  split
  · exact hx
  · exact hd.2.1 j hj
/-! the class's stock -/
theorem sx_putIn {len a x : Nat} {line : Nat → Int32} {f : Nat → Nat} {K : Int32 → (Nat → Int32) → Prop} (hl : len < 30) (ha : a ≤ len) (hf : ∀ j, j < len → line j = nI (f j))
    (h : ∀ line' : Nat → Int32, (∀ j, j ≤ len → line' j = nI (if j < a then f j else if j = a then x else f (j - 1))) → K (nI (len + 1)) line') : wp_X6_putIn (nI len) line (nI a) (nI x) K := by
  unfold wp_X6_putIn
  rw [zn_lt0 (by omega), zn_lt (by omega) (by omega), zn_lt (by omega) (by omega)]
  refine ⟨fun h => h.elim, fun _ => ⟨fun h => by omega, fun _ => ⟨fun _ => ?_, fun h => by omega⟩⟩⟩
  intro E hE
  have key : ∃ n : Nat, lp_X6_putIn_27 (nI a) E n (nI (a + (len - a))) line := by
    refine zl_down (σ := Nat → Int32) (fun n i s => lp_X6_putIn_27 (nI a) E n (nI (a + i)) s) (fun i s => a + i ≤ len ∧ (∀ j, j < len → j ≤ a + i → s j = nI (f j)) ∧ ∀ j, a + i < j → j ≤ len → s j = nI (f (j - 1))) ?_ ?_ (len - a) line ⟨by omega, fun j h1 _ => hf j h1, fun j h1 h2 => by omega⟩
    · rintro n s ⟨h0, h1, h2⟩
      rw [lp_X6_putIn_27]
      refine zb_t (by rw [zn_le (by omega) (by omega)]; omega) (hE _ ?_)
      rw [zn_in (by omega), zn_cl (by omega)]
      refine ⟨by omega, ?_⟩
      rintro _ rfl
      rintro _ rfl
      rw [zn_add]
      refine h _ (fun j hj => ?_)
      by_cases e : j = a
      · subst e; rw [zu_s, if_neg (Nat.lt_irrefl _), if_pos rfl]
      · rw [zu_n e]
        by_cases e2 : j < a
        · rw [if_pos e2]; exact h1 j (by omega) (by omega)
        · rw [if_neg e2, if_neg e]; exact h2 j (by omega) hj
    · rintro n i s ⟨h0, h1, h2⟩ ih
      rw [lp_X6_putIn_27]
      refine zb_f (by rw [zn_le (by omega) (by omega)]; omega) ?_
      rw [zn_sub (by omega), zn_in (by omega), zn_in (by omega), zn_cl (by omega), zn_cl (by omega)]
      refine ⟨by omega, ?_⟩
      rintro _ rfl
      refine ⟨by omega, ?_⟩
      rintro _ rfl
      rintro _ rfl
      rw [zn_m1 (by omega), show a + (i + 1) - 1 = a + i by omega]
      refine ih _ ⟨by omega, fun j h3 h4 => ?_, fun j h3 h4 => ?_⟩
      · rw [zu_n (by omega)]; exact h1 j h3 (by omega)
      · by_cases e : j = a + (i + 1)
        · subst e
          rw [zu_s, show a + (i + 1) - 1 = a + i by omega]
          exact h1 _ (by omega) (by omega)
        · rw [zu_n e]; exact h2 j (by omega) h4
  rw [show a + (len - a) = len by omega] at key
  exact key
theorem sx_takeOut {len a : Nat} {line : Nat → Int32} {f : Nat → Nat} {K : Int32 → (Nat → Int32) → Prop} (hl : len ≤ 30) (ha : a < len) (hf : ∀ j, j < len → line j = nI (f j))
    (h : ∀ line' : Nat → Int32, (∀ j, j < len - 1 → line' j = nI (if j < a then f j else f (j + 1))) → K (nI (len - 1)) line') : wp_X6_takeOut (nI len) line (nI a) K := by
  unfold wp_X6_takeOut
  rw [zn_lt0 (by omega), zn_lt (by omega) (by omega)]
  refine ⟨fun h => h.elim, fun _ => ⟨fun _ => ?_, fun h => by omega⟩⟩
  rintro _ rfl
  rw [zn_sub (by omega)]
  intro E hE
  refine zl_inv (σ := Nat → Int32) (fun n i s => lp_X6_takeOut_25 (nI (len - 1)) E n (nI i) s) (fun i s => a ≤ i ∧ (∀ j, j < i → s j = nI (if j < a then f j else f (j + 1))) ∧ ∀ j, i ≤ j → j < len → s j = nI (f j)) (len - 1) ?_ ?_ a line (by omega) ⟨Nat.le_refl _, fun j hj => by rw [if_pos hj]; exact hf j (by omega), fun j _ hj => hf j hj⟩
  · rintro n s ⟨h0, h1, h2⟩
    rw [lp_X6_takeOut_25]
    exact zb_t (by rw [zn_le (by omega) (by omega)]; omega) (hE _ (h s h1))
  · rintro n i s hi ⟨h0, h1, h2⟩ ih
    rw [lp_X6_takeOut_25]
    refine zb_f (by rw [zn_le (by omega) (by omega)]; omega) ?_
    rw [zn_add, zn_in (by omega), zn_in (by omega), zn_cl (by omega), zn_cl (by omega)]
    refine ⟨by omega, ?_⟩
    rintro _ rfl
    refine ⟨by omega, ?_⟩
    rintro _ rfl
    rintro _ rfl
    refine ih _ ⟨by omega, fun j hj => ?_, fun j h3 h4 => ?_⟩
    · by_cases e : j = i
      · subst e
        rw [zu_s, if_neg (by omega)]
        exact h2 _ (by omega) (by omega)
      · rw [zu_n e]; exact h1 j (by omega)
    · rw [zu_n (by omega)]; exact h2 j (by omega) h4
theorem sx_setClass {l : Nat} {x : Int32} {cl : Nat → Int32} {K : (Nat → Int32) → Prop} (hl : l < 26) (h : K (upd cl l x)) : wp_X6_setClass cl (nI l) x K := by
  unfold wp_X6_setClass
  refine sx_isLetter (by omega) (fun _ => zb_f zi_1 ?_) (fun h => by omega)
  rw [zn_in (by omega), zn_cl (by omega)]
  exact ⟨hl, fun f e => by rw [e]; exact h⟩
theorem sx_setKind {r : Nat} {x : Int32} {kd : Nat → Int32} {K : (Nat → Int32) → Prop} (hr : r < 4) (h : K (upd kd r x)) : wp_X6_setKind kd (nI r) x K := by
  unfold wp_X6_setKind
  rw [zn_lt0 (by omega), zn_le (by omega) (by omega), zn_in (by omega), zn_cl (by omega)]
  exact ⟨fun h => h.elim, fun _ => ⟨fun h => by omega, fun _ => ⟨hr, fun f e => by rw [e]; exact h⟩⟩⟩
theorem xD.ins {d : zD} {l : Int32} {c k f : Nat → Int32} (hD : xD d l c k f) {a x : Nat} (ha : a ≤ z_len d) {f' : Nat → Int32} (hf : ∀ j, j ≤ z_len d → f' j = nI (if j < a then z_at d j else if j = a then x else z_at d (j - 1))) : xD (zo_ins d a x) (nI (z_len d + 1)) c k f' := by
  refine ⟨by rw [z_len_ins x ha], hD.2.1, hD.2.2.1, fun j hj => ?_⟩
  rw [z_len_ins x ha] at hj
  rw [z_at_ins x ha, hf j (by omega)]
theorem xD.ers {d : zD} {l : Int32} {c k f : Nat → Int32} (hD : xD d l c k f) {a : Nat} (ha : a < z_len d) {f' : Nat → Int32} (hf : ∀ j, j < z_len d - 1 → f' j = nI (if j < a then z_at d j else z_at d (j + 1))) : xD (zo_ers d a) (nI (z_len d - 1)) c k f' := by
  refine ⟨by rw [z_len_ers ha], hD.2.1, hD.2.2.1, fun j hj => ?_⟩
  rw [z_len_ers ha] at hj
  rw [z_at_ers, hf j hj]
theorem xD.tel {d : zD} {l : Int32} {c k f : Nat → Int32} (hD : xD d l c k f) (a x : Nat) : xD (zo_tel d a x) l (upd c a (nI x)) k f := by
  refine ⟨hD.1, fun j hj => ?_, hD.2.2.1, hD.2.2.2⟩
  show upd c a (nI x) j = nI (if j = a then x else z_cls d j)
  rw [zu_e]
  split
  · rfl
  · exact hD.2.1 j hj
theorem xD.ren {d : zD} {l : Int32} {c k f : Nat → Int32} (hD : xD d l c k f) (a x : Nat) : xD (zo_ren d a x) l c (upd k a (nI x)) f := by
  refine ⟨hD.1, hD.2.1, fun j hj => ?_, hD.2.2.2⟩
  show upd k a (nI x) j = nI (if j = a then x else z_knd d j)
  rw [zu_e]
  split
  · rfl
  · exact hD.2.2.1 j hj
theorem zv_cpy {f g : Nat → Int32} {n j : Nat} (hj : j < n) : va_cpy f g 0 0 n j = f j := sb_cpy0 hj
/-! the model's slots -/
theorem mD.frame {s s' : Nat → Int32} {b : Nat} {d : zD} (h : mD s b d) (hd : zE d) (hs : ∀ j, b ≤ j → j < b + 61 → s' j = s j) : mD s' b d := by
  have hl : z_len d ≤ 30 := hd.2.2.1
  refine ⟨fun j hj => ?_, fun j hj => ?_, ?_, fun j hj => ?_⟩
  · rw [hs _ (by omega) (by omega)]; exact h.1 j hj
  · rw [hs _ (by omega) (by omega)]; exact h.2.1 j hj
  · rw [hs _ (by omega) (by omega)]; exact h.2.2.1
  · rw [hs _ (by omega) (by omega)]; exact h.2.2.2 j hj
theorem mD.copy {s s' : Nat → Int32} {b b' : Nat} {d : zD} (h : mD s b d) (hd : zE d) (hs : ∀ j, j < 61 → s' (b' + j) = s (b + j)) : mD s' b' d := by
  have hl : z_len d ≤ 30 := hd.2.2.1
  refine ⟨fun j hj => ?_, fun j hj => ?_, ?_, fun j hj => ?_⟩
  · rw [hs _ (by omega)]; exact h.1 j hj
  · rw [Nat.add_assoc, hs _ (by omega), ← Nat.add_assoc]; exact h.2.1 j hj
  · rw [hs _ (by omega)]; exact h.2.2.1
  · rw [Nat.add_assoc, hs _ (by omega), ← Nat.add_assoc]; exact h.2.2.2 j hj
