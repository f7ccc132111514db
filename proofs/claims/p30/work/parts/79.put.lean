/-! cells put back in one pass, for long worlds -/
def ga_asc : List Nat → Bool
  | [] => true
  | [_] => true
  | i :: j :: r => Nat.blt i j && ga_asc (j :: r)
def ga_pt : Nat → va_W → List Nat → va_W → va_W
  | _, [], _, _ => []
  | j, c :: cs, i :: is, e :: es => if Nat.beq i j then e :: ga_pt (j + 1) cs is es else c :: ga_pt (j + 1) cs (i :: is) (e :: es)
  | _, c :: cs, _, _ => c :: cs
theorem ga_asc_tail {i : Nat} {is : List Nat} (h : ga_asc (i :: is) = true) : ga_asc is = true ∧ ∀ x ∈ is, i < x := by
  induction is generalizing i with
  | nil => exact ⟨rfl, fun x h => absurd h List.not_mem_nil⟩
  | cons j r ih =>
    have h' : (Nat.blt i j && ga_asc (j :: r)) = true := h
    rw [Bool.and_eq_true] at h'
    have hij : i < j := Nat.blt_eq.mp h'.1
    refine ⟨h'.2, fun x hx => ?_⟩
    rcases List.mem_cons.mp hx with rfl | hx
    · exact hij
    · exact Nat.lt_trans hij ((ih h'.2).2 x hx)
theorem ga_pt_get : ∀ (ws : va_W) (is : List Nat) (es : va_W) (j : Nat), ga_asc is = true → (∀ x ∈ is, j ≤ x) → is.length = es.length → ∀ k : Nat, (∃ t : Nat, is[t]? = some (j + k) ∧ (k < ws.length → (ga_pt j ws is es)[k]? = es[t]?)) ∨ (j + k ∉ is ∧ (ga_pt j ws is es)[k]? = ws[k]?) := by
  intro ws
  induction ws with
  | nil =>
    intro is es j _ _ _ k
    by_cases h : j + k ∈ is
    · obtain ⟨t, ht⟩ := List.getElem?_of_mem h
      exact Or.inl ⟨t, ht, fun h => absurd h (Nat.not_lt_zero _)⟩
    · exact Or.inr ⟨h, by cases is <;> cases es <;> rfl⟩
  | cons c cs ih =>
    intro is es j ha hj hl k
    cases is with
    | nil => exact Or.inr ⟨List.not_mem_nil, by cases es <;> rfl⟩
    | cons i is =>
      cases es with
      | nil => simp at hl
      | cons e es =>
        have hl' : is.length = es.length := by simpa using hl
        obtain ⟨ha', hlt⟩ := ga_asc_tail ha
        have hji : j ≤ i := hj i List.mem_cons_self
        by_cases hij : i = j
        · subst hij
          have e0 : ga_pt i (c :: cs) (i :: is) (e :: es) = e :: ga_pt (i + 1) cs is es := by
            show (if Nat.beq i i then _ else _) = _
            rw [if_pos (Nat.beq_refl i)]
          rw [e0]
          cases k with
          | zero => exact Or.inl ⟨0, by simp, fun _ => by simp⟩
          | succ k =>
            rcases ih is es (i + 1) ha' (fun x hx => hlt x hx) hl' k with ⟨t, h1, h2⟩ | ⟨h1, h2⟩
            · refine Or.inl ⟨t + 1, ?_, fun hk => ?_⟩
              · rw [List.getElem?_cons_succ, h1]; congr 1; omega
              · rw [List.getElem?_cons_succ, List.getElem?_cons_succ]
                exact h2 (by simpa using hk)
            · refine Or.inr ⟨fun h => ?_, ?_⟩
              · rcases List.mem_cons.mp h with h | h
                · omega
                · exact h1 (by rw [show i + 1 + k = i + (k + 1) by omega]; exact h)
              · rw [List.getElem?_cons_succ, List.getElem?_cons_succ]; exact h2
        · have e0 : ga_pt j (c :: cs) (i :: is) (e :: es) = c :: ga_pt (j + 1) cs (i :: is) (e :: es) := by
            show (if Nat.beq i j then _ else _) = _
            rw [if_neg (fun h => hij (Nat.eq_of_beq_eq_true h))]
          rw [e0]
          have hall : ∀ x ∈ i :: is, j + 1 ≤ x := fun x hx => by
            rcases List.mem_cons.mp hx with rfl | hx
            · omega
            · have := hlt x hx; omega
          cases k with
          | zero =>
            refine Or.inr ⟨fun h => ?_, by simp⟩
            have := hall _ h
            omega
          | succ k =>
            rcases ih (i :: is) (e :: es) (j + 1) ha hall hl k with ⟨t, h1, h2⟩ | ⟨h1, h2⟩
            · refine Or.inl ⟨t, by rw [h1]; congr 1; omega, fun hk => ?_⟩
              rw [List.getElem?_cons_succ]
              exact h2 (by simpa using hk)
            · refine Or.inr ⟨fun h => h1 (by rw [show j + 1 + k = j + (k + 1) by omega]; exact h), ?_⟩
              rw [List.getElem?_cons_succ, List.getElem?_cons_succ]; exact h2
theorem ga_asc_inj : ∀ {is : List Nat}, ga_asc is = true → ∀ {s t x : Nat}, is[s]? = some x → is[t]? = some x → s = t := by
  intro is
  induction is with
  | nil => intro _ s t x h; simp at h
  | cons i is ih =>
    intro ha s t x hs ht
    obtain ⟨ha', hlt⟩ := ga_asc_tail ha
    cases s with
    | zero =>
      cases t with
      | zero => rfl
      | succ t =>
        have e : i = x := by simpa using hs
        rw [List.getElem?_cons_succ] at ht
        have := hlt x (List.mem_of_getElem? ht)
        omega
    | succ s =>
      rw [List.getElem?_cons_succ] at hs
      cases t with
      | zero =>
        have e : i = x := by simpa using ht
        have := hlt x (List.mem_of_getElem? hs)
        omega
      | succ t =>
        rw [List.getElem?_cons_succ] at ht
        rw [ih ha' hs ht]
theorem ga_pt_eq {ws es : va_W} {is : List Nat} (h1 : ga_asc is = true) (h2 : is.length = es.length) (h3 : is.all (fun i => Nat.blt i ws.length) = true) : ga_put ws is es = ga_pt 0 ws is es := by
  have hlt : ∀ i ∈ is, i < ws.length := fun i hi => Nat.blt_eq.mp (List.all_eq_true.mp h3 i hi)
  apply List.ext_getElem?
  intro k
  rcases ga_put_get is es ws h2 hlt k with ⟨t, a1, a2⟩ | ⟨a1, a2⟩
  · rcases ga_pt_get ws is es 0 h1 (fun _ _ => Nat.zero_le _) h2 k with ⟨u, b1, b2⟩ | ⟨b1, b2⟩
    · have e := ga_asc_inj h1 a1 (by rw [b1]; congr 1; omega)
      subst e
      rw [a2, b2 (hlt k (List.mem_of_getElem? a1))]
    · exact absurd (List.mem_of_getElem? a1) (by rw [show k = 0 + k by omega]; exact b1)
  · rcases ga_pt_get ws is es 0 h1 (fun _ _ => Nat.zero_le _) h2 k with ⟨u, b1, b2⟩ | ⟨b1, b2⟩
    · exact absurd (List.mem_of_getElem? b1) (by rw [show 0 + k = k by omega]; exact a1)
    · rw [a2, b2]
theorem ga_pto {G : ga_G} {k n pc : Nat} {ws es : va_W} {is : List Nat} {lv : ga_L} {st : List Value} (ws' : va_W) (st' : List Value) (h1 : ga_asc is = true) (h2 : is.length = es.length) (h3 : is.all (fun i => Nat.blt i ws.length) = true) (hw : ga_pt 0 ws is es = ws') (hs : st = st') (h : G k n ws' pc lv st') : G k n (ga_put ws is es) pc lv st := by
  subst hs
  rw [ga_pt_eq h1 h2 h3, hw]
  exact h
