/-! all ways: the list both sides make -/
theorem zq_len : ∀ (n : Nat) (L : List Nat), L.Nodup → (∀ s, s ∈ L → s < n) → L.length ≤ n
  | 0, L, _, h => by
    cases L with
    | nil => exact Nat.le_refl _
    | cons a t => exact absurd (h a List.mem_cons_self) (Nat.not_lt_zero _)
  | n + 1, L, hn, h => by
    by_cases e : n ∈ L
    · have h1 := zq_len n (L.erase n) (hn.erase n) (fun s hs => by
        have h2 := hn.mem_erase_iff.mp hs
        have := h s h2.2
        have := h2.1
        omega)
      rw [List.length_erase_of_mem e] at h1
      omega
    · have h1 := zq_len n L hn (fun s hs => by
        have := h s hs
        by_cases e2 : s = n
        · rw [e2] at hs; exact absurd hs e
        · omega)
      omega
def zL (L : List Nat) : Prop := L.Nodup ∧ ∀ s, s ∈ L → s < 1024
theorem zL.len {L : List Nat} (h : zL L) : L.length ≤ 1024 := zq_len 1024 L h.1 h.2
def z_meet (L : List Nat) (s : Nat) : List Nat := if s ∈ L then L else L ++ [s]
theorem z_meet_in {L : List Nat} {s : Nat} (h : s ∈ L) : z_meet L s = L := if_pos h
theorem z_meet_out {L : List Nat} {s : Nat} (h : ¬ s ∈ L) : z_meet L s = L ++ [s] := if_neg h
theorem zL.meet {L : List Nat} (h : zL L) {s : Nat} (hs : s < 1024) : zL (z_meet L s) := by
  by_cases e : s ∈ L
  · rw [z_meet_in e]; exact h
  · rw [z_meet_out e]
    refine ⟨List.nodup_append.mpr ⟨h.1, List.nodup_cons.mpr ⟨List.not_mem_nil, List.nodup_nil⟩, fun a ha b hb => ?_⟩, fun x hx => ?_⟩
    · rw [List.mem_singleton] at hb
      rintro rfl
      exact e (hb ▸ ha)
    · rcases List.mem_append.mp hx with h1 | h1
      · exact h.2 x h1
      · rw [List.mem_singleton] at h1; omega
def z_nth (L : List Nat) (i : Nat) : Nat := L.getD i 0
theorem z_nth_mem {L : List Nat} {i : Nat} (h : i < L.length) : z_nth L i ∈ L := by
  unfold z_nth
  rw [List.getD_eq_getElem?_getD, List.getElem?_eq_getElem h]
  exact List.getElem_mem h
theorem z_nth_of {L : List Nat} {s : Nat} (h : s ∈ L) : ∃ i, i < L.length ∧ z_nth L i = s := by
  obtain ⟨i, hi, e⟩ := List.mem_iff_getElem.mp h
  refine ⟨i, hi, ?_⟩
  unfold z_nth
  rw [List.getD_eq_getElem?_getD, List.getElem?_eq_getElem hi]
  exact e
theorem z_nth_l {L : List Nat} {i : Nat} (M : List Nat) (h : i < L.length) : z_nth (L ++ M) i = z_nth L i := by
  unfold z_nth
  rw [List.getD_eq_getElem?_getD, List.getD_eq_getElem?_getD, List.getElem?_append_left h]
theorem z_nth_r (L : List Nat) (s : Nat) : z_nth (L ++ [s]) L.length = s := by
  unfold z_nth
  rw [List.getD_eq_getElem?_getD, List.getElem?_append_right (Nat.le_refl _), Nat.sub_self]
  rfl
theorem z_nth_meet {L : List Nat} {i : Nat} (s : Nat) (h : i < L.length) : z_nth (z_meet L s) i = z_nth L i := by
  by_cases e : s ∈ L
  · rw [z_meet_in e]
  · rw [z_meet_out e, z_nth_l _ h]
theorem z_len_meet (L : List Nat) (s : Nat) : L.length ≤ (z_meet L s).length := by
  by_cases e : s ∈ L
  · rw [z_meet_in e]; exact Nat.le_refl _
  · rw [z_meet_out e, List.length_append]; omega
theorem z_nth_inj {L : List Nat} (h : L.Nodup) {i j : Nat} (hi : i < L.length) (hj : j < L.length) (e : z_nth L i = z_nth L j) : i = j := by
  unfold z_nth at e
  rw [List.getD_eq_getElem?_getD, List.getElem?_eq_getElem hi, List.getD_eq_getElem?_getD, List.getElem?_eq_getElem hj] at e
  have h1 := h.idxOf_getElem i hi
  have h2 := h.idxOf_getElem j hj
  have e' : L[i] = L[j] := e
  rw [e'] at h1
  omega
/-- what both sides hold of the ways found so far -/
def xL (no : Int32) (L : List Nat) (number : Int32) (stands numberOf : zF) : Prop :=
  number = nI L.length ∧ (∀ i, i < L.length → stands i = nI (z_nth L i) ∧ numberOf (z_nth L i) = nI i) ∧ ∀ s, s < 1024 → ¬ s ∈ L → numberOf s = no
theorem xL.put {no : Int32} {L : List Nat} {number : Int32} {stands numberOf : zF} (hL : zL L) (h : xL no L number stands numberOf) {s : Nat} (hs : s < 1024) (e : ¬ s ∈ L) : xL no (z_meet L s) (nI (L.length + 1)) (upd stands L.length (nI s)) (upd numberOf s (nI L.length)) := by
  rw [z_meet_out e]
  refine ⟨by rw [List.length_append]; rfl, fun i hi => ?_, fun t ht hn => ?_⟩
  · rw [List.length_append] at hi
    have hi' : i < L.length + 1 := hi
    by_cases e2 : i = L.length
    · subst e2
      rw [zu_s, z_nth_r, zu_s]
      exact ⟨rfl, rfl⟩
    · have h3 := h.2.1 i (by omega)
      have h4 : ¬ z_nth L i = s := fun e3 => e (by rw [← e3]; exact z_nth_mem (by omega))
      rw [zu_n e2, z_nth_l _ (by omega), zu_n h4]
      exact h3
  · have h1 : ¬ t = s := fun e3 => hn (by rw [e3]; exact List.mem_append.mpr (Or.inr (List.mem_singleton.mpr rfl)))
    rw [zu_n h1]
    exact h.2.2 t ht (fun h4 => hn (List.mem_append.mpr (Or.inl h4)))
theorem zL.lt {L : List Nat} (hL : zL L) {s : Nat} (hs : s < 1024) (e : ¬ s ∈ L) : L.length < 1024 := by
  have h := (hL.meet hs).len
  rw [z_meet_out e, List.length_append] at h
  exact h
theorem sx_numberFor {L : List Nat} {number : Int32} {stands fewest numberOf : zF} {s : Nat} {fw : Int32} {K : Int32 → Int32 → zF → zF → zF → Prop} (hL : zL L) (hx : xL (-4) L number stands numberOf) (hs : s < 1024)
    (h : ∀ (i : Nat) (stands' fewest' numberOf' : zF), xL (-4) (z_meet L s) (nI (z_meet L s).length) stands' numberOf' → i < (z_meet L s).length → z_nth (z_meet L s) i = s → (∀ j, j < L.length → fewest' j = fewest j) → (¬ s ∈ L → fewest' L.length = fw) → K (nI i) (nI (z_meet L s).length) stands' fewest' numberOf') : wp_X8_numberFor number stands fewest numberOf (nI s) fw K := by
  have hlen := hL.len
  unfold wp_X8_numberFor
  rw [zn_and, show s &&& 1023 = s by rw [show (1023 : Nat) = 2 ^ 10 - 1 from rfl, Nat.and_two_pow_sub_one_eq_mod]; exact Nat.mod_eq_of_lt hs]
  rintro _ rfl
  rw [zn_in (by omega), zn_cl (by omega)]
  refine ⟨hs, ?_⟩
  by_cases e : s ∈ L
  · obtain ⟨i, hi, ei⟩ := z_nth_of e
    have h1 := (hx.2.1 i hi).2
    rw [ei] at h1
    rw [h1]
    rw [z_meet_in e] at h
    refine zb_f2 (by rw [zn_eqm4 (by omega)]; exact id) ⟨hs, ?_⟩
    rw [hx.1]
    exact h i _ _ _ (hx.1 ▸ hx) hi ei (fun _ _ => rfl) (fun h2 => absurd e h2)
  · have h1 := hL.lt hs e
    rw [hx.2.2 s hs e]
    refine zb_t2 rfl ?_
    rw [hx.1, zn_in (by omega), zn_cl (by omega)]
    refine zb_f (by rw [zn_le (by omega) (by omega)]; omega) ⟨h1, ?_⟩
    rintro _ rfl
    refine ⟨h1, ?_⟩
    rintro _ rfl
    refine ⟨hs, ?_⟩
    rintro _ rfl
    rintro _ rfl
    rw [zu_s, zn_add]
    have h2 := xL.put hL hx hs e
    have h3 : (z_meet L s).length = L.length + 1 := by rw [z_meet_out e, List.length_append]; rfl
    rw [h3] at h
    exact ⟨hs, h L.length _ _ _ h2 (Nat.lt_succ_self _) (by rw [z_meet_out e]; exact z_nth_r L s) (fun j hj => zu_n (by omega)) (fun _ => zu_s)⟩
theorem sp_meets {L : List Nat} {ways : Int32} {way at_ : zF} {s : Nat} {K : Int32 → zF → zF → Prop} (hL : zL L) (hx : xL (-1) L ways way at_) (hs : s < 1024)
    (h : ∀ way' at' : zF, xL (-1) (z_meet L s) (nI (z_meet L s).length) way' at' → K (nI (z_meet L s).length) way' at') : wp_X10_meets ways way at_ (nI s) K := by
  have hlen := hL.len
  unfold wp_X10_meets
  rw [zn_in (by omega), zn_cl (by omega)]
  refine ⟨hs, ?_⟩
  by_cases e : s ∈ L
  · obtain ⟨i, hi, ei⟩ := z_nth_of e
    have h1 := (hx.2.1 i hi).2
    rw [ei] at h1
    rw [h1]
    rw [z_meet_in e] at h
    refine zb_t (by rw [zn_0le (by omega)]; trivial) ?_
    rw [hx.1]
    exact h _ _ (hx.1 ▸ hx)
  · have h1 := hL.lt hs e
    rw [hx.2.2 s hs e]
    refine zb_f (by decide) ⟨hs, ?_⟩
    rintro _ rfl
    rw [hx.1, zn_in (by omega), zn_cl (by omega)]
    refine ⟨h1, ?_⟩
    rintro _ rfl
    rintro _ rfl
    rw [zn_add]
    have h2 := xL.put hL hx hs e
    have h3 : (z_meet L s).length = L.length + 1 := by rw [z_meet_out e, List.length_append]; rfl
    rw [h3] at h
    exact h _ _ h2
