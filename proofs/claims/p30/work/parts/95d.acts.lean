theorem mD.tel {s s' : Nat → Int32} {d : zD} {a x : Nat} (hm : mD s 0 d) (hd : zE d) (ha : a < 26) (hs : s' = upd s a (nI x)) : mD s' 0 (zo_tel d a x) := by
  subst hs
  have hl : z_len d ≤ 30 := hd.2.2.1
  refine ⟨fun j hj => ?_, fun j hj => ?_, ?_, fun j hj => ?_⟩
  · rw [Nat.zero_add]
    show upd s a (nI x) j = nI (if j = a then x else z_cls d j)
    rw [zu_e]
    split
    · rfl
    · exact hm.z.1 j hj
  · rw [zu_n (by omega)]; exact hm.2.1 j hj
  · rw [zu_n (by omega)]; exact hm.2.2.1
  · have hj' : j < z_len d := hj
    rw [zu_n (by omega)]; exact hm.2.2.2 j hj'
theorem mD.ren {s s' : Nat → Int32} {d : zD} {a x : Nat} (hm : mD s 0 d) (ha : a < 4) (hs : s' = upd s (26 + a) (nI x)) : mD s' 0 (zo_ren d a x) := by
  subst hs
  refine ⟨fun j hj => ?_, fun j hj => ?_, ?_, fun j hj => ?_⟩
  · rw [zu_n (by omega)]; exact hm.1 j hj
  · show upd s (26 + a) (nI x) (0 + 26 + j) = nI (if j = a then x else z_knd d j)
    rw [zu_e]
    by_cases e : j = a
    · rw [if_pos (by omega), if_pos e]
    · rw [if_neg (by omega), if_neg e]; exact hm.2.1 j hj
  · rw [zu_n (by omega)]; exact hm.2.2.1
  · rw [zu_n (by omega)]; exact hm.2.2.2 j hj
