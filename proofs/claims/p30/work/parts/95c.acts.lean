abbrev zF : Type := Nat → Int32
theorem zh_o_E {n : Nat} {hs : Nat → zD} (hE : ∀ i, i ≤ n → zE (hs i)) {i : Nat} (h : i < zh_n n) : zE (zh_o n hs i) := by
  by_cases e : n = 8
  · rw [zh_o_8 e]; rw [zh_n_8 e] at h; exact hE _ (by omega)
  · rw [zh_o_S e]; rw [zh_n_S e] at h; exact hE _ (by omega)
