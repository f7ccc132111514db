/-! the text that the class begins with -/
def gx_tn : List Nat := [99, 49, 44, 97, 101, 105, 111, 117, 59, 99, 50, 44, 98, 99, 100, 102, 103, 59, 99, 51, 44, 120, 121, 122, 59, 99, 53, 44, 113, 59, 114, 48, 44, 38, 43, 50, 63, 49, 59, 114, 49, 44, 38, 49, 42, 124, 49, 50, 59, 114, 50, 44, 38, 51, 38, 46, 51, 59, 114, 48, 44, 43, 51, 59, 115, 98, 97, 113, 98, 120, 121, 122, 97, 113, 113, 101, 98, 99, 120, 113, 122, 122, 59]
def gx_t (i : Nat) : Nat := gx_tn.getD i 0
theorem gx_t_ch : ∀ k, k < 83 → gx_ch k = nI (gx_t k) := by decide
theorem gx_t_T : zT 83 gx_t := ⟨by omega, by decide⟩
def gx_d4 : zD := z_cs gx_t 28 5 (z_cs gx_t 21 3 (z_cs gx_t 12 2 (z_cs gx_t 3 1 z_d0 5) 5) 3) 1
def gx_q1 : zR := z_ad z_q0 gx_t 33 5
def gx_q2 : zR := z_ad gx_q1 gx_t 42 6
def gx_q3 : zR := z_ad gx_q2 gx_t 52 5
def gx_q4 : zR := z_ad gx_q3 gx_t 61 2
def gx_d5 : zD := z_dk gx_d4 0 0
def gx_d6 : zD := z_dk gx_d5 1 1
def gx_d7 : zD := z_dk gx_d6 2 2
def gx_d8 : zD := z_dk gx_d7 3 0
def gx_d9 : zD := z_dl gx_d8 (z_ll gx_t 65 17)
theorem gx_v1 : z_vr gx_t 33 5 := by
  have h : ∀ i, i < 5 → ((gx_t (33 + i) = 38 ∨ gx_t (33 + i) = 124 ∨ gx_t (33 + i) = 42 ∨ gx_t (33 + i) = 43 ∨ gx_t (33 + i) = 63 ∨ (gx_t (33 + i) = 46 ∨ (48 ≤ gx_t (33 + i) ∧ gx_t (33 + i) ≤ 53))) ∧ 0 < z_du gx_t 33 i) := by decide
  exact ⟨h, by decide, by omega⟩
theorem gx_v2 : z_vr gx_t 42 6 := by
  have h : ∀ i, i < 6 → ((gx_t (42 + i) = 38 ∨ gx_t (42 + i) = 124 ∨ gx_t (42 + i) = 42 ∨ gx_t (42 + i) = 43 ∨ gx_t (42 + i) = 63 ∨ (gx_t (42 + i) = 46 ∨ (48 ≤ gx_t (42 + i) ∧ gx_t (42 + i) ≤ 53))) ∧ 0 < z_du gx_t 42 i) := by decide
  exact ⟨h, by decide, by omega⟩
theorem gx_v3 : z_vr gx_t 52 5 := by
  have h : ∀ i, i < 5 → ((gx_t (52 + i) = 38 ∨ gx_t (52 + i) = 124 ∨ gx_t (52 + i) = 42 ∨ gx_t (52 + i) = 43 ∨ gx_t (52 + i) = 63 ∨ (gx_t (52 + i) = 46 ∨ (48 ≤ gx_t (52 + i) ∧ gx_t (52 + i) ≤ 53))) ∧ 0 < z_du gx_t 52 i) := by decide
  exact ⟨h, by decide, by omega⟩
theorem gx_v4 : z_vr gx_t 61 2 := by
  have h : ∀ i, i < 2 → ((gx_t (61 + i) = 38 ∨ gx_t (61 + i) = 124 ∨ gx_t (61 + i) = 42 ∨ gx_t (61 + i) = 43 ∨ gx_t (61 + i) = 63 ∨ (gx_t (61 + i) = 46 ∨ (48 ≤ gx_t (61 + i) ∧ gx_t (61 + i) ≤ 53))) ∧ 0 < z_du gx_t 61 i) := by decide
  exact ⟨h, by decide, by omega⟩
theorem gx_lt (i e : Nat) (h : ∀ j, j < 83 → i ≤ j → j < e → (97 ≤ gx_t j ∧ gx_t j ≤ 122)) (he : e ≤ 83) : ∀ j, i ≤ j → j < e → z_lt gx_t j := fun j j1 j2 => h j (by omega) j1 j2
theorem gx_s0 : z_sq 83 gx_t 0 = (0, z_q0, z_d0) := rfl
theorem gx_s1 : z_sq 83 gx_t 1 = (9, z_q0, (z_cs gx_t 3 1 z_d0 5)) := by
  have hv : z_vi 83 gx_t z_q0 0 8 := ⟨by omega, by decide, Or.inl ⟨by decide, by omega, by decide, by decide, by decide, gx_lt _ _ (by decide) (by omega), by omega⟩⟩
  have h := z_sq_t (m := 83) (t := gx_t) (k := 0) (e := 8) (by rw [gx_s0]; exact hv)
  rw [gx_s0] at h
  rw [h]
  show ((8 + 1 : Nat), z_tl gx_t 0 8 (z_q0, z_d0)) = _
  rw [z_tl_c (by decide)]
  rfl
theorem gx_s2 : z_sq 83 gx_t 2 = (18, z_q0, (z_cs gx_t 12 2 (z_cs gx_t 3 1 z_d0 5) 5)) := by
  have hv : z_vi 83 gx_t z_q0 9 17 := ⟨by omega, by decide, Or.inl ⟨by decide, by omega, by decide, by decide, by decide, gx_lt _ _ (by decide) (by omega), by omega⟩⟩
  have h := z_sq_t (m := 83) (t := gx_t) (k := 1) (e := 17) (by rw [gx_s1]; exact hv)
  rw [gx_s1] at h
  rw [h]
  show ((17 + 1 : Nat), z_tl gx_t 9 17 (z_q0, (z_cs gx_t 3 1 z_d0 5))) = _
  rw [z_tl_c (by decide)]
  rfl
theorem gx_s3 : z_sq 83 gx_t 3 = (25, z_q0, (z_cs gx_t 21 3 (z_cs gx_t 12 2 (z_cs gx_t 3 1 z_d0 5) 5) 3)) := by
  have hv : z_vi 83 gx_t z_q0 18 24 := ⟨by omega, by decide, Or.inl ⟨by decide, by omega, by decide, by decide, by decide, gx_lt _ _ (by decide) (by omega), by omega⟩⟩
  have h := z_sq_t (m := 83) (t := gx_t) (k := 2) (e := 24) (by rw [gx_s2]; exact hv)
  rw [gx_s2] at h
  rw [h]
  show ((24 + 1 : Nat), z_tl gx_t 18 24 (z_q0, (z_cs gx_t 12 2 (z_cs gx_t 3 1 z_d0 5) 5))) = _
  rw [z_tl_c (by decide)]
  rfl
theorem gx_s4 : z_sq 83 gx_t 4 = (30, z_q0, gx_d4) := by
  have hv : z_vi 83 gx_t z_q0 25 29 := ⟨by omega, by decide, Or.inl ⟨by decide, by omega, by decide, by decide, by decide, gx_lt _ _ (by decide) (by omega), by omega⟩⟩
  have h := z_sq_t (m := 83) (t := gx_t) (k := 3) (e := 29) (by rw [gx_s3]; exact hv)
  rw [gx_s3] at h
  rw [h]
  show ((29 + 1 : Nat), z_tl gx_t 25 29 (z_q0, (z_cs gx_t 21 3 (z_cs gx_t 12 2 (z_cs gx_t 3 1 z_d0 5) 5) 3))) = _
  rw [z_tl_c (by decide)]
  rfl
theorem gx_s5 : z_sq 83 gx_t 5 = (39, gx_q1, gx_d5) := by
  have hv : z_vi 83 gx_t z_q0 30 38 := ⟨by omega, by decide, Or.inr (Or.inl ⟨by decide, by omega, by decide, by decide, by decide, gx_v1, by decide, by decide⟩)⟩
  have h := z_sq_t (m := 83) (t := gx_t) (k := 4) (e := 38) (by rw [gx_s4]; exact hv)
  rw [gx_s4] at h
  rw [h]
  show ((38 + 1 : Nat), z_tl gx_t 30 38 (z_q0, gx_d4)) = _
  rw [z_tl_r (by decide)]
  rfl
theorem gx_s6 : z_sq 83 gx_t 6 = (49, gx_q2, gx_d6) := by
  have hv : z_vi 83 gx_t gx_q1 39 48 := ⟨by omega, by decide, Or.inr (Or.inl ⟨by decide, by omega, by decide, by decide, by decide, gx_v2, by decide, by decide⟩)⟩
  have h := z_sq_t (m := 83) (t := gx_t) (k := 5) (e := 48) (by rw [gx_s5]; exact hv)
  rw [gx_s5] at h
  rw [h]
  show ((48 + 1 : Nat), z_tl gx_t 39 48 (gx_q1, gx_d5)) = _
  rw [z_tl_r (by decide)]
  rfl
theorem gx_s7 : z_sq 83 gx_t 7 = (58, gx_q3, gx_d7) := by
  have hv : z_vi 83 gx_t gx_q2 49 57 := ⟨by omega, by decide, Or.inr (Or.inl ⟨by decide, by omega, by decide, by decide, by decide, gx_v3, by decide, by decide⟩)⟩
  have h := z_sq_t (m := 83) (t := gx_t) (k := 6) (e := 57) (by rw [gx_s6]; exact hv)
  rw [gx_s6] at h
  rw [h]
  show ((57 + 1 : Nat), z_tl gx_t 49 57 (gx_q2, gx_d6)) = _
  rw [z_tl_r (by decide)]
  rfl
theorem gx_s8 : z_sq 83 gx_t 8 = (64, gx_q4, gx_d8) := by
  have hv : z_vi 83 gx_t gx_q3 58 63 := ⟨by omega, by decide, Or.inr (Or.inl ⟨by decide, by omega, by decide, by decide, by decide, gx_v4, by decide, by decide⟩)⟩
  have h := z_sq_t (m := 83) (t := gx_t) (k := 7) (e := 63) (by rw [gx_s7]; exact hv)
  rw [gx_s7] at h
  rw [h]
  show ((63 + 1 : Nat), z_tl gx_t 58 63 (gx_q3, gx_d7)) = _
  rw [z_tl_r (by decide)]
  rfl
theorem gx_s9 : z_sq 83 gx_t 9 = (83, gx_q4, gx_d9) := by
  have hv : z_vi 83 gx_t gx_q4 64 82 := ⟨by omega, by decide, Or.inr (Or.inr ⟨by decide, by omega, gx_lt _ _ (by decide) (by omega), by omega⟩)⟩
  have h := z_sq_t (m := 83) (t := gx_t) (k := 8) (e := 82) (by rw [gx_s8]; exact hv)
  rw [gx_s8] at h
  rw [h]
  show ((82 + 1 : Nat), z_tl gx_t 64 82 (gx_q4, gx_d8)) = _
  rw [z_tl_s (by decide)]
  rfl
theorem gx_sF : z_sF 83 gx_t = (83, gx_q4, gx_d9) := by
  rw [← gx_s9]
  exact z_sF_f (by omega) (z_vi_end (by rw [gx_s9]; exact Nat.le_refl _))
theorem gx_W : zW gx_q4 ∧ zE gx_d9 := by
  obtain ⟨h1, h2, -⟩ := z_sq_W 83 gx_t 9
  rw [gx_s9] at h1 h2
  exact ⟨h1.w (by decide), h2⟩
theorem sx_init {K : Int32 → Int32 → Int32 → Int32 → (Nat → Int32) → Int32 → Int32 → (Nat → Int32) → (Nat → Int32) → (Nat → Int32) → (Nat → Int32) → (Nat → Int32) → Int32 → (Nat → Int32) → (Nat → Int32) → (Nat → Int32) → Int32 → (Nat → Int32) → (Nat → Int32) → (Nat → Int32) → Int32 → (Nat → Int32) → (Nat → Int32) → (Nat → Int32) → Int32 → (Nat → Int32) → (Nat → Int32) → (Nat → Int32) → Int32 → (Nat → Int32) → (Nat → Int32) → (Nat → Int32) → Int32 → Int32 → (Nat → Int32) → (Nat → Int32) → Int32 → Int32 → (Nat → Int32) → Int32 → Int32 → Int32 → Int32 → (Nat → Int32) → (Nat → Int32) → (Nat → Int32) → (Nat → Int32) → (Nat → Int32) → (Nat → Int32) → (Nat → Int32) → (Nat → Int32) → (Nat → Int32) → (Nat → Int32) → Int32 → (Nat → Int32) → (Nat → Int32) → (Nat → Int32) → Int32 → Int32 → (Nat → Int32) → Prop}
    (h : ∀ (tl nu pn ph l fi lo pl pb : Int32) (signs P F Wh T B pf pla pw c k f on ta ps : zF), tl = nI 0 → xR gx_q4 nu pn P F Wh T B → xD gx_d9 l c k f → xS gx_q4 (z_knd gx_d9) fi lo on ta → xP gx_q4 gx_d9 pl pb ps → K (nI 0) tl 0 0 signs nu pn P F Wh T B ph pf pla pw l c k f 0 (fun _ => 0) (fun _ => 0) (fun _ => 0) 0 (fun _ => 0) (fun _ => 0) (fun _ => 0) (nI 0) (fun _ => 0) (fun _ => 0) (fun _ => 0) fi lo on ta pl pb ps 0 0 0 (nI 0) (fun _ => 0) (fun _ => 0) (fun _ => 0) (fun _ => 0) (fun _ => 0) (fun _ => 0) (fun _ => 0) (fun _ => 0) (fun _ => 0) (fun _ => 0) 0 (fun _ => 0) (fun _ => 0) (fun _ => 0) 0 0 (fun _ => 0)) : wp_X9_init K := by
  unfold wp_X9_init
  intro E hE
  refine zl_inv (σ := zF) (fun n i s => lp_X9_init_127 E n (nI i) (nI i) s) (fun i s => ∀ j, j < i → s j = nI (gx_t j)) 83 ?_ ?_ 0 (fun _ => 0) (Nat.zero_le _) (fun j hj => absurd hj (Nat.not_lt_zero _))
  · intro n s hs
    rw [lp_X9_init_127]
    refine zb_t (by rw [zn_le (by omega) (by omega)]; omega) (hE _ _ ?_)
    have hx : xT 83 gx_t (nI 83) s := ⟨rfl, hs⟩
    refine sx_layText gx_t_T hx (by rw [gx_sF]; exact Nat.lt_irrefl _) (by rw [gx_sF]; decide) (fun nu' pn' ph' l' fi' lo' pl' pb' P' F' Wh' T' B' pf' pla' pw' c' k' f' on' ta' ps' a1 a2 a3 a4 => ?_)
    rw [gx_sF] at a1 a2 a3 a4
    unfold wp_X7_clear
    exact h _ _ _ _ _ _ _ _ _ _ _ _ _ _ _ _ _ _ _ _ _ _ _ _ rfl a1 a2 a3 a4
  · intro n i s hi hs ih
    rw [lp_X9_init_127]
    refine zb_f (by rw [zn_le (by omega) (by omega)]; omega) ?_
    rw [zn_in (by omega), zn_cl (by omega), gx_t_ch i hi]
    refine ⟨hi, ?_⟩
    unfold wp_X7_add
    refine zb_f (by rw [zn_le (by omega) (by omega)]; omega) ?_
    rw [zn_in (by omega), zn_cl (by omega)]
    refine ⟨by omega, ?_⟩
    rintro _ rfl _ rfl _ rfl
    rw [zn_add]
    refine ih _ (fun j hj => ?_)
    by_cases e : j = i
    · subst e; exact zu_s
    · rw [zu_n e]; exact hs j (by omega)

