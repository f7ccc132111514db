/-! a text written item by item -/
theorem z_rn_cong {t t' : Nat → Nat} {b b' N : Nat} (base : Nat) (tk bh : Nat → Nat) (h : ∀ i, i < N → t (b + i) = t' (b' + i)) : ∀ n, n ≤ N → z_rn t b N base tk bh n = z_rn t' b' N base tk bh n
  | 0, _ => by rw [z_rn, z_rn, z_ac_cong h N (Nat.le_refl _)]
  | n + 1, hn => by rw [z_rn, z_rn, z_rn_cong base tk bh h n (by omega), h (N - 1 - n) (by omega)]
theorem z_ad_cong {t t' : Nat → Nat} {b b' N : Nat} (q : zR) (h : ∀ i, i < N → t (b + i) = t' (b' + i)) : z_ad q t b N = z_ad q t' b' N := by
  unfold z_ad
  rw [z_ac_cong h N (Nat.le_refl _), z_rn_cong _ _ _ h N (Nat.le_refl _)]
theorem z_vr_cong {t t' : Nat → Nat} {b b' N : Nat} (h : ∀ i, i < N → t (b + i) = t' (b' + i)) (hv : z_vr t' b' N) : z_vr t b N := by
  refine ⟨fun i hi => ?_, ?_, hv.2.2⟩
  · rw [h i hi, z_du_cong h i (by omega)]; exact hv.1 i hi
  · rw [z_du_cong h N (Nat.le_refl _)]; exact hv.2.1
/-- the text so far is k items, by which the rules are q -/
def zX (m : Nat) (t : Nat → Nat) (k : Nat) (q : zR) : Prop := ∀ m' t', m ≤ m' → (∀ i, i < m → t' i = t i) → (z_sq m' t' k).1 = m ∧ (z_sq m' t' k).2.1 = q
theorem zX.agree {m k : Nat} {t t2 : Nat → Nat} {q : zR} (h : zX m t k q) (ha : ∀ i, i < m → t2 i = t i) : zX m t2 k q := fun m' t' hm ht => h m' t' hm (fun i hi => (ht i hi).trans (ha i hi))
theorem zX.step {m e k : Nat} {t t2 : Nat → Nat} {q q' : zR} (h : zX m t k q) (hme : m ≤ e) (ha : ∀ i, i < m → t2 i = t i) (hv : ∀ t', (∀ i, i < e + 1 → t' i = t2 i) → ∀ m', e < m' → z_vi m' t' q m e) (hS : ∀ t', (∀ i, i < e + 1 → t' i = t2 i) → ∀ D : zD, (z_tl t' m e (q, D)).1 = q') : zX (e + 1) t2 (k + 1) q' := by
  intro m' t' hm ht
  obtain ⟨h1, h2⟩ := h m' t' (by omega) (fun i hi => (ht i (by omega)).trans (ha i hi))
  have h3 := hv t' ht m' (by omega)
  have h4 : z_vi m' t' (z_sq m' t' k).2.1 (z_sq m' t' k).1 e := by rw [h1, h2]; exact h3
  have h5 := hS t' ht (z_sq m' t' k).2.2
  have h6 : (z_sq m' t' k).2 = (q, (z_sq m' t' k).2.2) := Prod.ext h2 rfl
  rw [← h6] at h5
  rw [z_sq_t h4, h1]
  exact ⟨rfl, h5⟩
theorem zX.fin {m k : Nat} {t : Nat → Nat} {q : zR} (h : zX m t k q) (hk : k ≤ 200) : (z_sF m t).1 = m ∧ (z_sF m t).2.1 = q := by
  have h0 := h m t (Nat.le_refl _) (fun _ _ => rfl)
  rw [z_sF_f hk (z_vi_end (by rw [h0.1]; exact Nat.le_refl _))]
  exact h0
theorem zX_0 (t : Nat → Nat) : zX 0 t 0 z_q0 := fun m' t' _ _ => ⟨rfl, rfl⟩
theorem z_ct_imp {f g : Nat → Bool} (h : ∀ j, f j = true → g j = true) : ∀ n, z_ct f n ≤ z_ct g n
  | 0 => Nat.le_refl _
  | n + 1 => by
    have ih := z_ct_imp h n
    rw [z_ct_S, z_ct_S]
    cases e : f n with
    | false =>
      have : (false : Bool).toNat = 0 := rfl
      omega
    | true => rw [h n e]; omega
theorem z_ct_dis {f g k : Nat → Bool} (h : ∀ j, (f j).toNat + (g j).toNat = (k j).toNat) : ∀ n, z_ct f n + z_ct g n = z_ct k n
  | 0 => rfl
  | n + 1 => by
    have ih := z_ct_dis h n
    have hn := h n
    rw [z_ct_S, z_ct_S, z_ct_S]
    omega
/-- one class' item under way -/
def lI (m0 : Nat) (t0 : Nat → Nat) (x B : Nat) (v6 : Int32) (m : Nat) (t : Nat → Nat) : Prop := (∀ i, i < m0 → t i = t0 i) ∧ ((v6 = nI 0 ∧ m = m0) ∨ (v6 = nI 1 ∧ ∃ cnt, 1 ≤ cnt ∧ cnt ≤ B ∧ m = m0 + 3 + cnt ∧ t m0 = 99 ∧ t (m0 + 1) = 48 + x ∧ t (m0 + 2) = 44 ∧ ∀ j, m0 + 3 ≤ j → j < m → z_lt t j))
theorem sl_lays22 {x m0 : Nat} {t0 cl : Nat → Nat} {w : zF} {E : Int32 → Int32 → Int32 → zF → Prop} (hw : ∀ j, j < 26 → w j = nI (cl j)) (hcl : ∀ j, j < 26 → cl j < 6) (hx5 : x ≤ 5) (hm : m0 ≤ 60) {v4 tl : Int32} {signs : zF} (hT : zT m0 t0) (hx : xT m0 t0 tl signs)
    (h : ∀ (v4 v6 : Int32) (m : Nat) (t : Nat → Nat) (tl : Int32) (signs : zF), zT m t → xT m t tl signs → lI m0 t0 x (z_ct (fun j => cl j == x) 26) v6 m t → E v4 v6 tl signs) : ∃ n, lp_L_lays_22 61 w (nI x) E n v4 (nI 0) (nI 0) tl signs := by
  refine zl_inv (σ := Int32 × Int32 × Nat × (Nat → Nat) × Int32 × zF) (fun n k s => lp_L_lays_22 61 w (nI x) E n s.1 s.2.1 (nI k) s.2.2.2.2.1 s.2.2.2.2.2) (fun k s => zT s.2.2.1 s.2.2.2.1 ∧ xT s.2.2.1 s.2.2.2.1 s.2.2.2.2.1 s.2.2.2.2.2 ∧ lI m0 t0 x (z_ct (fun j => cl j == x) k) s.2.1 s.2.2.1 s.2.2.2.1) 26 ?_ ?_ 0 (v4, nI 0, m0, t0, tl, signs) (Nat.zero_le _) ⟨hT, hx, fun _ _ => rfl, Or.inl ⟨rfl, rfl⟩⟩
  · rintro n ⟨v4, v6, m, t, tl, signs⟩ ⟨g1, g2, g3⟩
    show lp_L_lays_22 61 w (nI x) E (n + 1) v4 v6 (nI 26) tl signs
    rw [lp_L_lays_22]
    exact zb_t (by rw [zn_le (by omega) (by omega)]; omega) (h v4 v6 m t tl signs g1 g2 g3)
  · rintro n k ⟨v4, v6, m, t, tl, signs⟩ hk ⟨g1, g2, g3⟩ ih
    replace g1 : zT m t := g1
    replace g2 : xT m t tl signs := g2
    replace g3 : lI m0 t0 x (z_ct (fun j => cl j == x) k) v6 m t := g3
    have hB := z_ct_le (fun j => cl j == x) k
    have hcS := z_ct_S (fun j => cl j == x) k
    have hc6 := hcl k hk
    show lp_L_lays_22 61 w (nI x) E (n + 1) v4 v6 (nI k) tl signs
    rw [lp_L_lays_22, zn_in (a := k) (by omega), zn_cl (a := k) (by omega), hw k hk, zn_eq (by omega) (by omega), zn_add k 1, zn_add 97 k, zn_add 48 x]
    refine zb_f (by rw [zn_le (by omega) (by omega)]; omega) ⟨by omega, fun e => ?_, fun e => ?_⟩
    · have ex : (cl k == x) = false := by simp [e]
      rintro _ rfl
      refine ih (v4, v6, m, t, tl, signs) ⟨g1, g2, ?_⟩
      show lI m0 t0 x (z_ct (fun j => cl j == x) (k + 1)) v6 m t
      rw [hcS, ex]
      exact g3
    · have ex : (cl k == x) = true := by simp [e]
      have hcS : z_ct (fun j => cl j == x) (k + 1) = z_ct (fun j => cl j == x) k + 1 := by rw [hcS, ex]; rfl
      intro J70 h70
      have e70 : ∀ (m2 : Nat) (t2 : Nat → Nat) (tl2 : Int32) (signs2 : zF) (cnt : Nat), zT m2 t2 → xT m2 t2 tl2 signs2 → (∀ i, i < m0 → t2 i = t0 i) → cnt ≤ z_ct (fun j => cl j == x) k → m2 = m0 + 3 + cnt → t2 m0 = 99 → t2 (m0 + 1) = 48 + x → t2 (m0 + 2) = 44 → (∀ j, m0 + 3 ≤ j → j < m2 → z_lt t2 j) → J70 tl2 signs2 := by
        intro m2 t2 tl2 signs2 cnt a1 a2 a3 a4 a5 a6 a7 a8 a9
        apply h70
        refine sx_write a1 a2 (by omega) (by omega) (by omega) (fun tl3 s3 b1 b2 => ?_)
        rintro _ rfl
        refine ih (nI (m2 + 1), nI 1, m2 + 1, z_up t2 m2 (97 + k), tl3, s3) ⟨b1, b2, fun i hi => ?_, Or.inr ⟨rfl, cnt + 1, by omega, ?_, ?_, ?_, ?_, ?_, fun j j1 j2 => ?_⟩⟩
        · show z_up t2 m2 (97 + k) i = t0 i
          rw [zp_n (by omega)]; exact a3 i hi
        · rw [hcS]; omega
        · show m2 + 1 = m0 + 3 + (cnt + 1)
          omega
        · show z_up t2 m2 (97 + k) m0 = 99
          rw [zp_n (by omega)]; exact a6
        · show z_up t2 m2 (97 + k) (m0 + 1) = 48 + x
          rw [zp_n (by omega)]; exact a7
        · show z_up t2 m2 (97 + k) (m0 + 2) = 44
          rw [zp_n (by omega)]; exact a8
        · have j2 : j < m2 + 1 := j2
          show 97 ≤ z_up t2 m2 (97 + k) j ∧ z_up t2 m2 (97 + k) j ≤ 122
          by_cases e2 : j = m2
          · rw [e2, zp_s]; omega
          · rw [zp_n e2]; exact a9 j j1 (by omega)
      obtain ⟨f0, hc⟩ := g3
      rcases hc with ⟨hv, hmm⟩ | ⟨hv, cnt, c1, c2, c3, c4, c5, c6, c7⟩
      · have hv : v6 = nI 0 := hv
        have hmm : m = m0 := hmm
        subst hv
        subst hmm
        refine zb_t2 zi_0 (sx_write g1 g2 (by omega) (by omega) (by omega) (fun tl1 s1 b1 b2 => sx_write b1 b2 (by omega) (by omega) (by omega) (fun tl2 s2 d1 d2 => sx_write d1 d2 (by omega) (by omega) (by omega) (fun tl3 s3 k1 k2 => e70 _ _ _ _ 0 k1 k2 (fun i hi => ?_) (Nat.zero_le _) rfl ?_ ?_ ?_ (fun j j1 j2 => by omega)))))
        · rw [zp_n (by omega), zp_n (by omega), zp_n (by omega)]; exact f0 i hi
        · rw [zp_n (by omega), zp_n (by omega), zp_s]
        · rw [zp_n (by omega), zp_s]
        · exact zp_s
      · have hv : v6 = nI 1 := hv
        subst hv
        exact zb_f2 zi_1 (e70 m t tl signs cnt g1 g2 f0 c2 c3 c4 c5 c6 c7)
