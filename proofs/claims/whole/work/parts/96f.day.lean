/-! days -/
def z_dr (z k : Nat) : Nat := (7919 * z + 6151 * k + 1) * (7919 * z + 6151 * k + 1) % 65521
theorem z_dr_lt (z k : Nat) : z_dr z k < 65521 := Nat.mod_lt _ (by decide)
theorem z_draw {z k : Nat} (hz : z ≤ 9999) (hk : k ≤ 40) : ((((lN 7919 * (nI z).toInt64) + (lN 6151 * (nI k).toInt64)) + lN 1) * (((lN 7919 * (nI z).toInt64) + (lN 6151 * (nI k).toInt64)) + lN 1) - ((((lN 7919 * (nI z).toInt64) + (lN 6151 * (nI k).toInt64)) + lN 1) * (((lN 7919 * (nI z).toInt64) + (lN 6151 * (nI k).toInt64)) + lN 1)) / lN 65521 * lN 65521).toInt32 = nI (z_dr z k) := by
  rw [nI_l (n := z) (by omega), nI_l (n := k) (by omega), lN_mul, lN_mul, lN_add, lN_add, lN_mul, pk_lRem ?_ (by decide) (by decide), lN_i]
  · rfl
  · have h1 : 7919 * z + 6151 * k + 1 ≤ 80000000 := by omega
    have h2 := Nat.mul_le_mul h1 h1
    omega
def z_gb (d : zD) (v : Nat) : zD :=
  if v % 4 = 2 then (if z_len d = 0 then d else zo_ers d (v / 256 % z_len d))
  else if v % 4 = 3 then zo_tel d (v / 8 % 26) (v / 256 % 6)
  else if z_len d < 30 then zo_ins d (v / 256 % (z_len d + 1)) (v / 8 % 26) else d
theorem z_gb_E {d : zD} (hd : zE d) (v : Nat) : zE (z_gb d v) := by
  unfold z_gb
  split
  · split
    · exact hd
    · exact hd.ers _
  · split
    · exact hd.tel (Nat.mod_lt _ (by decide))
    · split
      · rename_i h
        exact hd.ins (by have := Nat.mod_lt (v / 256) (show 0 < z_len d + 1 by omega); omega) h (Nat.mod_lt _ (by decide))
      · exact hd
theorem z_gb_knd (d : zD) (v : Nat) : z_knd (z_gb d v) = z_knd d := by
  unfold z_gb
  split
  · split <;> rfl
  · split
    · rfl
    · split <;> rfl
def z_gbs (d : zD) (z : Nat) : Nat → zD
  | 0 => d
  | k + 1 => z_gb (z_gbs d z k) (z_dr z k)
theorem z_gbs_S (d : zD) (z k : Nat) : z_gbs d z (k + 1) = z_gb (z_gbs d z k) (z_dr z k) := rfl
theorem z_gbs_E {d : zD} (hd : zE d) (z : Nat) : ∀ k, zE (z_gbs d z k)
  | 0 => hd
  | k + 1 => z_gb_E (z_gbs_E hd z k) _
theorem z_gbs_knd (d : zD) (z : Nat) : ∀ k, z_knd (z_gbs d z k) = z_knd d
  | 0 => rfl
  | k + 1 => by rw [z_gbs_S, z_gb_knd, z_gbs_knd d z k]
theorem sx_goOnBy {d : zD} {v : Nat} {l : Int32} {c k f : zF} {K : Int32 → zF → zF → Prop} (hd : zE d) (hv : v < 65521) (hD : xD d l c k f) (h : ∀ (l' : Int32) (c' f' : zF), xD (z_gb d v) l' c' k f' → K l' c' f') : wp_X6_goOnBy l c f (nI v) K := by
  have hl : z_len d ≤ 30 := hd.2.2.1
  unfold z_gb at h
  unfold wp_X6_goOnBy
  rw [zn_div (by omega) (by omega) (by omega), zn_rem (by omega) (by omega) (by omega), zn_div (by omega) (by omega) (by omega), zn_rem (by omega) (by omega) (by omega)]
  rintro _ rfl
  rintro _ rfl
  rintro _ rfl
  have hD' := hD
  obtain ⟨rfl, hc, hk, hf⟩ := hD'
  rw [zn_eq (by omega) (by omega), zn_eq (by omega) (by omega), zn_le0 (by omega), zn_eq0 (by omega)]
  refine ⟨fun e2 => ?_, fun e2 => ⟨fun e3 => ?_, fun e3 => ?_⟩⟩
  · rw [if_pos e2] at h
    refine ⟨fun e => ?_, fun e => ⟨e, ?_⟩⟩
    · rw [if_pos e] at h
      exact h _ _ _ hD
    · rw [if_neg e] at h
      rw [zn_rem (by omega) (by omega) (by omega)]
      refine sx_takeOut hl (Nat.mod_lt _ (by omega)) hf (fun f' hf' => ?_)
      exact h _ _ _ (hD.ers (Nat.mod_lt _ (by omega)) hf')
  · rw [if_neg e2, if_pos e3] at h
    rw [zn_rem (by omega) (by omega) (by omega)]
    exact sx_setClass (Nat.mod_lt _ (by decide)) (h _ _ _ (hD.tel _ _))
  · rw [if_neg e2, if_neg e3] at h
    rw [zn_add, zn_eq0 (by omega), zn_rem (by omega) (by omega) (by omega)]
    refine ⟨by omega, ?_⟩
    have hm := Nat.mod_lt (v / 256) (show 0 < z_len d + 1 by omega)
    by_cases e : z_len d < 30
    · rw [if_pos e] at h
      refine sx_putIn e (by omega) hf (fun f' hf' => ?_)
      exact h _ _ _ (hD.ins (by omega) hf')
    · rw [if_neg e] at h
      unfold wp_X6_putIn
      refine zb_f (nI_pos (by omega)) (zb_f (by rw [zn_lt (by omega) (by omega)]; omega) (zb_f (by rw [zn_lt (by omega) (by omega)]; omega) ?_))
      exact h _ _ _ hD
theorem mD.telb {s s' : Nat → Int32} {b : Nat} {d : zD} {a x : Nat} (hm : mD s b d) (hd : zE d) (ha : a < 26) (hs : s' = upd s (b + a) (nI x)) : mD s' b (zo_tel d a x) := by
  subst hs
  have hl : z_len d ≤ 30 := hd.2.2.1
  refine ⟨fun j hj => ?_, fun j hj => ?_, ?_, fun j hj => ?_⟩
  · show upd s (b + a) (nI x) (b + j) = nI (if j = a then x else z_cls d j)
    rw [zu_e]
    by_cases e : j = a
    · rw [if_pos (by omega), if_pos e]
    · rw [if_neg (by omega), if_neg e]; exact hm.1 j hj
  · rw [zu_n (by omega)]; exact hm.2.1 j hj
  · rw [zu_n (by omega)]; exact hm.2.2.1
  · have hj' : j < z_len d := hj
    rw [zu_n (by omega)]; exact hm.2.2.2 j hj'
theorem sp_day1 {d : zD} {z N : Nat} {s0 : zF} {E : zF → Prop} (hd : zE d) (hz : z ≤ 9999) (hN : N ≤ 40) (hm0 : mD s0 671 d) (h : ∀ s' : zF, mD s' 671 (z_gbs d z N) → (∀ j, j < 671 → s' j = s0 j) → E s') : ∃ n, lp_X10_day_49 (nI z) (nI N) E n (nI 0) s0 := by
  refine zl_inv (σ := zF) (fun n i s => lp_X10_day_49 (nI z) (nI N) E n (nI i) s) (fun i s => mD s 671 (z_gbs d z i) ∧ ∀ j, j < 671 → s j = s0 j) N ?_ ?_ 0 s0 (Nat.zero_le _) ⟨hm0, fun _ _ => rfl⟩
  · rintro n s ⟨h1, h2⟩
    rw [lp_X10_day_49]
    exact zb_t (by rw [zn_le (by omega) (by omega)]; omega) (h s h1 h2)
  · rintro n i s hi ⟨h1, h2⟩ ih
    have hdi := z_gbs_E hd z i
    have hl : z_len (z_gbs d z i) ≤ 30 := hdi.2.2.1
    have hv := z_dr_lt z i
    have h30 : s 701 = nI (z_len (z_gbs d z i)) := h1.2.2.1
    rw [z_gbs_S] at ih
    unfold z_gb at ih
    rw [lp_X10_day_49]
    refine zb_f (by rw [zn_le (by omega) (by omega)]; omega) ?_
    rintro _ rfl
    rw [z_draw hz (by omega)]
    rintro _ rfl
    rw [zn_rem (by omega) (by omega) (by omega)]
    rintro _ rfl
    rw [zn_in (by omega), zn_cl (by omega), h30]
    refine ⟨by omega, ?_⟩
    rintro _ rfl
    rw [zn_div (a := z_dr z i) (d := 256) (by omega) (by omega) (by omega), zn_div (a := z_dr z i) (d := 8) (by omega) (by omega) (by omega), zn_rem (a := z_dr z i / 256) (d := 6) (by omega) (by omega) (by omega), zn_rem (a := z_dr z i / 8) (d := 26) (by omega) (by omega) (by omega), zn_add 671, zn_add (z_len (z_gbs d z i)) 1]
    rw [zn_in (a := 671 + z_dr z i / 8 % 26) (by omega), zn_cl (a := 671 + z_dr z i / 8 % 26) (by omega), zn_eq (b := 3) (by omega) (by omega), zn_eq (b := 2) (by omega) (by omega), zn_le0 (by omega), zn_eq0 (by omega), zn_eq0 (by omega)]
    intro J hJ
    have out : 2 ≤ z_dr z i % 4 ∨ 30 ≤ z_len (z_gbs d z i) → J := by
      intro ho
      apply hJ
      intro J2 hJ2
      have out2 : ¬ z_dr z i % 4 = 2 ∨ z_len (z_gbs d z i) = 0 → J2 := by
        intro ho2
        apply hJ2
        refine ⟨fun e3 => ?_, fun e3 => ?_⟩
        · rintro _ rfl
          rw [zn_add]
          refine ih s ⟨?_, h2⟩
          by_cases e2 : z_dr z i % 4 = 2
          · rw [if_pos e2, if_pos (by omega)]; exact h1
          · rw [if_neg e2, if_neg e3, if_neg (by omega)]; exact h1
        · rintro _ rfl
          refine ⟨by omega, ?_⟩
          rintro _ rfl
          rintro _ rfl
          rw [zn_add]
          refine ih _ ⟨?_, fun j hj => by rw [zu_n (by omega)]; exact h2 j hj⟩
          rw [if_neg (by omega), if_pos e3]
          exact h1.telb hdi (Nat.mod_lt _ (by decide)) rfl
      refine ⟨fun e2 => out2 (Or.inl e2), fun e2 => ⟨fun e0 => out2 (Or.inr e0), fun e0 => ⟨e0, ?_⟩⟩⟩
      rw [zn_rem (by omega) (by omega) (by omega)]
      refine sp_takesOut hdi h1 (by omega) (Nat.mod_lt _ (by omega)) (fun s' h3 h4 _ => ?_)
      rintro _ rfl
      rw [zn_add]
      refine ih s' ⟨?_, fun j hj => by rw [h4 j (by omega)]; exact h2 j hj⟩
      rw [if_pos e2, if_neg e0]
      exact h3
    rw [zn_le (by omega) (by omega)]
    refine ⟨fun e => out (Or.inl e), fun e => ?_⟩
    rw [zn_le (by omega) (by omega)]
    refine ⟨fun e5 => out (Or.inr e5), fun e5 => ⟨by omega, ?_⟩⟩
    have hmm := Nat.mod_lt (z_dr z i / 256) (show 0 < z_len (z_gbs d z i) + 1 by omega)
    rw [zn_rem (by omega) (by omega) (by omega)]
    refine sp_puts hdi h1 (by omega) (by omega) (by omega) (by omega) (fun s' h3 h4 _ => ?_)
    rintro _ rfl
    rw [zn_add]
    refine ih s' ⟨?_, fun j hj => by rw [h4 j (by omega)]; exact h2 j hj⟩
    rw [if_neg (by omega), if_neg (by omega), if_pos (by omega)]
    exact h3
