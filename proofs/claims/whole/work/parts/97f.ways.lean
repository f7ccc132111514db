/-- where a way leads, as the model holds it -/
def mN (bg : Nat → Nat) (go : Nat → Nat → Nat) (L : List Nat) (on : zF) (a x : Nat) : Prop := (go (z_nth L a) x = 0 → ∃ k, k < L.length ∧ z_nth L k = bg x ∧ on (6 * a + x) = nI (1024 + k)) ∧ (¬ go (z_nth L a) x = 0 → ∃ k, k < L.length ∧ z_nth L k = go (z_nth L a) x ∧ on (6 * a + x) = nI k)
theorem mN.meet {bg : Nat → Nat} {go : Nat → Nat → Nat} {L : List Nat} {on : zF} {a x : Nat} (h : mN bg go L on a x) (ha : a < L.length) (s : Nat) : mN bg go (z_meet L s) on a x := by
  unfold mN
  rw [z_nth_meet s ha]
  refine ⟨fun h1 => ?_, fun h1 => ?_⟩
  · obtain ⟨k, k1, k2, k3⟩ := h.1 h1
    exact ⟨k, Nat.lt_of_lt_of_le k1 (z_len_meet L s), by rw [z_nth_meet s k1]; exact k2, k3⟩
  · obtain ⟨k, k1, k2, k3⟩ := h.2 h1
    exact ⟨k, Nat.lt_of_lt_of_le k1 (z_len_meet L s), by rw [z_nth_meet s k1]; exact k2, k3⟩
theorem mN.upd {bg : Nat → Nat} {go : Nat → Nat → Nat} {L : List Nat} {on : zF} {a x b : Nat} {v : Int32} (h : mN bg go L on a x) (hb : ¬ 6 * a + x = b) : mN bg go L (upd on b v) a x := by
  unfold mN
  rw [zu_n hb]
  exact h
def mNs (bg : Nat → Nat) (go : Nat → Nat → Nat) (L : List Nat) (on : zF) (i x : Nat) : Prop := ∀ a y, y < 6 → (a < i ∨ (a = i ∧ y < x)) → mN bg go L on a y
/-- all beginnings lie in the list -/
def zBs (bg : Nat → Nat) (L : List Nat) (n : Nat) : Prop := ∀ x, x < n → bg x ∈ L
theorem z_meet_mem {L : List Nat} {s t : Nat} (h : t ∈ L) : t ∈ z_meet L s := by
  by_cases e : s ∈ L
  · rw [z_meet_in e]; exact h
  · rw [z_meet_out e]; exact List.mem_append.mpr (Or.inl h)
theorem z_meet_self (L : List Nat) (s : Nat) : s ∈ z_meet L s := by
  by_cases e : s ∈ L
  · rw [z_meet_in e]; exact e
  · rw [z_meet_out e]; exact List.mem_append.mpr (Or.inr (List.mem_singleton.mpr rfl))
theorem z_p1_B (bg : Nat → Nat) : ∀ n, zBs bg (z_p1 bg n).1 n
  | 0 => fun x hx => absurd hx (Nat.not_lt_zero _)
  | n + 1 => by
    intro x hx
    by_cases e : x = n
    · subst e; exact z_meet_self _ _
    · exact z_meet_mem (z_p1_B bg n x (by omega))
theorem z_p2_B {bg : Nat → Nat} {go : Nat → Nat → Nat} {s f m : Nat} {P : List Nat × List Nat} (h : zBs bg P.1 m) : ∀ n, zBs bg (z_p2 go s f P n).1 m
  | 0 => h
  | n + 1 => by
    rw [z_p2_S]
    split
    · exact z_p2_B h n
    · exact fun x hx => z_meet_mem (z_p2_B h n x hx)
theorem z_p3_B {bg : Nat → Nat} {go : Nat → Nat → Nat} : ∀ i, zBs bg (z_p3 bg go i).1 6
  | 0 => z_p1_B bg 6
  | i + 1 => by
    rw [z_p3_S]
    split
    · exact z_p2_B (z_p3_B i) 6
    · exact z_p3_B i
theorem sp_all62 {q : zR} {kn : Nat → Nat} {i : Nat} {P : List Nat × List Nat} {rule takes behind slot way0 at0 on0 : zF} {E : Int32 → zF → zF → zF → Prop} (hq : zW q) (hr : ∀ r, r < z_nR q → rule r = nI (z_fst q r) ∧ rule (4 + r) = nI (z_whl q r) ∧ rule (8 + r) = nI (z_of q r)) (ht : ∀ p, p < z_nP q → takes p = nI (z_tk q p) ∧ behind p = nI (z_bh q p)) (hk : ∀ r, r < 4 → slot (26 + r) = nI (kn r)) (hk4 : ∀ r, r < 4 → kn r < 4) (hP : zQ P) (hB : zBs (z_bgn q 0) P.1 6) (hi : i < P.1.length) (h1 : xL (-1) P.1 (nI P.1.length) way0 at0) (h4 : mNs (z_bgn q 0) (z_go q kn) P.1 on0 i 0)
    (h : ∀ (way' at' on' : zF), xL (-1) (z_p2 (z_go q kn) (z_nth P.1 i) (z_nth P.2 i) P 6).1 (nI (z_p2 (z_go q kn) (z_nth P.1 i) (z_nth P.2 i) P 6).1.length) way' at' → mNs (z_bgn q 0) (z_go q kn) (z_p2 (z_go q kn) (z_nth P.1 i) (z_nth P.2 i) P 6).1 on' (i + 1) 0 → E (nI (z_p2 (z_go q kn) (z_nth P.1 i) (z_nth P.2 i) P 6).1.length) way' at' on') : ∃ n, lp_X10_allWays_62 (nI (z_nR q)) (nI (z_nP q)) (nI 0) rule takes behind slot (nI i) E n (nI 0) (nI P.1.length) way0 at0 on0 := by
  have hg : ∀ s x, x < 6 → z_go q kn s x < 1024 := fun s x _ => hq.bnd (z_go_lt hq kn s x)
  have hb : ∀ x, x < 6 → z_bgn q 0 x < 1024 := fun x _ => hq.bnd (z_bgn_lt q 0 x)
  have hlen := hP.1.len
  have hsi := hP.1.2 _ (z_nth_mem hi)
  refine zl_inv (σ := zF × zF × zF) (fun n x s => lp_X10_allWays_62 (nI (z_nR q)) (nI (z_nP q)) (nI 0) rule takes behind slot (nI i) E n (nI x) (nI (z_p2 (z_go q kn) (z_nth P.1 i) (z_nth P.2 i) P x).1.length) s.1 s.2.1 s.2.2) (fun x s => x ≤ 6 ∧ xL (-1) (z_p2 (z_go q kn) (z_nth P.1 i) (z_nth P.2 i) P x).1 (nI (z_p2 (z_go q kn) (z_nth P.1 i) (z_nth P.2 i) P x).1.length) s.1 s.2.1 ∧ mNs (z_bgn q 0) (z_go q kn) (z_p2 (z_go q kn) (z_nth P.1 i) (z_nth P.2 i) P x).1 s.2.2 i x) 6 ?_ ?_ 0 (way0, at0, on0) (Nat.zero_le _) ⟨Nat.zero_le _, h1, h4⟩
  · rintro n ⟨s1, s2, s3⟩ ⟨-, g1, g4⟩
    show lp_X10_allWays_62 _ _ _ _ _ _ _ _ _ (n + 1) (nI 6) _ s1 s2 s3
    rw [lp_X10_allWays_62]
    refine zb_t (by rw [zn_le (by omega) (by omega)]; omega) (h _ _ _ g1 ?_)
    intro a y hy hay
    exact g4 a y hy (by omega)
  · rintro n x ⟨s1, s2, s3⟩ hx ⟨-, g1, g4⟩ ih
    have g1 : xL (-1) (z_p2 (z_go q kn) (z_nth P.1 i) (z_nth P.2 i) P x).1 (nI (z_p2 (z_go q kn) (z_nth P.1 i) (z_nth P.2 i) P x).1.length) s1 s2 := g1
    have g4 : mNs (z_bgn q 0) (z_go q kn) (z_p2 (z_go q kn) (z_nth P.1 i) (z_nth P.2 i) P x).1 s3 i x := g4
    have hQ := z_p2_Q (f := z_nth P.2 i) hP (hg (z_nth P.1 i)) x (by omega)
    have hBx := z_p2_B (go := z_go q kn) (s := z_nth P.1 i) (f := z_nth P.2 i) hB x
    obtain ⟨hl, hpre⟩ := z_p2_pre (go := z_go q kn) (s := z_nth P.1 i) (f := z_nth P.2 i) (P := P) x
    have e1 : s1 i = nI (z_nth P.1 i) := by rw [(g1.2.1 i (by omega)).1, hpre i hi]
    have hgx := hg (z_nth P.1 i) x hx
    show lp_X10_allWays_62 _ _ _ _ _ _ _ _ _ (n + 1) (nI x) _ s1 s2 s3
    rw [lp_X10_allWays_62]
    refine zb_f (by rw [zn_le (by omega) (by omega)]; omega) ?_
    rw [zn_in (by omega), zn_cl (by omega), e1]
    refine ⟨by omega, sp_goes hq (fun r hr' => (hr r hr').2) (fun p hp => (ht p hp).1) (fun p hp => (ht p hp).2) hk hk4 (by omega) (by omega) ?_⟩
    rw [z_p2_S] at ih
    intro J hJ
    refine ⟨fun e => ?_, fun e => ?_⟩
    · rw [zn_eq0 (by omega)] at e
      rw [if_pos e] at ih
      apply hJ
      refine zb_t2 (by rw [e]; rfl) ?_
      refine sp_begun hq (fun r hr' => (hr r hr').1) (fun p hp => (ht p hp).1) (by omega) (by omega) ?_
      have hbx := hb x hx
      obtain ⟨k, k1, k2⟩ := z_nth_of (hBx x hx)
      have k3 := (g1.2.1 k k1).2
      rw [k2] at k3
      rw [zn_in (by omega), zn_cl (by omega), k3, zn_mul, zn_add, zn_add, zn_in (by omega), zn_cl (by omega)]
      refine ⟨by omega, ?_⟩
      rintro _ rfl
      refine ⟨by omega, ?_⟩
      rintro _ rfl
      rintro _ rfl
      rw [zn_add]
      refine ih (s1, s2, _) ⟨by omega, g1, ?_⟩
      intro a y hy hay
      by_cases e3 : a = i ∧ y = x
      · obtain ⟨rfl, rfl⟩ := e3
        unfold mN
        rw [hpre a hi]
        exact ⟨fun _ => ⟨k, k1, k2, zu_s⟩, fun e4 => absurd e e4⟩
      · exact (g4 a y hy (by omega)).upd (by omega)
    · rw [zn_eq0 (by omega)] at e
      rw [if_neg e] at ih
      refine sp_meets hQ.1 g1 hgx (fun w' a' k1 => ?_)
      apply hJ
      refine zb_f2 (by rw [zn_eq0 (by omega)]; exact e) ?_
      obtain ⟨k, k2, k3⟩ := z_nth_of (z_meet_self (z_p2 (z_go q kn) (z_nth P.1 i) (z_nth P.2 i) P x).1 (z_go q kn (z_nth P.1 i) x))
      have k4 := (k1.2.1 k k2).2
      rw [k3] at k4
      rw [zn_in (by omega), zn_cl (by omega), k4, zn_mul, zn_add, zn_in (by omega), zn_cl (by omega)]
      refine ⟨by omega, ?_⟩
      rintro _ rfl
      refine ⟨by omega, ?_⟩
      rintro _ rfl
      rintro _ rfl
      rw [zn_add]
      refine ih (w', a', _) ⟨by omega, k1, ?_⟩
      intro a y hy hay
      by_cases e3 : a = i ∧ y = x
      · obtain ⟨rfl, rfl⟩ := e3
        unfold mN
        show (z_go q kn (z_nth (z_meet _ _) a) y = 0 → _) ∧ _
        rw [z_nth_meet _ (by omega), hpre a hi]
        exact ⟨fun e4 => absurd e4 e, fun _ => ⟨k, k2, k3, zu_s⟩⟩
      · exact ((g4 a y hy (by omega)).meet (by omega) _).upd (by omega)
