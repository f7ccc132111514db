theorem z_p2_pre {go : Nat → Nat → Nat} {s f : Nat} {P : List Nat × List Nat} : ∀ n, P.1.length ≤ (z_p2 go s f P n).1.length ∧ (∀ i, i < P.1.length → z_nth (z_p2 go s f P n).1 i = z_nth P.1 i)
  | 0 => ⟨Nat.le_refl _, fun _ _ => rfl⟩
  | n + 1 => by
    obtain ⟨h1, h2⟩ := z_p2_pre (go := go) (s := s) (f := f) (P := P) n
    rw [z_p2_S]
    split
    · exact ⟨h1, h2⟩
    · exact ⟨Nat.le_trans h1 (z_len_meet _ _), fun i hi => by
        show z_nth (z_meet (z_p2 go s f P n).1 (go s n)) i = _
        rw [z_nth_meet _ (Nat.lt_of_lt_of_le hi h1)]; exact h2 i hi⟩
theorem z_mf_pre {L M : List Nat} {s f j : Nat} (h : j < M.length) : z_nth (z_mf L M s f) j = z_nth M j := by
  unfold z_mf
  split
  · rfl
  · exact z_nth_l _ h
theorem z_p2_pre2 {go : Nat → Nat → Nat} {s f : Nat} {P : List Nat × List Nat} (hP : zQ P) (hg : ∀ x, x < 6 → go s x < 1024) : ∀ n, n ≤ 6 → ∀ i, i < P.1.length → z_nth (z_p2 go s f P n).2 i = z_nth P.2 i
  | 0, _ => fun _ _ => rfl
  | n + 1, hn => by
    intro i hi
    have h2 := z_p2_pre2 (f := f) hP hg n (by omega) i hi
    have hQ := z_p2_Q (f := f) hP hg n (by omega)
    have hl := (z_p2_pre (go := go) (s := s) (f := f) (P := P) n).1
    rw [z_p2_S]
    split
    · exact h2
    · show z_nth (z_mf _ _ _ _) i = _
      rw [z_mf_pre (by rw [hQ.2]; omega)]; exact h2
/-- where a way leads, as the class holds it -/
def xN (go : Nat → Nat → Nat) (L : List Nat) (nx : zF) (a x : Nat) : Prop := (go (z_nth L a) x = 0 → nx (a * 6 + x) = -1) ∧ (¬ go (z_nth L a) x = 0 → ∃ k, k < L.length ∧ z_nth L k = go (z_nth L a) x ∧ nx (a * 6 + x) = nI k)
theorem xN.meet {go : Nat → Nat → Nat} {L : List Nat} {nx : zF} {a x : Nat} (h : xN go L nx a x) (ha : a < L.length) (s : Nat) : xN go (z_meet L s) nx a x := by
  unfold xN
  rw [z_nth_meet s ha]
  refine ⟨h.1, fun h1 => ?_⟩
  obtain ⟨k, k1, k2, k3⟩ := h.2 h1
  exact ⟨k, Nat.lt_of_lt_of_le k1 (z_len_meet L s), by rw [z_nth_meet s k1]; exact k2, k3⟩
theorem xN.upd {go : Nat → Nat → Nat} {L : List Nat} {nx : zF} {a x b : Nat} {v : Int32} (h : xN go L nx a x) (hb : ¬ a * 6 + x = b) : xN go L (upd nx b v) a x := by
  unfold xN
  rw [zu_n hb]
  exact h
def xNs (go : Nat → Nat → Nat) (L : List Nat) (nx : zF) (i x : Nat) : Prop := ∀ a y, y < 6 → (a < i ∨ (a = i ∧ y < x)) → xN go L nx a y
theorem sx_find76 {q : zR} {kn : Nat → Nat} {i : Nat} {P : List Nat × List Nat} {fi lo number0 : Int32} {on ta st0 fe0 no0 nx0 begun : zF} {E : Int32 → zF → zF → zF → zF → Prop} (hq : zW q) (hk : ∀ r, r < 4 → kn r < 4) (hS : xS q kn fi lo on ta) (hP : zQ P) (hi : i < P.1.length) (h1 : xL (-4) P.1 number0 st0 no0) (h2 : xF P.2 fe0) (h3 : xB (z_bgn q 0) P.1 begun 6) (h4 : xNs (z_go q kn) P.1 nx0 i 0)
    (h : ∀ (number : Int32) (stands fewest numberOf nexts : zF), xL (-4) (z_p2 (z_go q kn) (z_nth P.1 i) (z_nth P.2 i) P 6).1 number stands numberOf → xF (z_p2 (z_go q kn) (z_nth P.1 i) (z_nth P.2 i) P 6).2 fewest → xB (z_bgn q 0) (z_p2 (z_go q kn) (z_nth P.1 i) (z_nth P.2 i) P 6).1 begun 6 → xNs (z_go q kn) (z_p2 (z_go q kn) (z_nth P.1 i) (z_nth P.2 i) P 6).1 nexts (i + 1) 0 → E number stands fewest numberOf nexts) : ∃ n, lp_X8_find_76 lo on ta (nI i) E n (nI 0) number0 st0 fe0 no0 nx0 := by
  have hg : ∀ s x, x < 6 → z_go q kn s x < 1024 := fun s x _ => hq.bnd (z_go_lt hq kn s x)
  have hlen := hP.1.len
  have hsi := hP.1.2 _ (z_nth_mem hi)
  refine zl_inv (σ := Int32 × zF × zF × zF × zF) (fun n x s => lp_X8_find_76 lo on ta (nI i) E n (nI x) s.1 s.2.1 s.2.2.1 s.2.2.2.1 s.2.2.2.2) (fun x s => x ≤ 6 ∧ xL (-4) (z_p2 (z_go q kn) (z_nth P.1 i) (z_nth P.2 i) P x).1 s.1 s.2.1 s.2.2.2.1 ∧ xF (z_p2 (z_go q kn) (z_nth P.1 i) (z_nth P.2 i) P x).2 s.2.2.1 ∧ xB (z_bgn q 0) (z_p2 (z_go q kn) (z_nth P.1 i) (z_nth P.2 i) P x).1 begun 6 ∧ xNs (z_go q kn) (z_p2 (z_go q kn) (z_nth P.1 i) (z_nth P.2 i) P x).1 s.2.2.2.2 i x) 6 ?_ ?_ 0 (number0, st0, fe0, no0, nx0) (Nat.zero_le _) ⟨Nat.zero_le _, h1, h2, h3, h4⟩
  · rintro n ⟨s1, s2, s3, s4, s5⟩ ⟨-, g1, g2, g3, g4⟩
    show lp_X8_find_76 _ _ _ _ _ _ _ _ _ _ _ _
    rw [lp_X8_find_76]
    refine zb_t (by rw [zn_le (by omega) (by omega)]; omega) (h _ _ _ _ _ g1 g2 g3 ?_)
    intro a y hy hay
    exact g4 a y hy (by omega)
  · rintro n x ⟨s1, s2, s3, s4, s5⟩ hx ⟨-, g1, g2, g3, g4⟩ ih
    have g1 : xL (-4) (z_p2 (z_go q kn) (z_nth P.1 i) (z_nth P.2 i) P x).1 s1 s2 s4 := g1
    have g2 : xF (z_p2 (z_go q kn) (z_nth P.1 i) (z_nth P.2 i) P x).2 s3 := g2
    have g4 : xNs (z_go q kn) (z_p2 (z_go q kn) (z_nth P.1 i) (z_nth P.2 i) P x).1 s5 i x := g4
    have hQ := z_p2_Q (f := z_nth P.2 i) hP (hg (z_nth P.1 i)) x (by omega)
    obtain ⟨hl, hpre⟩ := z_p2_pre (go := z_go q kn) (s := z_nth P.1 i) (f := z_nth P.2 i) (P := P) x
    have hpre2 := z_p2_pre2 (f := z_nth P.2 i) hP (hg (z_nth P.1 i)) x (by omega) i hi
    have e1 : s2 i = nI (z_nth P.1 i) := by rw [(g1.2.1 i (by omega)).1, hpre i hi]
    have e2 : s3 i = nI (z_nth P.2 i) := by rw [g2 i (by rw [hQ.2]; omega), hpre2]
    show lp_X8_find_76 lo on ta (nI i) E (n + 1) (nI x) s1 s2 s3 s4 s5
    rw [lp_X8_find_76]
    refine zb_f (by rw [zn_le (by omega) (by omega)]; omega) ?_
    rw [zn_in (by omega), zn_cl (by omega), e1]
    refine ⟨by omega, sx_goOn hS hsi hx ?_⟩
    rw [z_go_X hq hk]
    have hgx := hg (z_nth P.1 i) x hx
    rw [z_p2_S] at ih
    rw [zn_eq0 (by omega), zn_mul, zn_add, zn_in (a := i * 6 + x) (by omega), zn_cl (a := i * 6 + x) (by omega)]
    refine ⟨fun e => ⟨by omega, ?_⟩, fun e => ⟨by omega, ?_⟩⟩
    · rw [if_neg e] at ih
      rw [e2, zn_add]
      refine sx_numberFor hQ.1 g1 hgx (fun j st' fe' no' k1 k2 k3 k4 k5 => ⟨by omega, ?_⟩)
      rintro _ rfl
      rintro _ rfl
      rw [zn_add]
      refine ih (_, _, _, _, _) ⟨by omega, k1, g2.put hQ k4 k5, g3.meet _, ?_⟩
      intro a y hy hay
      by_cases e3 : a = i ∧ y = x
      · obtain ⟨rfl, rfl⟩ := e3
        show xN (z_go q kn) (z_meet _ _) (upd s5 (a * 6 + y) (nI j)) a y
        unfold xN
        rw [z_nth_meet _ (by omega), hpre a hi]
        exact ⟨fun e4 => absurd e4 e, fun _ => ⟨j, k2, k3, zu_s⟩⟩
      · have := (g4 a y hy (by omega)).meet (by omega) (z_go q kn (z_nth P.1 i) x)
        exact this.upd (by omega)
    · rw [if_pos e] at ih
      rintro _ rfl
      rintro _ rfl
      rw [zn_add]
      refine ih (_, _, _, _, _) ⟨by omega, g1, g2, g3, ?_⟩
      intro a y hy hay
      by_cases e3 : a = i ∧ y = x
      · obtain ⟨rfl, rfl⟩ := e3
        show xN (z_go q kn) _ (upd s5 (a * 6 + y) (-1)) a y
        unfold xN
        rw [hpre a hi]
        exact ⟨fun _ => zu_s, fun e4 => absurd e e4⟩
      · exact (g4 a y hy (by omega)).upd (by omega)
