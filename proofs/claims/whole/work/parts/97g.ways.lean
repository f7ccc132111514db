/-- all ways as the model lays them -/
def mA (q : zR) (kn : Nat → Nat) (ways : Int32) (way on : zF) : Prop :=
  ways = nI (z_pe (z_bgn q 0) (z_go q kn)).1.length ∧ (∀ i, i < (z_pe (z_bgn q 0) (z_go q kn)).1.length → way i = nI (z_nth (z_pe (z_bgn q 0) (z_go q kn)).1 i)) ∧ ∀ a y, y < 6 → a < (z_pe (z_bgn q 0) (z_go q kn)).1.length → mN (z_bgn q 0) (z_go q kn) (z_pe (z_bgn q 0) (z_go q kn)).1 on a y
theorem sp_allWays {q : zR} {kn : Nat → Nat} {ways0 : Int32} {rule takes behind slot way0 at0 on0 : zF} {K : Int32 → zF → zF → zF → Prop} (hq : zW q) (hr : ∀ r, r < z_nR q → rule r = nI (z_fst q r) ∧ rule (4 + r) = nI (z_whl q r) ∧ rule (8 + r) = nI (z_of q r)) (ht : ∀ p, p < z_nP q → takes p = nI (z_tk q p) ∧ behind p = nI (z_bh q p)) (hk : ∀ r, r < 4 → slot (26 + r) = nI (kn r)) (hk4 : ∀ r, r < 4 → kn r < 4)
    (h : ∀ (ways : Int32) (way at' on : zF), mA q kn ways way on → K ways way at' on) : wp_X10_allWays (nI (z_nR q)) (nI (z_nP q)) (nI 0) ways0 rule takes behind slot way0 at0 on0 K := by
  have hb : ∀ x, x < 6 → z_bgn q 0 x < 1024 := fun x _ => hq.bnd (z_bgn_lt q 0 x)
  have hg : ∀ s x, x < 6 → z_go q kn s x < 1024 := fun s x _ => hq.bnd (z_go_lt hq kn s x)
  unfold wp_X10_allWays
  intro E hE
  refine sp_all2 (fun at1 ha1 => hE _ ?_)
  intro E2 hE2
  refine sp_all29 hq (fun r hr' => (hr r hr').1) (fun p hp => (ht p hp).1) ha1 (fun way1 at2 h1 => hE2 _ _ _ ?_)
  intro E3 hE3
  have key : ∃ n, lp_X10_allWays_52 (nI (z_nR q)) (nI (z_nP q)) (nI 0) rule takes behind slot E3 n (nI 0) (nI (z_p3 (z_bgn q 0) (z_go q kn) 0).1.length) way1 at2 on0 := by
    refine zl_m (σ := Nat × zF × zF × zF) (fun n s => lp_X10_allWays_52 (nI (z_nR q)) (nI (z_nP q)) (nI 0) rule takes behind slot E3 n (nI s.1) (nI (z_p3 (z_bgn q 0) (z_go q kn) s.1).1.length) s.2.1 s.2.2.1 s.2.2.2) (fun s => s.1 ≤ (z_p3 (z_bgn q 0) (z_go q kn) s.1).1.length ∧ xL (-1) (z_p3 (z_bgn q 0) (z_go q kn) s.1).1 (nI (z_p3 (z_bgn q 0) (z_go q kn) s.1).1.length) s.2.1 s.2.2.1 ∧ mNs (z_bgn q 0) (z_go q kn) (z_p3 (z_bgn q 0) (z_go q kn) s.1).1 s.2.2.2 s.1 0) (fun s => 1024 - s.1) ?_ (0, way1, at2, on0) ⟨Nat.zero_le _, h1, fun a y _ hay => by omega⟩
    rintro n ⟨i, s1, s2, s3⟩ ⟨g0, g1, g4⟩ ih
    have g0 : i ≤ (z_p3 (z_bgn q 0) (z_go q kn) i).1.length := g0
    have g1 : xL (-1) (z_p3 (z_bgn q 0) (z_go q kn) i).1 (nI (z_p3 (z_bgn q 0) (z_go q kn) i).1.length) s1 s2 := g1
    have g4 : mNs (z_bgn q 0) (z_go q kn) (z_p3 (z_bgn q 0) (z_go q kn) i).1 s3 i 0 := g4
    have hQ := z_p3_Q hb hg i
    have hlen := hQ.1.len
    show lp_X10_allWays_52 _ _ _ _ _ _ _ _ (n + 1) (nI i) (nI (z_p3 (z_bgn q 0) (z_go q kn) i).1.length) s1 s2 s3
    rw [lp_X10_allWays_52, zn_le (by omega) (by omega)]
    refine ⟨fun e => ?_, fun e => ?_⟩
    · have e2 := z_pe_of (by omega) e
      apply hE3
      rw [e2] at g1 g4 e ⊢
      exact h _ _ _ _ ⟨rfl, fun j hj => (g1.2.1 j hj).1, fun a y hy ha => g4 a y hy (Or.inl (by omega))⟩
    · intro E4 hE4
      refine sp_all62 (P := z_p3 (z_bgn q 0) (z_go q kn) i) hq hr ht hk hk4 hQ (z_p3_B i) (by omega) g1 g4 (fun w' a' o' k1 k4 => hE4 _ _ _ _ ?_)
      rintro _ rfl
      rw [zn_add]
      have e3 : z_p3 (z_bgn q 0) (z_go q kn) (i + 1) = z_p2 (z_go q kn) (z_nth (z_p3 (z_bgn q 0) (z_go q kn) i).1 i) (z_nth (z_p3 (z_bgn q 0) (z_go q kn) i).2 i) (z_p3 (z_bgn q 0) (z_go q kn) i) 6 := by
        rw [z_p3_S, if_pos (by omega)]
      have hl := (z_p2_pre (go := z_go q kn) (s := z_nth (z_p3 (z_bgn q 0) (z_go q kn) i).1 i) (f := z_nth (z_p3 (z_bgn q 0) (z_go q kn) i).2 i) (P := z_p3 (z_bgn q 0) (z_go q kn) i) 6).1
      have := ih (i + 1, w', a', o') ⟨by
        show i + 1 ≤ (z_p3 (z_bgn q 0) (z_go q kn) (i + 1)).1.length
        rw [e3]; omega, by
        show xL (-1) (z_p3 (z_bgn q 0) (z_go q kn) (i + 1)).1 (nI (z_p3 (z_bgn q 0) (z_go q kn) (i + 1)).1.length) w' a'
        rw [e3]; exact k1, by
        show mNs (z_bgn q 0) (z_go q kn) (z_p3 (z_bgn q 0) (z_go q kn) (i + 1)).1 o' (i + 1) 0
        rw [e3]; exact k4⟩ (by
        show 1024 - (i + 1) < 1024 - i
        omega)
      have this : lp_X10_allWays_52 (nI (z_nR q)) (nI (z_nP q)) (nI 0) rule takes behind slot E3 n (nI (i + 1)) (nI (z_p3 (z_bgn q 0) (z_go q kn) (i + 1)).1.length) w' a' o' := this
      rw [e3] at this
      exact this
  exact key
