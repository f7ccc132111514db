theorem zl_from (P : Nat → Nat → Prop) (b e : Nat) (hx : ∀ n, P (n + 1) e) (hs : ∀ n i, b ≤ i → i < e → P n (i + 1) → P (n + 1) i) (h : b ≤ e) : ∃ n, P n b :=
  zl_inv (σ := Unit) (fun n i _ => P n i) (fun i _ => b ≤ i) e (fun n _ _ => hx n) (fun n i _ h1 h2 ih => hs n i h2 h1 (ih () (by omega))) b () h (Nat.le_refl _)
def mW (q : zR) (d : zD) (wo : Nat) (st pt : zF) : Prop := (∀ k, k ≤ z_len d → pt k = nI (z_bd q d (z_knd d) wo k).toNat) ∧ ∀ k, k < z_len d → st (k + 1) = nI (z_st q d (z_knd d) wo (k + 1))
theorem sp_walk0 {q : zR} {d : zD} {wo : Nat} {rules places without : Int32} {rule takes behind s st pt : zF} {K : zF → zF → Prop} (hq : zW q) (hd : zE d) (hM : mR q rules places rule takes behind) (hm : mD s 0 d) (hwo : without = nI wo) (hw : wo < 2147483648) (h : ∀ st' pt' : zF, mW q d wo st' pt' → K st' pt') : wp_X10_walks rules places without rule takes behind s st pt (nI 0) K := by
  obtain ⟨rfl, rfl, hr, ht⟩ := hM
  subst hwo
  refine sp_walks (kn := z_knd d) (b := 0) hq hd hr (fun p hp => (ht p hp).1) (fun p hp => (ht p hp).2) hm.z.2.1 hd.2.1 hm (by omega) hw (fun st' pt' h1 h2 h3 => h st' pt' ⟨fun k hk => ?_, h3⟩)
  by_cases e : k = z_len d
  · rw [e, h2, z_bd_n]; rfl
  · exact h1 k (by omega)
theorem z_bds_bit (q : zR) (d : zD) (kn : Nat → Nat) (wo : Nat) {k : Nat} (hk : k ≤ z_len d) : (z_bds q d kn wo).testBit k = z_bd q d kn wo k := by
  unfold z_bds
  rw [zs_mk_bit, decide_eq_true (by omega : k < z_len d + 1), Bool.true_and]
theorem sx_hasBound {q : zR} {d : zD} {kn : Nat → Nat} {wo k : Nat} {K : Int32 → Prop} (hd : zE d) (hk : k ≤ z_len d) (h1 : z_bd q d kn wo k = true → K (nI 1)) (h0 : z_bd q d kn wo k = false → K (nI 0)) : wp_X3_hasBound (nI (z_bds q d kn wo)) (nI k) K := by
  have hl : z_len d ≤ 30 := hd.2.2.1
  unfold wp_X3_hasBound
  rw [zn_bit (z_bds_lt q hd kn wo) (by omega), z_bds_bit q d kn wo hk]
  cases hb : z_bd q d kn wo k with
  | true => exact zb_f (by decide) (h1 hb)
  | false => exact zb_t (by decide) (h0 hb)
/-- the next one behind, the next one ahead -/
theorem z_nx (B : Nat → Bool) {n : Nat} (hn : B n = true) : ∀ m a, a + m + 1 = n → ∃ k, a < k ∧ k ≤ n ∧ B k = true ∧ ∀ j, a < j → j < k → B j = false := by
  intro m
  induction m with
  | zero => intro a h; exact ⟨n, by omega, Nat.le_refl _, hn, fun j h1 h2 => by omega⟩
  | succ m ih =>
    intro a h
    cases hb : B (a + 1) with
    | true => exact ⟨a + 1, by omega, by omega, hb, fun j h1 h2 => by omega⟩
    | false =>
      obtain ⟨k, h1, h2, h3, h4⟩ := ih (a + 1) (by omega)
      refine ⟨k, by omega, h2, h3, fun j h5 h6 => ?_⟩
      by_cases e : j = a + 1
      · rw [e]; exact hb
      · exact h4 j (by omega) h6
theorem z_nx' (B : Nat → Bool) {n a : Nat} (hn : B n = true) (ha : a < n) : ∃ k, a < k ∧ k ≤ n ∧ B k = true ∧ ∀ j, a < j → j < k → B j = false := z_nx B hn (n - a - 1) a (by omega)
theorem z_pv (B : Nat → Bool) (h0 : B 0 = true) : ∀ a, 0 < a → ∃ k, k < a ∧ B k = true ∧ ∀ j, k < j → j < a → B j = false := by
  intro a
  induction a with
  | zero => intro h; exact absurd h (Nat.lt_irrefl _)
  | succ a ih =>
    intro _
    cases hb : B a with
    | true => exact ⟨a, by omega, hb, fun j h1 h2 => by omega⟩
    | false =>
      have ha : 0 < a := by
        apply Nat.pos_of_ne_zero
        intro e
        rw [e, h0] at hb; cases hb
      obtain ⟨k, h1, h2, h3⟩ := ih ha
      refine ⟨k, by omega, h2, fun j h4 h5 => ?_⟩
      by_cases e : j = a
      · rw [e]; exact hb
      · exact h3 j h4 (by omega)
theorem sx_behindT {q : zR} {d : zD} {kn : Nat → Nat} {wo a k : Nat} {K : Int32 → Prop} (hd : zE d) (h1 : a < k) (h2 : k ≤ z_len d) (h3 : z_bd q d kn wo k = true) (h4 : ∀ j, a < j → j < k → z_bd q d kn wo j = false) (h : K (nI k)) : wp_X3_boundBehind (nI (z_len d)) (nI (z_bds q d kn wo)) (nI a) K := by
  have hl : z_len d ≤ 30 := hd.2.2.1
  unfold wp_X3_boundBehind
  rintro _ rfl
  intro E hE E2 _
  rw [zn_add]
  refine zl_from (fun n i => lp_X3_boundBehind_4 (nI (z_len d)) (nI (z_bds q d kn wo)) E E2 n (nI i)) (a + 1) k ?_ ?_ (by omega)
  · intro n
    rw [lp_X3_boundBehind_4]
    refine zb_f (by rw [zn_lt (by omega) (by omega)]; omega) (sx_hasBound hd h2 (fun _ => zb_f zi_1 (hE _ h)) (fun e => ?_))
    rw [h3] at e; cases e
  · intro n i h5 h6 ih
    rw [lp_X3_boundBehind_4]
    refine zb_f (by rw [zn_lt (by omega) (by omega)]; omega) (sx_hasBound hd (by omega) (fun e => ?_) (fun _ => zb_t zi_0 ?_))
    · rw [h4 i (by omega) h6] at e; cases e
    · rintro _ rfl
      rw [zn_add]; exact ih
theorem sx_behindN {d : zD} {b : Int32} {K : Int32 → Prop} (hd : zE d) (h : K (-4)) : wp_X3_boundBehind (nI (z_len d)) b (nI (z_len d)) K := by
  have hl : z_len d ≤ 30 := hd.2.2.1
  unfold wp_X3_boundBehind
  rintro _ rfl
  intro E hE E2 hE2
  refine ⟨1, ?_⟩
  rw [lp_X3_boundBehind_4, zn_add]
  exact zb_t (by rw [zn_lt (by omega) (by omega)]; omega) (hE2 h)
theorem sx_aheadT {q : zR} {d : zD} {kn : Nat → Nat} {wo a k : Nat} {K : Int32 → Prop} (hd : zE d) (ha : a ≤ z_len d) (h1 : k < a) (h3 : z_bd q d kn wo k = true) (h4 : ∀ j, k < j → j < a → z_bd q d kn wo j = false) (h : K (nI k)) : wp_X3_boundAhead (nI (z_bds q d kn wo)) (nI a) K := by
  have hl : z_len d ≤ 30 := hd.2.2.1
  unfold wp_X3_boundAhead
  rintro _ rfl
  intro E hE E2 _
  rw [zn_sub (by omega)]
  have key : ∃ n, lp_X3_boundAhead_4 (nI (z_bds q d kn wo)) E E2 n (nI (k + (a - 1 - k))) := by
    refine zl_down (σ := Unit) (fun n i _ => lp_X3_boundAhead_4 (nI (z_bds q d kn wo)) E E2 n (nI (k + i))) (fun i _ => k + i < a) ?_ ?_ (a - 1 - k) () (by omega)
    · intro n _ h5
      rw [lp_X3_boundAhead_4]
      refine zb_f (nI_pos (by omega)) (sx_hasBound hd (by omega) (fun _ => zb_f zi_1 (hE _ h)) (fun e => ?_))
      rw [Nat.add_zero, h3] at e; cases e
    · intro n i _ h5 ih
      rw [lp_X3_boundAhead_4]
      refine zb_f (nI_pos (by omega)) (sx_hasBound hd (by omega) (fun e => ?_) (fun _ => zb_t zi_0 ?_))
      · rw [h4 _ (by omega) h5] at e; cases e
      · rintro _ rfl
        rw [zn_m1 (by omega), show k + (i + 1) - 1 = k + i by omega]
        exact ih () (by omega)
  rw [show k + (a - 1 - k) = a - 1 by omega] at key
  exact key
theorem sx_aheadN {b : Int32} {K : Int32 → Prop} (h : K (-4)) : wp_X3_boundAhead b (nI 0) K := by
  unfold wp_X3_boundAhead
  rintro _ rfl
  intro E hE E2 hE2
  refine ⟨1, ?_⟩
  rw [lp_X3_boundAhead_4]
  exact zb_t (by decide) (hE2 h)
theorem zp_bt {pt : zF} {B : Nat → Bool} {k : Nat} {X Y : Prop} (hp : pt k = nI (B k).toNat) (h1 : B k = true → Y) (h0 : B k = false → X) : (pt k = 0 → X) ∧ (¬ pt k = 0 → Y) := by
  rw [hp]
  cases hb : B k with
  | true => exact zb_f (by decide) (h1 hb)
  | false => exact zb_t (by decide) (h0 hb)
theorem zO_isBoundary {q : zR} {d : zD} {l pl pb rules places without : Int32} {c k f ps rule takes behind s st pt : zF} (hq : zW q) (hd : zE d) (hD : xD d l c k f) (hP : xP q d pl pb ps) (hM : mR q rules places rule takes behind) (hm : mD s 0 d) (hwo : without = nI 0) (p : Int32) :
    ∃ r : Int32, (∀ K : Int32 → Prop, K r → wp_X9_isBoundary l pb p K) ∧ ∀ K : Int32 → zF → zF → Prop, (∀ st' pt', K r st' pt') → wp_X10_isBoundary rules places without rule takes behind s st pt p K := by
  have hl : z_len d ≤ 30 := hd.2.2.1
  have hz := hm.z
  obtain ⟨rfl, -, -, -⟩ := hD
  obtain ⟨rfl, rfl, -⟩ := hP
  rcases zc_at p (z_len d + 1) with ⟨j, hj, -, rfl⟩ | ho
  · refine ⟨nI (z_bd q d (z_knd d) 0 j).toNat, fun K h => ?_, fun K h => ?_⟩
    · unfold wp_X9_isBoundary
      refine sx_isPlace_t (by omega) (by omega) (zb_f2 zi_1 (sx_hasBound hd (by omega) (fun e => ?_) (fun e => ?_)))
      · rw [e] at h; exact zb_f zi_1 h
      · rw [e] at h; exact zb_t zi_0 h
    · unfold wp_X10_isBoundary
      refine sp_isPlace_t hz.2.2.1 (by omega) (by omega) (zb_f2 zi_1 (sp_walk0 hq hd hM hm hwo (by omega) (fun st' pt' hw => ?_)))
      rw [zn_in (by omega), zn_cl (by omega)]
      refine ⟨by omega, zp_bt (B := z_bd q d (z_knd d) 0) (hw.1 j (by omega)) (fun e => ?_) (fun e => ?_)⟩
      · rw [e] at h; exact h st' pt'
      · rw [e] at h; exact h st' pt'
  · refine ⟨-1, fun K h => ?_, fun K h => ?_⟩
    · unfold wp_X9_isBoundary; exact sx_isPlace_f (by omega) ho (zb_t2 zi_0 h)
    · unfold wp_X10_isBoundary; exact sp_isPlace_f hz.2.2.1 (by omega) ho (zb_t2 zi_0 (h _ _))
theorem sx_standAt {n j v : Nat} {ps : zF} {K : Int32 → Prop} (hn : n ≤ 30) (hj : j ≤ n) (hv : ps j = nI v) (h : K (nI v)) : wp_X3_standAt (nI n) ps (nI j) K := by
  unfold wp_X3_standAt
  refine zt_ltr (by omega) hj ?_
  rw [zn_in (by omega), zn_cl (by omega), hv]
  exact ⟨by omega, h⟩
theorem zO_stand {q : zR} {d : zD} {l pl pb rules places without : Int32} {c k f ps rule takes behind s st pt : zF} (hq : zW q) (hd : zE d) (hD : xD d l c k f) (hP : xP q d pl pb ps) (hM : mR q rules places rule takes behind) (hm : mD s 0 d) (hwo : without = nI 0) (p : Int32) :
    ∃ r : Int32, (∀ K : Int32 → Prop, K r → wp_X9_stand l pl ps p K) ∧ ∀ K : Int32 → zF → zF → Prop, (∀ st' pt', K r st' pt') → wp_X10_stand rules places without rule takes behind s st pt p K := by
  have hl : z_len d ≤ 30 := hd.2.2.1
  have hz := hm.z
  obtain ⟨rfl, -, -, -⟩ := hD
  obtain ⟨rfl, rfl, hst⟩ := hP
  rcases zc_at p (z_len d + 1) with ⟨j, hj, -, rfl⟩ | ho
  · by_cases e0 : j = 0
    · refine ⟨-4, fun K h => ?_, fun K h => ?_⟩
      · unfold wp_X9_stand
        exact sx_isPlace_t (by omega) (by omega) (zb_f2 zi_1 (zb_t2 (by rw [e0]; rfl) h))
      · unfold wp_X10_stand
        refine sp_isPlace_t hz.2.2.1 (by omega) (by omega) (zb_f2 zi_1 (sp_walk0 hq hd hM hm hwo (by omega) (fun st' pt' hw => ?_)))
        exact zb_t2 (by rw [e0]; rfl) (h _ _)
    · obtain ⟨i, rfl⟩ : ∃ i, j = i + 1 := ⟨j - 1, by omega⟩
      refine ⟨nI (z_st q d (z_knd d) 0 (i + 1)), fun K h => ?_, fun K h => ?_⟩
      · unfold wp_X9_stand
        refine sx_isPlace_t (by omega) (by omega) (zb_f2 zi_1 (zb_f2 (by rw [zn_eq0 (by omega)]; exact e0) ?_))
        exact sx_standAt hl (by omega) (hst i (by omega)) h
      · unfold wp_X10_stand
        refine sp_isPlace_t hz.2.2.1 (by omega) (by omega) (zb_f2 zi_1 (sp_walk0 hq hd hM hm hwo (by omega) (fun st' pt' hw => ?_)))
        refine zb_f2 (by rw [zn_eq0 (by omega)]; exact e0) ?_
        rw [zn_in (by omega), zn_cl (by omega), hw.2 i (by omega)]
        exact ⟨by omega, h _ _⟩
  · refine ⟨-1, fun K h => ?_, fun K h => ?_⟩
    · unfold wp_X9_stand; exact sx_isPlace_f (by omega) ho (zb_t2 zi_0 h)
    · unfold wp_X10_stand; exact sp_isPlace_f hz.2.2.1 (by omega) ho (zb_t2 zi_0 (h _ _))
