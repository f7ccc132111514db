/-! the class's groups -/
def x_gf (nx g : zF) (a y : Nat) : Int32 := if nx (a * 6 + y) = -1 then -1 else g (nx (a * 6 + y)).toNatClampNeg
theorem x_gf_0 {go : Nat → Nat → Nat} {L : List Nat} {nx g : zF} {a y : Nat} (h : xN go L nx a y) (e : go (z_nth L a) y = 0) : x_gf nx g a y = -1 := by
  unfold x_gf
  rw [h.1 e, if_pos rfl]
theorem x_gf_1 {go : Nat → Nat → Nat} {L : List Nat} {nx g : zF} {a y : Nat} (h : xN go L nx a y) (hL : L.length ≤ 1024) (e : ¬ go (z_nth L a) y = 0) : ∃ k, k < L.length ∧ z_nth L k = go (z_nth L a) y ∧ x_gf nx g a y = g k := by
  obtain ⟨k, k1, k2, k3⟩ := h.2 e
  refine ⟨k, k1, k2, ?_⟩
  unfold x_gf
  rw [k3, if_neg (by rw [zn_eqm1 (by omega)]; exact id), zn_cl (by omega)]
theorem x_gf_iff {go : Nat → Nat → Nat} {L : List Nat} {nx g : zF} {t a b y : Nat} (hG : xG (z_rw go L t) L.length g) (hL : L.length ≤ 1024) (ha : xN go L nx a y) (hb : xN go L nx b y) : x_gf nx g a y = x_gf nx g b y ↔ ((go (z_nth L a) y = 0 ↔ go (z_nth L b) y = 0) ∧ (¬ go (z_nth L a) y = 0 → z_rl go t (go (z_nth L a) y) (go (z_nth L b) y) = true)) := by
  by_cases ea : go (z_nth L a) y = 0
  · rw [x_gf_0 ha ea]
    by_cases eb : go (z_nth L b) y = 0
    · rw [x_gf_0 hb eb]
      exact ⟨fun _ => ⟨⟨fun _ => eb, fun _ => ea⟩, fun e => absurd ea e⟩, fun _ => rfl⟩
    · obtain ⟨k, k1, k2, k3⟩ := x_gf_1 (g := g) hb hL eb
      obtain ⟨v, v1, v2⟩ := hG.val hL k1
      rw [k3, v2]
      refine ⟨fun e => ?_, fun e => absurd (e.1.mp ea) eb⟩
      have e2 := e.symm
      rw [zn_eqm1 (by omega)] at e2
      exact e2.elim
  · obtain ⟨i, i1, i2, i3⟩ := x_gf_1 (g := g) ha hL ea
    by_cases eb : go (z_nth L b) y = 0
    · obtain ⟨v, v1, v2⟩ := hG.val hL i1
      rw [i3, x_gf_0 hb eb, v2, zn_eqm1 (by omega)]
      exact ⟨False.elim, fun e => ea (e.1.mpr eb)⟩
    · obtain ⟨k, k1, k2, k3⟩ := x_gf_1 (g := g) hb hL eb
      rw [i3, k3, hG.iff (z_rw_V go L t) hL i1 k1]
      unfold z_rw
      rw [i2, k2]
      exact ⟨fun e => ⟨⟨fun z => absurd z ea, fun z => absurd z eb⟩, fun _ => e⟩, fun e => e.2 ea⟩
theorem x_gf_all {go : Nat → Nat → Nat} {L : List Nat} {nx g : zF} {t a b : Nat} (hG : xG (z_rw go L t) L.length g) (hL : L.length ≤ 1024) (hN : ∀ a y, y < 6 → a < L.length → xN go L nx a y) (ha : a < L.length) (hb : b < L.length) : z_rw go L (t + 1) a b = true ↔ ∀ y, y < 6 → x_gf nx g a y = x_gf nx g b y := by
  unfold z_rw
  rw [z_rl_iff]
  exact ⟨fun h y hy => (x_gf_iff hG hL (hN a y hy ha) (hN b y hy hb)).mpr (h y hy), fun h y hy => (x_gf_iff hG hL (hN a y hy ha) (hN b y hy hb)).mp (h y hy)⟩
/-- where a way leads is a place, or it ends -/
def xZ (nx : zF) (N : Nat) : Prop := ∀ a y, y < 6 → a < N → nx (a * 6 + y) = -1 ∨ ∃ k, k < 1024 ∧ nx (a * 6 + y) = nI k
theorem xN.z {go : Nat → Nat → Nat} {L : List Nat} {nx : zF} (hL : L.length ≤ 1024) (hN : ∀ a y, y < 6 → a < L.length → xN go L nx a y) : xZ nx L.length := by
  intro a y hy ha
  by_cases e : go (z_nth L a) y = 0
  · exact Or.inl ((hN a y hy ha).1 e)
  · obtain ⟨k, k1, k2, k3⟩ := (hN a y hy ha).2 e
    exact Or.inr ⟨k, by omega, k3⟩
theorem sx_groupBehind {nx g : zF} {N a y : Nat} {K : Int32 → Prop} (hZ : xZ nx N) (hN : N ≤ 1024) (ha : a < N) (hy : y < 6) (h : K (x_gf nx g a y)) : wp_X1_groupBehind 6144 g nx (nI a) (nI y) K := by
  unfold wp_X1_groupBehind
  rintro _ rfl
  intro J hJ J2 hJ2
  rw [zn_mul, zn_add, zn_in (by omega), zn_cl (by omega)]
  refine zt_le (by omega) (by omega) ⟨by omega, hJ _ ?_⟩
  unfold x_gf at h
  rcases hZ a y hy ha with e | ⟨k, k1, e⟩
  · rw [e, if_pos rfl] at h
    rw [e]
    exact zb_t (by decide) h
  · rw [e, if_neg (by rw [zn_eqm1 (by omega)]; exact id), zn_cl (by omega)] at h
    rw [e, zn_in (by omega), zn_cl (by omega)]
    exact zt_le (by omega) k1 ⟨k1, h⟩
theorem sx_doTheSame {nx g : zF} {N a b : Nat} {K : Int32 → Prop} (hZ : xZ nx N) (hN : N ≤ 1024) (ha : a < N) (hb : b < N) (h1 : (∀ y, y < 6 → x_gf nx g a y = x_gf nx g b y) → K (nI 1)) (h0 : ∀ y, y < 6 → ¬ x_gf nx g a y = x_gf nx g b y → K (nI 0)) : wp_X1_doTheSame 6144 g nx (nI a) (nI b) K := by
  unfold wp_X1_doTheSame
  intro E hE E2 hE2
  refine zl_inv (σ := Unit) (fun n i _ => lp_X1_doTheSame_3 6144 g nx (nI a) (nI b) E E2 n (nI i)) (fun i _ => ∀ y, y < i → x_gf nx g a y = x_gf nx g b y) 6 ?_ ?_ 0 () (Nat.zero_le _) (fun y hy => absurd hy (Nat.not_lt_zero _))
  · intro n _ hk
    rw [lp_X1_doTheSame_3]
    exact zb_t (by rw [zn_le (by omega) (by omega)]; omega) (hE2 (h1 hk))
  · intro n i _ hi hk ih
    rw [lp_X1_doTheSame_3]
    refine zb_f (by rw [zn_le (by omega) (by omega)]; omega) ?_
    refine sx_groupBehind hZ hN ha hi (sx_groupBehind hZ hN hb hi ?_)
    refine ⟨fun e => ?_, fun e => hE (h0 i hi e)⟩
    rintro _ rfl
    rw [zn_add]
    refine ih () (fun y hy => ?_)
    by_cases q : y = i
    · subst q; exact e
    · exact hk y (by omega)
def x_hs (f : Nat → Int32) : Nat → Int32
  | 0 => nI 0
  | n + 1 => ((x_hs f n * nI 31) + f n) + nI 1
theorem x_hs_S (f : Nat → Int32) (n : Nat) : x_hs f (n + 1) = ((x_hs f n * nI 31) + f n) + nI 1 := rfl
theorem x_hs_c {f g : Nat → Int32} : ∀ n, (∀ j, j < n → f j = g j) → x_hs f n = x_hs g n
  | 0, _ => rfl
  | n + 1, h => by rw [x_hs_S, x_hs_S, x_hs_c n (fun j hj => h j (by omega)), h n (by omega)]
def x_hm (v : Int32) : Int32 := (v ^^^ ((v.toUInt32 >>> ((nI 15).toUInt32 &&& Int32.toUInt32 31)).toInt32)) &&& (nI 2047)
theorem zn_self (v : Int32) : v = nI v.toBitVec.toNat := by
  apply Int32.toBitVec_inj.1
  rw [zn_bv]
  simp
theorem zn_mask (v : Int32) : ∃ b, b < 2048 ∧ v &&& nI 2047 = nI b := by
  rw [zn_self v, zn_and]
  exact ⟨_, Nat.lt_of_le_of_lt Nat.and_le_right (by decide), rfl⟩
def x_bk (nx g : zF) (a : Nat) : Nat := (x_hm (x_hs (x_gf nx g a) 6)).toNatClampNeg
theorem x_bk_c {nx g : zF} {a b : Nat} (h : ∀ y, y < 6 → x_gf nx g a y = x_gf nx g b y) : x_bk nx g a = x_bk nx g b := by
  unfold x_bk
  rw [x_hs_c 6 h]
theorem x_bk_v (nx g : zF) (a : Nat) : x_bk nx g a < 2048 ∧ x_hm (x_hs (x_gf nx g a) 6) = nI (x_bk nx g a) := by
  unfold x_bk
  obtain ⟨b, b1, b2⟩ := zn_mask ((x_hs (x_gf nx g a) 6) ^^^ (((x_hs (x_gf nx g a) 6).toUInt32 >>> ((nI 15).toUInt32 &&& Int32.toUInt32 31)).toInt32))
  have e : x_hm (x_hs (x_gf nx g a) 6) = nI b := b2
  rw [e, zn_cl (by omega)]
  exact ⟨b1, rfl⟩
theorem sx_bucketOf {nx g : zF} {N a : Nat} {K : Int32 → Prop} (hZ : xZ nx N) (hN : N ≤ 1024) (ha : a < N) (h : K (nI (x_bk nx g a))) : wp_X1_bucketOf 6144 g nx (nI a) K := by
  unfold wp_X1_bucketOf
  intro E hE
  have fin : E (x_hs (x_gf nx g a) 6) := by
    apply hE
    rw [← (x_bk_v nx g a).2] at h
    exact h
  refine zl_cnt (fun n i => lp_X1_bucketOf_5 6144 g nx (nI a) E n (x_hs (x_gf nx g a) i) (nI i)) 6 ?_ ?_ 0 (Nat.zero_le _)
  · intro n
    rw [lp_X1_bucketOf_5]
    exact zb_t (by rw [zn_le (by omega) (by omega)]; omega) fin
  · intro n i hi ih
    rw [lp_X1_bucketOf_5]
    refine zb_f (by rw [zn_le (by omega) (by omega)]; omega) ?_
    refine sx_groupBehind hZ hN ha hi ?_
    rintro _ rfl _ rfl
    rw [zn_add]
    exact ih
/-- the last of those ahead of k -/
def z_ls (f : Nat → Bool) : Nat → Int32
  | 0 => -1
  | k + 1 => if f k then nI k else z_ls f k
theorem z_ls_t {f : Nat → Bool} {k : Nat} (h : f k = true) : z_ls f (k + 1) = nI k := by
  show (if f k then nI k else z_ls f k) = _
  rw [if_pos h]
theorem z_ls_f {f : Nat → Bool} {k : Nat} (h : f k = false) : z_ls f (k + 1) = z_ls f k := by
  show (if f k then nI k else z_ls f k) = _
  rw [if_neg (by rw [h]; decide)]
theorem z_ls_cases (f : Nat → Bool) : ∀ m, (z_ls f m = -1 ∧ ∀ j, j < m → f j = false) ∨ ∃ e, e < m ∧ f e = true ∧ z_ls f m = nI e ∧ ∀ j, e < j → j < m → f j = false
  | 0 => Or.inl ⟨rfl, fun j hj => absurd hj (Nat.not_lt_zero _)⟩
  | m + 1 => by
    cases h : f m with
    | true => exact Or.inr ⟨m, by omega, h, z_ls_t h, fun j h1 h2 => by omega⟩
    | false =>
      rw [z_ls_f h]
      rcases z_ls_cases f m with ⟨h1, h2⟩ | ⟨e, e1, e2, e3, e4⟩
      · refine Or.inl ⟨h1, fun j hj => ?_⟩
        by_cases q : j = m
        · subst q; exact h
        · exact h2 j (by omega)
      · refine Or.inr ⟨e, by omega, e2, e3, fun j j1 j2 => ?_⟩
        by_cases q : j = m
        · subst q; exact h
        · exact e4 j j1 (by omega)
/-- chains of the first ones of groups by their buckets -/
def xC (R : Nat → Nat → Bool) (bk : Nat → Nat) (k : Nat) (bu ch : zF) : Prop := (∀ b, b < 2048 → bu b = z_ls (fun e => z_new R e && bk e == b) k) ∧ ∀ e, e < k → z_new R e = true → ch e = z_ls (fun e' => z_new R e' && bk e' == bk e) e
theorem xC.new {R : Nat → Nat → Bool} {bk : Nat → Nat} {k : Nat} {bu ch : zF} (h : xC R bk k bu ch) (hk : z_new R k = true) (hb : bk k < 2048) : xC R bk (k + 1) (upd bu (bk k) (nI k)) (upd ch k (bu (bk k))) := by
  refine ⟨fun b hb2 => ?_, fun e he hn => ?_⟩
  · by_cases q : b = bk k
    · rw [q, zu_s]
      have h1 : (fun e => z_new R e && bk e == bk k) k = true := by
        show (z_new R k && bk k == bk k) = true
        rw [hk, beq_self_eq_true]; rfl
      exact (z_ls_t h1).symm
    · rw [zu_n q, h.1 b hb2]
      have h1 : (fun e => z_new R e && bk e == b) k = false := by
        show (z_new R k && bk k == b) = false
        rw [beq_eq_false_iff_ne.mpr (fun z => q z.symm), Bool.and_false]
      exact (z_ls_f h1).symm
  · by_cases q : e = k
    · subst q
      rw [zu_s, h.1 _ hb]
    · rw [zu_n q]; exact h.2 e (by omega) hn
theorem xC.old {R : Nat → Nat → Bool} {bk : Nat → Nat} {k : Nat} {bu ch : zF} (h : xC R bk k bu ch) (hk : z_new R k = false) : xC R bk (k + 1) bu ch := by
  refine ⟨fun b hb2 => ?_, fun e he hn => ?_⟩
  · rw [h.1 b hb2]
    have h1 : (fun e => z_new R e && bk e == b) k = false := by
      show (z_new R k && bk k == b) = false
      rw [hk]; rfl
    exact (z_ls_f h1).symm
  · by_cases q : e = k
    · subst q
      rw [hk] at hn; cases hn
    · exact h.2 e (by omega) hn
theorem sx_firstLike {go : Nat → Nat → Nat} {L : List Nat} {nx g bu ch : zF} {t k : Nat} {K : Int32 → Prop} (hL : L.length ≤ 1024) (hG : xG (z_rw go L t) L.length g) (hN : ∀ a y, y < 6 → a < L.length → xN go L nx a y) (hk : k < L.length) (hC : xC (z_rw go L (t + 1)) (x_bk nx g) k bu ch)
    (h1 : ∀ e, e < k → z_new (z_rw go L (t + 1)) e = true → z_rw go L (t + 1) e k = true → K (nI e)) (h0 : z_new (z_rw go L (t + 1)) k = true → K (-1)) : wp_X1_firstLike 6144 g bu ch nx (nI k) (nI (x_bk nx g k)) K := by
  have hb := (x_bk_v nx g k).1
  have hZ := xN.z hL hN
  unfold wp_X1_firstLike
  rw [zn_in (by omega), zn_cl (by omega), hC.1 _ hb]
  refine ⟨hb, ?_⟩
  rintro _ rfl
  intro E hE E2 hE2
  refine zl_inv (σ := Int32) (fun n p v => lp_X1_firstLike_11 6144 g ch nx (nI k) E E2 n v (nI p)) (fun p v => ∃ m, m + p ≤ k ∧ v = z_ls (fun e => z_new (z_rw go L (t + 1)) e && x_bk nx g e == x_bk nx g k) m ∧ ∀ e, m ≤ e → e < k → z_new (z_rw go L (t + 1)) e = true → z_rw go L (t + 1) e k = false) 1024 ?_ ?_ 0 _ (Nat.zero_le _) ⟨k, Nat.le_refl _, rfl, fun e q1 q2 => by omega⟩
  · rintro n v ⟨m, m1, -, -⟩
    omega
  · rintro n p v hp ⟨m, m1, rfl, m3⟩ ih
    rw [lp_X1_firstLike_11]
    refine zb_f (by rw [zn_le (by omega) (by omega)]; omega) ?_
    rcases z_ls_cases (fun e => z_new (z_rw go L (t + 1)) e && x_bk nx g e == x_bk nx g k) m with ⟨e1, e2⟩ | ⟨e, e1, e2, e3, e4⟩
    · rw [e1]
      refine zb_t rfl (hE2 (h0 ?_))
      cases hn : z_new (z_rw go L (t + 1)) k with
      | true => rfl
      | false =>
        obtain ⟨e, f1, f2, f3⟩ := z_new_of (z_rw_V go L (t + 1)) k
        have hek : e < k := by
          rcases Nat.lt_or_ge e k with q | q
          · exact q
          · have q2 : e = k := by omega
            rw [q2, hn] at f2; cases f2
        rcases Nat.lt_or_ge e m with q | q
        · have q2 : (z_new (z_rw go L (t + 1)) e && x_bk nx g e == x_bk nx g k) = false := e2 e q
          have q3 := x_bk_c ((x_gf_all hG hL hN (by omega) hk).mp f3)
          rw [f2, q3, beq_self_eq_true] at q2
          cases q2
        · have q2 := m3 e q hek f2
          rw [f3] at q2; cases q2
    · have e2' : (z_new (z_rw go L (t + 1)) e && x_bk nx g e == x_bk nx g k) = true := e2
      rw [Bool.and_eq_true, beq_iff_eq] at e2'
      rw [e3]
      refine zb_f (by rw [zn_eqm1 (by omega)]; exact id) ?_
      refine sx_doTheSame hZ hL (by omega) hk (fun s => zb_f zi_1 (hE _ (h1 e (by omega) e2'.1 ((x_gf_all hG hL hN (by omega) hk).mpr s)))) (fun y hy s => zb_t rfl ?_)
      rw [zn_in (by omega), zn_cl (by omega)]
      refine ⟨by omega, ?_⟩
      rintro _ rfl _ rfl
      rw [zn_add]
      refine ih _ ⟨e, by omega, ?_, fun j j1 j2 j3 => ?_⟩
      · rw [hC.2 e (by omega) e2'.1, e2'.2]
      · by_cases q : j = e
        · subst q
          cases hr : z_rw go L (t + 1) j k with
          | false => rfl
          | true => exact absurd ((x_gf_all hG hL hN (by omega) hk).mp hr y hy) s
        · rcases Nat.lt_or_ge j m with q2 | q2
          · have q3 : (z_new (z_rw go L (t + 1)) j && x_bk nx g j == x_bk nx g k) = false := e4 j (by omega) q2
            cases hr : z_rw go L (t + 1) j k with
            | false => rfl
            | true =>
              rw [j3, x_bk_c ((x_gf_all hG hL hN (by omega) hk).mp hr), beq_self_eq_true] at q3
              cases q3
          · exact m3 j q2 j2 j3
theorem sx_partFiner {go : Nat → Nat → Nat} {L : List Nat} {nx g fi bu ch : zF} {t : Nat} {K : Int32 → zF → zF → zF → zF → Prop} (hL : L.length ≤ 1024) (hG : xG (z_rw go L t) L.length g) (hN : ∀ a y, y < 6 → a < L.length → xN go L nx a y)
    (h : ∀ g' fi' bu' ch' : zF, xG (z_rw go L (t + 1)) L.length g' → K (nI (z_nu go L (t + 1))) g' fi' bu' ch') : wp_X1_partFiner 6144 g fi bu ch nx (nI L.length) K := by
  have hZ := xN.z hL hN
  have hV := z_rw_V go L (t + 1)
  unfold wp_X1_partFiner
  refine sx_fill (by omega) (fun bu0 hbu0 => ?_)
  intro E hE
  refine zl_inv (σ := zF × zF × zF) (fun n i s => lp_X1_partFiner_13 6144 g nx (nI L.length) E n (nI (z_ct (z_new (z_rw go L (t + 1))) i)) (nI i) s.1 s.2.1 s.2.2) (fun i s => xG (z_rw go L (t + 1)) i s.1 ∧ xC (z_rw go L (t + 1)) (x_bk nx g) i s.2.1 s.2.2) L.length ?_ ?_ 0 (fi, bu0, ch) (Nat.zero_le _) ⟨fun i hi => absurd hi (Nat.not_lt_zero _), fun b hb => hbu0 b hb, fun e he => absurd he (Nat.not_lt_zero _)⟩
  · rintro n ⟨s1, s2, s3⟩ ⟨g1, g2⟩
    show lp_X1_partFiner_13 6144 g nx (nI L.length) E (n + 1) (nI (z_ct (z_new (z_rw go L (t + 1))) L.length)) (nI L.length) s1 s2 s3
    rw [lp_X1_partFiner_13]
    refine zb_t (by rw [zn_le (by omega) (by omega)]; exact Nat.le_refl _) (hE _ _ _ _ ?_)
    rw [zn_lt0 (by omega), zn_lt0 (by omega), zn_cl (by omega), zn_cl (by omega)]
    refine ⟨id, id, id, by omega, by omega, ?_⟩
    rintro _ rfl
    refine h _ _ _ _ (fun i hi => ?_)
    have g1 : xG (z_rw go L (t + 1)) L.length s1 := g1
    rw [zv_cpy (by omega)]
    exact g1 i hi
  · rintro n i ⟨s1, s2, s3⟩ hi ⟨g1, g2⟩ ih
    have g1 : xG (z_rw go L (t + 1)) i s1 := g1
    have g2 : xC (z_rw go L (t + 1)) (x_bk nx g) i s2 s3 := g2
    have hb := (x_bk_v nx g i).1
    show lp_X1_partFiner_13 6144 g nx (nI L.length) E (n + 1) (nI (z_ct (z_new (z_rw go L (t + 1))) i)) (nI i) s1 s2 s3
    rw [lp_X1_partFiner_13]
    refine zb_f (by rw [zn_le (by omega) (by omega)]; omega) (zb_f (by rw [zn_le (by omega) (by omega)]; omega) ?_)
    refine sx_bucketOf hZ hL hi ?_
    refine sx_firstLike hL hG hN hi g2 (fun e e1 e2 e3 => zb_f2 (by rw [zn_eqm1 (by omega)]; exact id) ?_) (fun hn => zb_t2 rfl ?_)
    · rw [zn_in (by omega), zn_cl (by omega)]
      refine ⟨by omega, ?_⟩
      rintro _ rfl
      rw [zn_in (by omega), zn_cl (by omega)]
      refine ⟨by omega, ?_⟩
      rintro _ rfl _ rfl
      rw [zn_add]
      have hno := z_new_no e1 e3
      have h3 := ih (_, s2, s3) ⟨g1.old hV e1 e2 e3, g2.old hno⟩
      rw [z_ct_S, hno] at h3
      exact h3
    · rw [zn_in (a := i) (by omega), zn_cl (a := i) (by omega), zn_in (by omega), zn_cl (by omega)]
      refine ⟨by omega, ?_⟩
      rintro _ rfl _ rfl
      refine ⟨by omega, ?_⟩
      rintro _ rfl
      refine ⟨by omega, ?_⟩
      rintro _ rfl
      refine ⟨by omega, ?_⟩
      rintro _ rfl _ rfl
      rw [zn_add, zn_add]
      have h3 := ih (_, _, _) ⟨g1.new hV hn, g2.new hn hb⟩
      rw [z_ct_S, hn] at h3
      exact h3
theorem sx_part {go : Nat → Nat → Nat} {L : List Nat} {nx g0 fi bu ch : zF} {K : Int32 → zF → zF → zF → zF → Prop} (h0 : 0 < L.length) (hL : L.length ≤ 1024) (hN : ∀ a y, y < 6 → a < L.length → xN go L nx a y)
    (h : ∀ g' fi' bu' ch' : zF, K (nI (z_us go L 1024 0)) g' fi' bu' ch') : wp_X1_part 6144 g0 fi bu ch nx (nI L.length) K := by
  unfold wp_X1_part
  refine sx_fill (by omega) (fun g1 hg1 => ?_)
  intro E hE E2 hE2
  have key : ∃ n, lp_X1_part_13 6144 nx (nI L.length) E E2 n (nI (z_nu go L 0)) (nI 0) g1 fi bu ch := by
    refine zl_inv (σ := zF × zF × zF × zF) (fun n i s => lp_X1_part_13 6144 nx (nI L.length) E E2 n (nI (z_nu go L i)) (nI i) s.1 s.2.1 s.2.2.1 s.2.2.2) (fun i s => xG (z_rw go L i) L.length s.1 ∧ z_us go L (1024 - i) i = z_us go L 1024 0) 1024 ?_ ?_ 0 (g1, fi, bu, ch) (Nat.zero_le _) ⟨xG.zero (fun _ _ => rfl) (fun i hi => hg1 i (by omega)), rfl⟩
    · rintro n ⟨s1, s2, s3, s4⟩ ⟨-, u1⟩
      show lp_X1_part_13 6144 nx (nI L.length) E E2 (n + 1) (nI (z_nu go L 1024)) (nI 1024) s1 s2 s3 s4
      rw [lp_X1_part_13]
      refine zb_t (by rw [zn_le (by omega) (by omega)]; omega) (hE2 _ _ _ _ _ ?_)
      have u2 : z_nu go L 1024 = z_us go L 1024 0 := u1
      rw [u2]
      exact h _ _ _ _
    · rintro n i ⟨s1, s2, s3, s4⟩ hi ⟨g1, u1⟩ ih
      have g1 : xG (z_rw go L i) L.length s1 := g1
      have n1 := z_nu_le go L i
      have n2 := z_nu_le go L (i + 1)
      have u1 : z_us go L (1024 - i) i = z_us go L 1024 0 := u1
      rw [show 1024 - i = (1024 - (i + 1)) + 1 by omega, z_us_S] at u1
      show lp_X1_part_13 6144 nx (nI L.length) E E2 (n + 1) (nI (z_nu go L i)) (nI i) s1 s2 s3 s4
      rw [lp_X1_part_13]
      refine zb_f (by rw [zn_le (by omega) (by omega)]; omega) ?_
      refine sx_partFiner hL g1 hN (fun g' fi' bu' ch' k1 => ?_)
      rw [zn_eq (by omega) (by omega)]
      refine ⟨fun e => ?_, fun e => hE _ _ _ _ _ ?_⟩
      · rintro _ rfl
        rw [zn_add]
        rw [if_neg e] at u1
        exact ih (g', fi', bu', ch') ⟨k1, u1⟩
      · rw [if_pos e] at u1
        rw [e, u1]
        exact h _ _ _ _
  rw [z_nu_0 h0] at key
  exact key
