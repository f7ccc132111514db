/-- the text, as both sides hold it -/
def xT (m : Nat) (t : Nat → Nat) (tl : Int32) (signs : zF) : Prop := tl = nI m ∧ ∀ i, i < m → signs i = nI (t i)
def mT (m : Nat) (t : Nat → Nat) (len : Int32) (text : zF) : Prop := len = nI m ∧ ∀ i, i < m → text i = nI (t i)
def zT (m : Nat) (t : Nat → Nat) : Prop := m ≤ 200 ∧ ∀ i, i < m → 32 ≤ t i ∧ t i ≤ 126
theorem zk_byte1 : ∀ a, a < 8 → ∀ b, b < 16 → vp_nar .byte (nI (16 * a + b)).toInt8.toInt32 = nI (16 * a + b) := by decide
theorem zk_byte (j : Nat) (h : j < 127) : vp_nar .byte (nI j).toInt8.toInt32 = nI j := by
  have := zk_byte1 (j / 16) (by omega) (j % 16) (by omega)
  rw [show 16 * (j / 16) + j % 16 = j by omega] at this
  exact this
theorem sp_in_lo {j lo hi : Nat} {K : Int32 → Prop} (hj : j < 2147483648) (hl : lo < 2147483648) (hh : hi < 2147483648) (h1 : lo ≤ j → j ≤ hi → K (nI 1)) (h0 : j < lo ∨ hi < j → K (nI 0)) : wp_X10_in (nI j).toInt64 (lN lo) (lN hi) K := by
  unfold wp_X10_in
  rw [lg_cmp_lt, lg_cmp_gt, nI_l (by omega), lN_lt (by omega) (by omega), lN_lt (by omega) (by omega)]
  exact ⟨fun h => h0 (Or.inl h), fun h => ⟨fun h2 => h0 (Or.inr h2), fun h2 => h1 (by omega) (by omega)⟩⟩
theorem sp_in_neg {p : Int32} {lo hi : Nat} {K : Int32 → Prop} (hp : p < 0) (hl : lo < 2147483648) (h0 : K (nI 0)) : wp_X10_in p.toInt64 (lN lo) (lN hi) K := by
  unfold wp_X10_in
  rw [lg_cmp_lt]
  refine zb_t ?_ h0
  have h1 := Int32.lt_iff_toInt_lt.mp hp
  rw [Int64.lt_iff_toInt_lt, Int32.toInt_toInt64, lN_toInt (by omega)]
  have h2 : (0 : Int32).toInt = 0 := by decide
  omega
theorem zO_write {m : Nat} {t : Nat → Nat} {tl len : Int32} {signs text : zF} (hT : zT m t) (hx : xT m t tl signs) (hm : mT m t len text) (p : Int32) :
    ∃ (r : Int32) (m' : Nat) (t' : Nat → Nat), zT m' t' ∧ (∀ K : Int32 → Int32 → zF → Prop, (∀ (tl' : Int32) (signs' : zF), xT m' t' tl' signs' → K r tl' signs') → wp_X9_write tl signs p K) ∧ ∀ K : Int32 → Int32 → zF → Prop, (∀ (len' : Int32) (text' : zF), mT m' t' len' text' → K r len' text') → wp_X10_write len text p K := by
  have hx' := hx
  have hm' := hm
  obtain ⟨rfl, hx⟩ := hx
  obtain ⟨rfl, hm⟩ := hm
  have hmm := hT.1
  rcases zc_of p with hn | ⟨j, hj, rfl⟩
  · refine ⟨-1, m, t, hT, fun K h => ?_, fun K h => ?_⟩
    · unfold wp_X9_write
      refine zb_t ?_ (h _ _ hx')
      have h1 := Int32.lt_iff_toInt_lt.mp hn
      rw [Int32.lt_iff_toInt_lt]
      have h2 : (0 : Int32).toInt = 0 := by decide
      have h3 : (nI 32).toInt = 32 := by decide
      omega
    · unfold wp_X10_write
      exact sp_in_neg hn (by omega) (zb_t2 zi_0 (h _ _ hm'))
  · by_cases hr : 32 ≤ j ∧ j ≤ 126
    · by_cases hf : m = 200
      · refine ⟨-3, m, t, hT, fun K h => ?_, fun K h => ?_⟩
        · unfold wp_X9_write wp_X7_length
          refine zb_f (by rw [zn_lt hj (by omega)]; omega) (zb_t (by rw [zn_le hj (by omega)]; omega) ?_)
          exact zb_f (by rw [zn_lt (by omega) (by omega)]; omega) (h _ _ hx')
        · unfold wp_X10_write
          refine sp_in_lo hj (by omega) (by omega) (fun _ _ => ?_) (fun _ => by omega)
          exact zb_f2 zi_1 (zb_t2 (by rw [hf]) (h _ _ hm'))
      · have hT' : zT (m + 1) (fun i => if i = m then j else t i) := by
          refine ⟨by omega, fun i hi => ?_⟩
          show 32 ≤ (if i = m then j else t i) ∧ (if i = m then j else t i) ≤ 126
          by_cases e : i = m
          · rw [if_pos e]; exact hr
          · rw [if_neg e]; exact hT.2 i (by omega)
        have up : ∀ f : zF, (∀ i, i < m → f i = nI (t i)) → ∀ i, i < m + 1 → upd f m (nI j) i = nI (if i = m then j else t i) := by
          intro f hf2 i hi
          rw [zu_e]
          by_cases e : i = m
          · rw [if_pos e, if_pos e]
          · rw [if_neg e, if_neg e]; exact hf2 i (by omega)
        refine ⟨nI (m + 1), m + 1, _, hT', fun K h => ?_, fun K h => ?_⟩
        · unfold wp_X9_write wp_X7_length
          refine zb_f (by rw [zn_lt hj (by omega)]; omega) (zb_t (by rw [zn_le hj (by omega)]; omega) ?_)
          refine zb_t (by rw [zn_lt (by omega) (by omega)]; omega) ?_
          unfold wp_X7_add
          refine zb_f (by rw [zn_le (by omega) (by omega)]; omega) ?_
          rw [zn_in (by omega), zn_cl (by omega)]
          refine ⟨by omega, ?_⟩
          rintro _ rfl
          rintro _ rfl
          rw [zn_add]
          exact h _ _ ⟨rfl, up signs hx⟩
        · unfold wp_X10_write
          refine sp_in_lo hj (by omega) (by omega) (fun _ _ => ?_) (fun _ => by omega)
          refine zb_f2 zi_1 (zb_f2 (by rw [zn_eq (by omega) (by omega)]; omega) ?_)
          rintro _ rfl
          rw [zn_in (by omega), zn_cl (by omega), zk_byte j (by omega)]
          refine ⟨by omega, ?_⟩
          rintro _ rfl
          rintro _ rfl
          rw [zn_add]
          exact h _ _ ⟨rfl, up text hm⟩
    · refine ⟨-1, m, t, hT, fun K h => ?_, fun K h => ?_⟩
      · unfold wp_X9_write
        rw [zn_lt hj (by omega), zn_le hj (by omega)]
        exact ⟨fun _ => h _ _ hx', fun h1 => ⟨fun h2 => absurd ⟨by omega, by omega⟩ hr, fun _ => h _ _ hx'⟩⟩
      · unfold wp_X10_write
        exact sp_in_lo hj (by omega) (by omega) (fun h1 h2 => absurd ⟨h1, h2⟩ hr) (fun _ => zb_t2 zi_0 (h _ _ hm'))
theorem zO_wipe {m : Nat} {t : Nat → Nat} {tl len : Int32} {signs text : zF} (hx : xT m t tl signs) (hm : mT m t len text) :
    ∃ r : Int32, (∀ K : Int32 → Int32 → Prop, (xT 0 t (nI 0) signs → K r (nI 0)) → wp_X9_wipe tl K) ∧ ∀ K : Int32 → Int32 → Prop, (mT 0 t (nI 0) text → K r (nI 0)) → wp_X10_wipe len K := by
  refine ⟨nI m, fun K h => ?_, fun K h => ?_⟩
  · rw [hx.1]
    exact h ⟨rfl, fun i hi => absurd hi (Nat.not_lt_zero _)⟩
  · rw [hm.1]
    exact h ⟨rfl, fun i hi => absurd hi (Nat.not_lt_zero _)⟩
/-- what is kept -/
def mK (kn : Nat) (kp : Nat → zD) (s : zF) : Prop := ∀ i, i < kn → mD s (549 + i * 61) (kp i)
def xK (kn : Nat) (kp : Nat → zD) (ll : Int32) (lc lk lf : zF) (ul : Int32) (uc uk uf : zF) : Prop := (0 < kn → xD (kp 0) ll lc lk lf) ∧ (1 < kn → xD (kp 1) ul uc uk uf)
theorem mK.frame {kn : Nat} {kp : Nat → zD} {s s' : zF} (h : mK kn kp s) (hE : ∀ i, i < kn → zE (kp i)) (hk : kn ≤ 2) (hs : ∀ j, 549 ≤ j → j < 671 → s' j = s j) : mK kn kp s' :=
  fun i hi => (h i hi).frame (hE i hi) (fun j h1 h2 => hs j (by omega) (by omega))
theorem zO_keep {n kn : Nat} {hs kp : Nat → zD} {kI l ll ul : Int32} {c k f lc lk lf uc uk uf s : zF} (hn : n ≤ 8) (hE : ∀ i, i ≤ n → zE (hs i)) (hk : kn ≤ 2) (hKE : ∀ i, i < kn → zE (kp i)) (hkI : kI = nI kn) (hD : xD (hs n) l c k f) (hK : xK kn kp ll lc lk lf ul uc uk uf) (hm : mH n hs s) (hmK : mK kn kp s) :
    ∃ (r : Int32) (kn' : Nat) (kp' : Nat → zD), kn' ≤ 2 ∧ (∀ i, i < kn' → zE (kp' i)) ∧ (∀ K : Int32 → Int32 → Int32 → zF → zF → zF → Int32 → zF → zF → zF → Prop, (∀ (ll' : Int32) (lc' lk' lf' : zF) (ul' : Int32) (uc' uk' uf' : zF), xK kn' kp' ll' lc' lk' lf' ul' uc' uk' uf' → K r (nI kn') ll' lc' lk' lf' ul' uc' uk' uf') → wp_X9_keep kI l c k f ll lc lk lf ul uc uk uf K) ∧ ∀ K : Int32 → Int32 → zF → Prop, (∀ s' : zF, mH n hs s' → mK kn' kp' s' → K r (nI kn') s') → wp_X10_keep kI s K := by
  subst hkI
  have hEn := hE n (Nat.le_refl _)
  by_cases e : kn = 2
  · refine ⟨-3, kn, kp, hk, hKE, fun K h => ?_, fun K h => ?_⟩
    · unfold wp_X9_keep
      exact zb_f (by rw [zn_lt (by omega) (by omega)]; omega) (h _ _ _ _ _ _ _ _ hK)
    · unfold wp_X10_keep
      exact zb_t2 (by rw [e]) (h s hm hmK)
  · refine ⟨nI (kn + 1), kn + 1, fun i => if i = kn then hs n else kp i, by omega, fun i hi => ?_, fun K h => ?_, fun K h => ?_⟩
    · show zE (if i = kn then hs n else kp i)
      by_cases e2 : i = kn
      · rw [if_pos e2]; exact hEn
      · rw [if_neg e2]; exact hKE i (by omega)
    · unfold wp_X9_keep
      refine zb_t (by rw [zn_lt (by omega) (by omega)]; omega) ?_
      unfold wp_X9_keptAt
      rw [zn_eq0 (by omega)]
      refine ⟨fun e0 => ⟨fun h2 => absurd h2 (by decide), fun _ => ?_⟩, fun e0 => ⟨fun _ => ?_, fun h2 => absurd h2 (by decide)⟩⟩
      · obtain rfl : kn = 1 := by omega
        refine sx_become hEn hD (fun l' c' k' f' hD' => ?_)
        rintro _ rfl
        rw [zn_add]
        exact h _ _ _ _ _ _ _ _ ⟨fun _ => hK.1 (by omega), fun _ => hD'⟩
      · subst e0
        refine sx_become hEn hD (fun l' c' k' f' hD' => ?_)
        rintro _ rfl
        rw [zn_add]
        exact h _ _ _ _ _ _ _ _ ⟨fun _ => hD', fun h2 => absurd h2 (by omega)⟩
    · unfold wp_X10_keep
      refine zb_f2 (by rw [zn_eq (by omega) (by omega)]; exact e) ?_
      rw [zn_mul, zn_add]
      refine sp_copies (b := 0) (by omega) (by omega) (by omega) (fun s' h1 h2 => ?_)
      rintro _ rfl
      rw [zn_add]
      refine h s' ⟨hm.1.frame hEn (fun j _ h3 => h2 j (by omega)), fun i hi => (hm.2 i hi).frame (hE i (by omega)) (fun j _ h3 => h2 j (by omega))⟩ (fun i hi => ?_)
      show mD s' (549 + i * 61) (if i = kn then hs n else kp i)
      by_cases e2 : i = kn
      · rw [if_pos e2, e2]; exact hm.1.copy hEn h1
      · rw [if_neg e2]
        exact (hmK i (by omega)).frame (hKE i (by omega)) (fun j h3 h4 => h2 j (by omega))
theorem zO_restore {q : zR} {n kn : Nat} {hs kp : Nat → zD} {nu pn kI l ll ul an fi lo pl pb fo : Int32} {P F Wh T Bh c k f lc lk lf uc uk uf on ta ps s : zF} (hq : zW q) (hR : xR q nu pn P F Wh T Bh) (hn : n ≤ 8) (hE : ∀ i, i ≤ n → zE (hs i)) (hk : kn ≤ 2) (hKE : ∀ i, i < kn → zE (kp i)) (hkI : kI = nI kn) (han : an = nI n) (hD : xD (hs n) l c k f) (hS : xS q (z_knd (hs n)) fi lo on ta) (hP : xP q (hs n) pl pb ps) (hK : xK kn kp ll lc lk lf ul uc uk uf) (hm : mH n hs s) (hmK : mK kn kp s) :
    ∃ (r : Int32) (n' kn' : Nat) (hs' : Nat → zD), n' ≤ 8 ∧ (∀ i, i ≤ n' → zE (hs' i)) ∧ kn' ≤ kn ∧ (n' = 0 ∨ (n' = n ∧ hs' = hs)) ∧ (∀ K : Int32 → Int32 → Int32 → zF → zF → zF → Int32 → Int32 → Int32 → zF → zF → Int32 → Int32 → zF → Int32 → Prop, (∀ (l' : Int32) (c' k' f' : zF) (fi' lo' : Int32) (on' ta' : zF) (pl' pb' : Int32) (ps' : zF) (fo' : Int32), xD (hs' n') l' c' k' f' → xS q (z_knd (hs' n')) fi' lo' on' ta' → xP q (hs' n') pl' pb' ps' → ((fo' = fo ∧ z_knd (hs' n') = z_knd (hs n)) ∨ fo' = nI 0) → K r (nI kn') l' c' k' f' (nI n') fi' lo' on' ta' pl' pb' ps' fo') → wp_X9_restore kI nu pn P F Wh T Bh l c k f ll lc lk lf ul uc uk uf an fi lo on ta pl pb ps fo K) ∧ ∀ K : Int32 → Int32 → Int32 → zF → Prop, (∀ s' : zF, mH n' hs' s' → (∀ j, 549 ≤ j → s' j = s j) → K r (nI n') (nI kn') s') → wp_X10_restore an kI s K := by
  subst hkI
  subst han
  by_cases e : kn = 0
  · refine ⟨-2, n, kn, hs, hn, hE, Nat.le_refl _, Or.inr ⟨rfl, rfl⟩, fun K h => ?_, fun K h => ?_⟩
    · have h := h _ _ _ _ _ _ _ _ _ _ _ _ hD hS hP (Or.inl ⟨rfl, rfl⟩)
      unfold wp_X9_restore
      exact zb_t2 (by rw [e]; rfl) h
    · unfold wp_X10_restore
      exact zb_t2 (by rw [e]; rfl) (h s hm (fun _ _ => rfl))
  · have hE1 := hKE (kn - 1) (by omega)
    refine ⟨nI (kn - 1), 0, kn - 1, fun _ => kp (kn - 1), by omega, fun _ _ => hE1, by omega, Or.inl rfl, fun K h => ?_, fun K h => ?_⟩
    · unfold wp_X9_restore
      refine zb_f2 (by rw [zn_eq0 (by omega)]; exact e) ?_
      rintro _ rfl
      rw [zn_sub (by omega)]
      unfold wp_X9_keptAt wp_X0_forget
      rw [zn_eq0 (by omega)]
      refine ⟨fun e0 => ⟨fun h2 => absurd h2 (by decide), fun _ => ?_⟩, fun e0 => ⟨fun _ => ?_, fun h2 => absurd h2 (by decide)⟩⟩
      · obtain rfl : kn = 2 := by omega
        refine sx_become hE1 (hK.2 (by omega)) (fun l' c' k' f' hD' => ?_)
        exact sx_rules hq hR hE1 hD' (fun fi' lo' on' ta' pl' pb' ps' hS' hP' => h _ _ _ _ _ _ _ _ _ _ _ _ hD' hS' hP' (Or.inr rfl))
      · obtain rfl : kn = 1 := by omega
        refine sx_become hE1 (hK.1 (by omega)) (fun l' c' k' f' hD' => ?_)
        exact sx_rules hq hR hE1 hD' (fun fi' lo' on' ta' pl' pb' ps' hS' hP' => h _ _ _ _ _ _ _ _ _ _ _ _ hD' hS' hP' (Or.inr rfl))
    · unfold wp_X10_restore
      refine zb_f2 (by rw [zn_eq0 (by omega)]; exact e) ?_
      rintro _ rfl
      rw [zn_sub (by omega), zn_mul, zn_add]
      refine sp_copies (b' := 0) (by omega) (by omega) (by omega) (fun s' h1 h2 => ?_)
      exact h s' ⟨(hmK (kn - 1) (by omega)).copy hE1 h1, fun i hi => absurd hi (Nat.not_lt_zero _)⟩ (fun j hj => h2 j (by omega))
