theorem z_ith (B : Nat → Bool) : ∀ {n i : Nat}, i < z_ct B n → ∃ k, k < n ∧ B k = true ∧ z_ct B k = i := by
  intro n
  induction n with
  | zero => intro i h; exact absurd h (Nat.not_lt_zero _)
  | succ n ih =>
    intro i h
    by_cases e : i < z_ct B n
    · obtain ⟨k, h1, h2, h3⟩ := ih e
      exact ⟨k, by omega, h2, h3⟩
    · rw [z_ct_S] at h
      cases hb : B n with
      | true =>
        rw [hb] at h
        have : true.toNat = 1 := rfl
        exact ⟨n, by omega, hb, by omega⟩
      | false =>
        rw [hb] at h
        have : false.toNat = 0 := rfl
        omega
theorem z_ct_gap {B : Nat → Bool} {a k : Nat} (ha : B a = true) (h : a < k) (h4 : ∀ j, a < j → j < k → B j = false) : z_ct B k = z_ct B a + 1 := by
  obtain ⟨m, rfl⟩ : ∃ m, k = a + 1 + m := ⟨k - (a + 1), by omega⟩
  rw [z_ct_add, z_ct_0 (f := fun j => B (a + 1 + j)) _ (fun j hj => h4 _ (by omega) (by omega)), z_ct_S, ha]
  rfl
theorem z_ct_inj {B : Nat → Bool} {a b : Nat} (ha : B a = true) (hb : B b = true) (h : z_ct B a = z_ct B b) : a = b := by
  have f : ∀ x y, B x = true → z_ct B x = z_ct B y → ¬ x < y := by
    intro x y hx e hlt
    have h1 := z_ct_mono B (show x + 1 ≤ y by omega)
    rw [z_ct_S, hx] at h1
    have : true.toNat = 1 := rfl
    omega
  have h1 := f a b ha h
  have h2 := f b a hb h.symm
  omega
theorem sx_beginning {q : zR} {d : zD} {kn : Nat → Nat} {wo i k : Nat} {K : Int32 → Prop} (hd : zE d) (hk : k < z_len d) (hB : z_bd q d kn wo k = true) (hc : z_ct (z_bd q d kn wo) k = i) (h : K (nI k)) : wp_X3_beginning (nI (z_len d)) (nI (z_bds q d kn wo)) (nI i) K := by
  have hl : z_len d ≤ 30 := hd.2.2.1
  have hi : i ≤ 30 := by have := z_ct_le (z_bd q d kn wo) k; omega
  have b0 := z_bd_0 q d kn wo
  have bn := z_bd_n q d kn wo
  unfold wp_X3_beginning
  intro E hE
  refine zl_inv (σ := Nat) (fun n t x => lp_X3_beginning_4 (nI (z_len d)) (nI (z_bds q d kn wo)) (nI i) E n (nI x) (nI t)) (fun t x => x < z_len d ∧ z_bd q d kn wo x = true ∧ z_ct (z_bd q d kn wo) x = t) i ?_ ?_ 0 0 (Nat.zero_le _) ⟨by omega, b0, rfl⟩
  · rintro n x ⟨h1, h2, h3⟩
    rw [lp_X3_beginning_4]
    have e : x = k := z_ct_inj h2 hB (by omega)
    rw [e]
    exact zb_t (by rw [zn_le (by omega) (by omega)]; omega) (hE _ h)
  · rintro n t x ht ⟨h1, h2, h3⟩ ih
    rw [lp_X3_beginning_4]
    refine zb_f (by rw [zn_le (by omega) (by omega)]; omega) ?_
    obtain ⟨y, h4, h5, h6, h7⟩ := z_nx' (z_bd q d kn wo) bn h1
    have h8 := z_ct_gap h2 h4 h7
    refine sx_behindT hd h4 h5 h6 h7 ?_
    rintro _ rfl
    rw [zn_add]
    refine ih y ⟨?_, h6, by omega⟩
    apply Classical.byContradiction
    intro hn
    have : y = z_len d := by omega
    have h9 := z_ct_mono (z_bd q d kn wo) (show k + 1 ≤ z_len d by omega)
    rw [z_ct_S, hB] at h9
    have : true.toNat = 1 := rfl
    have h10 : z_ct (z_bd q d kn wo) y = z_ct (z_bd q d kn wo) (z_len d) := by rw [‹y = z_len d›]
    omega
def z_in (q : zR) (g : Nat → Nat) (st : Nat) : Nat := zs_mk (fun r => !(g r &&& st == 0)) (z_nR q)
theorem sx_wholeIn {q : zR} {g : Nat → Nat} {st : Nat} {f : zF} {K : Int32 → Prop} (hq : zW q) (hf : ∀ r, r < z_nR q → f r = nI (g r)) (hg : ∀ r, r < z_nR q → g r < 2147483648) (h : K (nI (z_in q g st))) : wp_X4_wholeIn (nI (z_nR q)) f (nI st) K := by
  have hn : z_nR q ≤ 4 := hq.2.1
  unfold wp_X4_wholeIn
  intro E hE
  refine zl_cnt (fun n i => lp_X4_wholeIn_4 (nI (z_nR q)) f (nI st) E n (nI (zs_mk (fun r => !(g r &&& st == 0)) i)) (nI i)) (z_nR q) ?_ ?_ 0 (Nat.zero_le _)
  · intro n
    rw [lp_X4_wholeIn_4]
    exact zb_t (by rw [zn_le (by omega) (by omega)]; omega) (hE _ h)
  · intro n i hi ih
    have hgi := hg i hi
    have hb : g i &&& st < 2147483648 := Nat.lt_of_le_of_lt Nat.and_le_left hgi
    rw [lp_X4_wholeIn_4]
    refine zb_f (by rw [zn_le (by omega) (by omega)]; omega) ?_
    rw [zn_in (by omega), zn_cl (by omega), hf i hi, zn_and, zn_eq0 hb]
    refine ⟨by omega, fun e => ?_, fun e => ?_⟩
    · rintro _ rfl
      rw [zn_add]
      rw [zs_mk_f (by simp [e]), Nat.or_zero] at ih
      exact ih
    · rintro _ rfl _ rfl
      rw [zn_shl (by omega), zn_or, zn_add]
      rw [zs_mk_t (by simp [e])] at ih
      exact ih
theorem sx_withPlaceIn {q : zR} {g : Nat → Nat} {st : Nat} {f : zF} {K : Int32 → Prop} (hq : zW q) (hf : ∀ r, r < z_nR q → f r = nI (g r)) (hg : ∀ r, r < z_nR q → g r < 2147483648) (h : K (nI (z_in q g st))) : wp_X4_withPlaceIn (nI (z_nR q)) f (nI st) K := by
  have hn : z_nR q ≤ 4 := hq.2.1
  unfold wp_X4_withPlaceIn
  intro E hE
  refine zl_cnt (fun n i => lp_X4_withPlaceIn_4 (nI (z_nR q)) f (nI st) E n (nI (zs_mk (fun r => !(g r &&& st == 0)) i)) (nI i)) (z_nR q) ?_ ?_ 0 (Nat.zero_le _)
  · intro n
    rw [lp_X4_withPlaceIn_4]
    exact zb_t (by rw [zn_le (by omega) (by omega)]; omega) (hE _ h)
  · intro n i hi ih
    have hgi := hg i hi
    have hb : g i &&& st < 2147483648 := Nat.lt_of_le_of_lt Nat.and_le_left hgi
    rw [lp_X4_withPlaceIn_4]
    refine zb_f (by rw [zn_le (by omega) (by omega)]; omega) ?_
    rw [zn_in (by omega), zn_cl (by omega), hf i hi, zn_and, zn_eq0 hb]
    refine ⟨by omega, fun e => ?_, fun e => ?_⟩
    · rintro _ rfl
      rw [zn_add]
      rw [zs_mk_f (by simp [e]), Nat.or_zero] at ih
      exact ih
    · rintro _ rfl _ rfl
      rw [zn_shl (by omega), zn_or, zn_add]
      rw [zs_mk_t (by simp [e])] at ih
      exact ih
theorem sp_rulesIn {q : zR} {g : Nat → Nat} {st o : Nat} {f : zF} {K : Int32 → Prop} (hq : zW q) (ho : o ≤ 8) (hf : ∀ r, r < z_nR q → f (o + r) = nI (g r)) (hg : ∀ r, r < z_nR q → g r < 2147483648) (h : K (nI (z_in q g st))) : wp_X10_rulesIn (nI (z_nR q)) f (nI st) (nI o) K := by
  have hn : z_nR q ≤ 4 := hq.2.1
  unfold wp_X10_rulesIn
  intro E hE
  refine zl_cnt (fun n i => lp_X10_rulesIn_5 (nI (z_nR q)) f (nI st) (nI o) E n (nI (zs_mk (fun r => !(g r &&& st == 0)) i)) (nI i)) (z_nR q) ?_ ?_ 0 (Nat.zero_le _)
  · intro n
    rw [lp_X10_rulesIn_5]
    exact zb_t (by rw [zn_le (by omega) (by omega)]; omega) (hE _ h)
  · intro n i hi ih
    have hgi := hg i hi
    have hb : st &&& g i < 2147483648 := Nat.lt_of_le_of_lt Nat.and_le_right hgi
    rw [lp_X10_rulesIn_5]
    refine zb_f (by rw [zn_le (by omega) (by omega)]; omega) ?_
    rw [zn_add, zn_in (by omega), zn_cl (by omega), hf i hi, zn_and, zn_eq0 hb]
    refine ⟨by omega, fun e => ?_, fun e => ?_⟩
    · rintro _ rfl _ rfl
      rw [zn_or, zn_add]
      rw [Nat.and_comm] at e
      rw [zs_mk_f (by simp [e])] at ih
      exact ih
    · rintro _ rfl _ rfl
      rw [zn_shl (by omega), zn_or, zn_add]
      rw [Nat.and_comm] at e
      rw [zs_mk_t (by simp [e])] at ih
      exact ih
theorem zi_le_m1 {a : Nat} (ha : a < 2147483648) : ¬ nI a ≤ -1 := by
  intro h
  rw [Int32.le_iff_toInt_le, nI_toInt (by omega)] at h
  have : (-1 : Int32).toInt = -1 := by decide
  omega
theorem sp_findBegin {q : zR} {d : zD} {kn : Nat → Nat} {wo i k : Nat} {pt : zF} {E : Int32 → Prop} (hd : zE d) (hk : k < z_len d) (hB : z_bd q d kn wo k = true) (hc : z_ct (z_bd q d kn wo) k = i) (hw : ∀ k, k ≤ z_len d → pt k = nI (z_bd q d kn wo k).toNat) (h : E (nI (k + 1))) : ∃ n, lp_X10_piece_41 pt (nI i) E n (-1) (nI 0) := by
  have hl : z_len d ≤ 30 := hd.2.2.1
  have hi : i ≤ 30 := by have := z_ct_le (z_bd q d kn wo) k; omega
  have b0 := z_bd_0 q d kn wo
  have c1 : z_ct (z_bd q d kn wo) 1 = 1 := by rw [show (1 : Nat) = 0 + 1 from rfl, z_ct_S, b0]; rfl
  have key : ∃ n, lp_X10_piece_41 pt (nI i) E n (nI (z_ct (z_bd q d kn wo) 1 - 1)) (nI 1) := by
    refine zl_from (fun n j => lp_X10_piece_41 pt (nI i) E n (nI (z_ct (z_bd q d kn wo) j - 1)) (nI j)) 1 (k + 1) ?_ ?_ (by omega)
    · intro n
      rw [lp_X10_piece_41, z_ct_S, hB, hc]
      have : true.toNat = 1 := rfl
      exact zb_t (by rw [zn_le (by omega) (by omega)]; omega) h
    · intro n j h1 h2 ih
      have m1 := z_ct_mono (z_bd q d kn wo) h1
      have m2 := z_ct_mono (z_bd q d kn wo) (show j ≤ k by omega)
      rw [lp_X10_piece_41]
      refine zb_f ?_ ?_
      · rw [zn_le (by omega) (by omega)]; omega
      rw [zn_in (by omega), zn_cl (by omega)]
      refine ⟨by omega, zp_bt (B := z_bd q d kn wo) (hw j (by omega)) (fun e => ?_) (fun e => ?_)⟩
      · rintro _ rfl _ rfl
        rw [zn_add, zn_add]
        rw [z_ct_S, e] at ih
        have : true.toNat = 1 := rfl
        rw [show z_ct (z_bd q d kn wo) j + true.toNat - 1 = z_ct (z_bd q d kn wo) j - 1 + 1 by omega] at ih
        exact ih
      · rintro _ rfl _ rfl
        rw [zn_add, zn_add]
        rw [z_ct_S, e] at ih
        exact ih
  obtain ⟨n, hn⟩ := key
  refine ⟨n + 1, ?_⟩
  rw [lp_X10_piece_41]
  refine zb_f (zi_le_m1 (by omega)) ?_
  rw [zn_in (by omega), zn_cl (by omega)]
  refine ⟨by omega, zp_bt (B := z_bd q d kn wo) (hw 0 (by omega)) (fun e => ?_) (fun e => ?_)⟩
  · rintro _ rfl _ rfl
    rw [c1] at hn
    exact hn
  · rw [b0] at e; cases e
theorem sp_findEnd {q : zR} {d : zD} {kn : Nat → Nat} {wo a k : Nat} {pt : zF} {E : Int32 → Prop} (hd : zE d) (h1 : a < k) (h2 : k ≤ z_len d) (h3 : z_bd q d kn wo k = true) (h4 : ∀ j, a < j → j < k → z_bd q d kn wo j = false) (hw : ∀ k, k ≤ z_len d → pt k = nI (z_bd q d kn wo k).toNat) (h : E (nI k)) : ∃ n, lp_X10_piece_79 pt E n (nI (a + 1)) := by
  have hl : z_len d ≤ 30 := hd.2.2.1
  refine zl_from (fun n i => lp_X10_piece_79 pt E n (nI i)) (a + 1) k ?_ ?_ (by omega)
  · intro n
    rw [lp_X10_piece_79, zn_in (by omega), zn_cl (by omega)]
    have := zp_bt (B := z_bd q d kn wo) (Y := E (nI k)) (X := ∀ v5_15 : Int32, v5_15 = nI k + nI 1 → lp_X10_piece_79 pt E n v5_15) (hw k h2) (fun _ => h) (fun e => by rw [h3] at e; cases e)
    exact ⟨by omega, this.2, this.1⟩
  · intro n i h5 h6 ih
    rw [lp_X10_piece_79, zn_in (by omega), zn_cl (by omega)]
    have := zp_bt (B := z_bd q d kn wo) (Y := E (nI i)) (X := ∀ v5_15 : Int32, v5_15 = nI i + nI 1 → lp_X10_piece_79 pt E n v5_15) (hw i (by omega)) (fun e => by rw [h4 i (by omega) h6] at e; cases e) (fun _ => by
      rintro _ rfl
      rw [zn_add]; exact ih)
    exact ⟨by omega, this.2, this.1⟩
theorem zO_piece {q : zR} {d : zD} {nu pn pl pb rules places without : Int32} {P F Wh T Bh ps rule takes behind s st pt : zF} (hq : zW q) (hd : zE d) (hR : xR q nu pn P F Wh T Bh) (hP : xP q d pl pb ps) (hM : mR q rules places rule takes behind) (hm : mD s 0 d) (hwo : without = nI 0) (p p2 : Int32) :
    ∃ r : Int32, (∀ K : Int32 → Prop, K r → wp_X9_piece nu P Wh pl pb ps p p2 K) ∧ ∀ K : Int32 → zF → zF → Prop, (∀ st' pt', K r st' pt') → wp_X10_piece rules places without rule takes behind s st pt p p2 K := by
  have hl : z_len d ≤ 30 := hd.2.2.1
  obtain ⟨rfl, rfl, hr, -⟩ := hR
  obtain ⟨rfl, rfl, hst⟩ := hP
  have hcl := z_ct_le (z_bd q d (z_knd d) 0) (z_len d)
  have hwl : ∀ r, r < z_nR q → z_whl q r < 2147483648 := fun r h => by have := hq.bnd (hq.2.2.2.1 r h).2.1; omega
  have hol : ∀ r, r < z_nR q → z_of q r < 2147483648 := fun r h => by have := hq.bnd (hq.2.2.2.1 r h).2.2.1; omega
  have hM' := hM
  obtain ⟨rfl, rfl, hmr, -⟩ := hM'
  have bn := z_bd_n q d (z_knd d) 0
  rcases zc_at p (z_ct (z_bd q d (z_knd d) 0) (z_len d)) with ⟨i, hi, -, rfl⟩ | ho
  · rcases zc_at p2 4 with ⟨w, hw, -, rfl⟩ | ho2
    · obtain ⟨k, hk, hB, hc⟩ := z_ith _ hi
      obtain ⟨e, h1, h2, h3, h4⟩ := z_nx' (z_bd q d (z_knd d) 0) bn hk
      obtain ⟨e', rfl⟩ : ∃ e', e = e' + 1 := ⟨e - 1, by omega⟩
      have hX : ∀ (r : Int32) (K : Int32 → Prop), (w = 0 → nI k = r) → (w = 1 → nI (e' + 1 - k) = r) → (w = 2 → nI (z_in q (z_whl q) (z_st q d (z_knd d) 0 (e' + 1))) = r) → (w = 3 → nI (z_in q (z_of q) (z_st q d (z_knd d) 0 (e' + 1))) = r) → K r → wp_X9_piece (nI (z_nR q)) P Wh (nI (z_len d)) (nI (z_bds q d (z_knd d) 0)) ps (nI i) (nI w) K := by
        intro r K e0 e1 e2 e3 h
        unfold wp_X9_piece
        refine zb_f (nI_pos (by omega)) (sx_number hd (zb_f (by rw [zn_le (by omega) (by omega)]; omega) (zt_ler (by omega) (by omega) ?_)))
        refine sx_beginning hd hk hB hc (sx_behindT hd h1 h2 h3 h4 ?_)
        rw [zn_eq (by omega) (by omega), zn_eq (by omega) (by omega), zn_eq (by omega) (by omega), zn_sub (by omega)]
        refine ⟨fun h5 => by rw [e0 h5]; exact h, fun n0 => ⟨fun h5 => by rw [e1 h5]; exact h, fun n1 => ⟨fun h5 => ?_, fun n2 => ?_⟩⟩⟩
        · refine sx_standAt hl h2 (hst e' (by omega)) (sx_wholeIn hq (fun r h => (hr r h).2.2) hwl ?_)
          rw [e2 h5]; exact h
        · refine sx_standAt hl h2 (hst e' (by omega)) (sx_withPlaceIn hq (fun r h => (hr r h).1) hol ?_)
          rw [e3 (by omega)]; exact h
      have hY : ∀ (r : Int32) (K : Int32 → zF → zF → Prop), (w = 0 → nI k = r) → (w = 1 → nI (e' + 1 - k) = r) → (w = 2 → nI (z_in q (z_whl q) (z_st q d (z_knd d) 0 (e' + 1))) = r) → (w = 3 → nI (z_in q (z_of q) (z_st q d (z_knd d) 0 (e' + 1))) = r) → (∀ st' pt', K r st' pt') → wp_X10_piece (nI (z_nR q)) (nI (z_nP q)) without rule takes behind s st pt (nI i) (nI w) K := by
        intro r K e0 e1 e2 e3 h
        unfold wp_X10_piece
        refine sp_walk0 hq hd hM hm hwo (by omega) (fun st' pt' hww => ?_)
        refine sp_pieces (b := 0) hd (by omega) hm.2.2.1 hww.1 ?_
        refine sp_inm_t (by omega) hi (zb_f zi_1 (sp_in_t (by omega) (by omega) (zb_f2 zi_1 ?_)))
        intro E hE
        refine sp_findBegin hd hk hB hc hww.1 (hE _ ?_)
        rintro _ rfl
        rw [zn_m1 (by omega), Nat.add_sub_cancel]
        rintro _ rfl
        rw [zn_add]
        intro E2 hE2
        refine sp_findEnd hd h1 h2 h3 h4 hww.1 (hE2 _ ?_)
        rw [zn_eq0 (by omega), zn_eq (by omega) (by omega), zn_eq (by omega) (by omega), zn_sub (by omega), zn_in (by omega), zn_cl (by omega), hww.2 e' (by omega)]
        refine ⟨fun n0 => ⟨fun n1 => ⟨by omega, ?_⟩, fun h5 => by rw [e1 h5]; exact h _ _⟩, fun h5 => by rw [e0 h5]; exact h _ _⟩
        intro J hJ
        refine ⟨fun n2 => hJ _ (sp_rulesIn hq (by omega) (fun r h => (hmr r h).2.2) hol ?_), fun h5 => hJ _ (sp_rulesIn hq (by omega) (fun r h => (hmr r h).2.1) hwl ?_)⟩
        · rw [e3 (by omega)]; exact h _ _
        · rw [e2 h5]; exact h _ _
      have hw4 : w = 0 ∨ w = 1 ∨ w = 2 ∨ w = 3 := by omega
      rcases hw4 with rfl | rfl | rfl | rfl
      · exact ⟨_, fun K h => hX _ K (fun _ => rfl) (fun e => by omega) (fun e => by omega) (fun e => by omega) h, fun K h => hY _ K (fun _ => rfl) (fun e => by omega) (fun e => by omega) (fun e => by omega) h⟩
      · exact ⟨_, fun K h => hX _ K (fun e => by omega) (fun _ => rfl) (fun e => by omega) (fun e => by omega) h, fun K h => hY _ K (fun e => by omega) (fun _ => rfl) (fun e => by omega) (fun e => by omega) h⟩
      · exact ⟨_, fun K h => hX _ K (fun e => by omega) (fun e => by omega) (fun _ => rfl) (fun e => by omega) h, fun K h => hY _ K (fun e => by omega) (fun e => by omega) (fun _ => rfl) (fun e => by omega) h⟩
      · exact ⟨_, fun K h => hX _ K (fun e => by omega) (fun e => by omega) (fun e => by omega) (fun _ => rfl) h, fun K h => hY _ K (fun e => by omega) (fun e => by omega) (fun e => by omega) (fun _ => rfl) h⟩
    · refine ⟨-1, fun K h => ?_, fun K h => ?_⟩
      · unfold wp_X9_piece
        exact zb_f (nI_pos (by omega)) (sx_number hd (zb_f (by rw [zn_le (by omega) (by omega)]; omega) (zg_ler (by omega) ho2 h)))
      · unfold wp_X10_piece
        refine sp_walk0 hq hd hM hm hwo (by omega) (fun st' pt' hww => sp_pieces (b := 0) hd (by omega) hm.2.2.1 hww.1 ?_)
        exact sp_inm_t (by omega) hi (zb_f zi_1 (sp_in_f (by omega) ho2 (zb_t2 zi_0 (h _ _))))
  · refine ⟨-1, fun K h => ?_, fun K h => ?_⟩
    · unfold wp_X9_piece
      rcases ho with h1 | ⟨j, h1, h2, rfl⟩
      · exact zb_t h1 h
      · exact zb_f (nI_pos h2) (sx_number hd (zb_t (by rw [zn_le (by omega) h2]; exact h1) h))
    · unfold wp_X10_piece
      refine sp_walk0 hq hd hM hm hwo (by omega) (fun st' pt' hww => sp_pieces (b := 0) hd (by omega) hm.2.2.1 hww.1 ?_)
      exact sp_inm_f (by omega) ho (zb_t zi_0 (h _ _))
theorem zO_count {q : zR} {d : zD} {n kn m : Nat} {kI tl nu pn l an pl pb rules places acts kept len without : Int32} {P F Wh T Bh c k f ps rule takes behind s st pt : zF} (hq : zW q) (hd : zE d) (hR : xR q nu pn P F Wh T Bh) (hD : xD d l c k f) (hP : xP q d pl pb ps) (hM : mR q rules places rule takes behind) (hm : mD s 0 d) (hwo : without = nI 0) (h1 : an = acts) (h2 : kI = kept) (h3 : tl = len) (p : Int32) :
    ∃ r : Int32, (∀ K : Int32 → Prop, K r → wp_X9_count kI tl nu pn l an pb p K) ∧ ∀ K : Int32 → zF → zF → Prop, (∀ st' pt', K r st' pt') → wp_X10_count rules places acts kept len without rule takes behind s st pt p K := by
  have hl : z_len d ≤ 30 := hd.2.2.1
  subst h1 h2 h3
  have hz := hm.z
  obtain ⟨rfl, rfl, -⟩ := hR
  obtain ⟨rfl, -⟩ := hD
  obtain ⟨rfl, rfl, -⟩ := hP
  have hM' := hM
  obtain ⟨rfl, rfl, -⟩ := hM'
  rcases zc_at p 7 with ⟨j, hj, -, rfl⟩ | ho
  · have hX : ∀ (r : Int32) (K : Int32 → Prop), (j = 0 → nI (z_nR q) = r) → (j = 1 → nI (z_nP q) = r) → (j = 2 → nI (z_len d) = r) → (j = 3 → nI (z_ct (z_bd q d (z_knd d) 0) (z_len d)) = r) → (j = 4 → an = r) → (j = 5 → kI = r) → (j = 6 → tl = r) → K r → wp_X9_count kI tl (nI (z_nR q)) (nI (z_nP q)) (nI (z_len d)) an (nI (z_bds q d (z_knd d) 0)) (nI j) K := by
      intro r K e0 e1 e2 e3 e4 e5 e6 h
      unfold wp_X9_count
      rw [zn_eq (by omega) (by omega), zn_eq (by omega) (by omega), zn_eq (by omega) (by omega), zn_eq (by omega) (by omega), zn_eq (by omega) (by omega), zn_eq (by omega) (by omega), zn_eq (by omega) (by omega)]
      refine ⟨fun e => by rw [e0 e]; exact h, fun n0 => ⟨fun e => by rw [e1 e]; exact h, fun n1 => ⟨fun e => by rw [e2 e]; exact h, fun n2 => ⟨fun e => sx_number hd (by rw [e3 e]; exact h), fun n3 => ⟨fun e => by rw [e4 e]; exact h, fun n4 => ⟨fun e => by rw [e5 e]; exact h, fun n5 => ⟨fun e => by rw [e6 e]; exact h, fun n6 => by omega⟩⟩⟩⟩⟩⟩⟩
    have hY : ∀ (r : Int32) (K : Int32 → zF → zF → Prop), (j = 0 → nI (z_nR q) = r) → (j = 1 → nI (z_nP q) = r) → (j = 2 → nI (z_len d) = r) → (j = 3 → nI (z_ct (z_bd q d (z_knd d) 0) (z_len d)) = r) → (j = 4 → an = r) → (j = 5 → kI = r) → (j = 6 → tl = r) → (∀ st' pt', K r st' pt') → wp_X10_count (nI (z_nR q)) (nI (z_nP q)) an kI tl without rule takes behind s st pt (nI j) K := by
      intro r K e0 e1 e2 e3 e4 e5 e6 h
      unfold wp_X10_count
      refine sp_in_t (by omega) (by omega) (zb_f2 zi_1 (sp_walk0 hq hd hM hm hwo (by omega) (fun st' pt' hww => ?_)))
      rw [zn_eq0 (by omega), zn_eq (by omega) (by omega), zn_eq (by omega) (by omega), zn_eq (by omega) (by omega), zn_eq (by omega) (by omega), zn_eq (by omega) (by omega), zn_in (by omega), zn_cl (by omega), hz.2.2.1]
      refine ⟨fun n0 => ⟨fun n1 => ⟨fun n2 => ⟨fun n3 => ⟨fun n4 => ⟨fun n5 => by rw [e6 (by omega)]; exact h _ _, fun e => by rw [e5 e]; exact h _ _⟩, fun e => by rw [e4 e]; exact h _ _⟩, fun e => sp_pieces (b := 0) hd (by omega) hm.2.2.1 hww.1 (by rw [e3 e]; exact h _ _)⟩, fun e => ⟨by omega, by rw [e2 e]; exact h _ _⟩⟩, fun e => by rw [e1 e]; exact h _ _⟩, fun e => by rw [e0 e]; exact h _ _⟩
    have hw4 : j = 0 ∨ j = 1 ∨ j = 2 ∨ j = 3 ∨ j = 4 ∨ j = 5 ∨ j = 6 := by omega
    rcases hw4 with rfl | rfl | rfl | rfl | rfl | rfl | rfl
    · exact ⟨_, fun K h => hX _ K (fun _ => rfl) (fun e => by omega) (fun e => by omega) (fun e => by omega) (fun e => by omega) (fun e => by omega) (fun e => by omega) h, fun K h => hY _ K (fun _ => rfl) (fun e => by omega) (fun e => by omega) (fun e => by omega) (fun e => by omega) (fun e => by omega) (fun e => by omega) h⟩
    · exact ⟨_, fun K h => hX _ K (fun e => by omega) (fun _ => rfl) (fun e => by omega) (fun e => by omega) (fun e => by omega) (fun e => by omega) (fun e => by omega) h, fun K h => hY _ K (fun e => by omega) (fun _ => rfl) (fun e => by omega) (fun e => by omega) (fun e => by omega) (fun e => by omega) (fun e => by omega) h⟩
    · exact ⟨_, fun K h => hX _ K (fun e => by omega) (fun e => by omega) (fun _ => rfl) (fun e => by omega) (fun e => by omega) (fun e => by omega) (fun e => by omega) h, fun K h => hY _ K (fun e => by omega) (fun e => by omega) (fun _ => rfl) (fun e => by omega) (fun e => by omega) (fun e => by omega) (fun e => by omega) h⟩
    · exact ⟨_, fun K h => hX _ K (fun e => by omega) (fun e => by omega) (fun e => by omega) (fun _ => rfl) (fun e => by omega) (fun e => by omega) (fun e => by omega) h, fun K h => hY _ K (fun e => by omega) (fun e => by omega) (fun e => by omega) (fun _ => rfl) (fun e => by omega) (fun e => by omega) (fun e => by omega) h⟩
    · exact ⟨_, fun K h => hX _ K (fun e => by omega) (fun e => by omega) (fun e => by omega) (fun e => by omega) (fun _ => rfl) (fun e => by omega) (fun e => by omega) h, fun K h => hY _ K (fun e => by omega) (fun e => by omega) (fun e => by omega) (fun e => by omega) (fun _ => rfl) (fun e => by omega) (fun e => by omega) h⟩
    · exact ⟨_, fun K h => hX _ K (fun e => by omega) (fun e => by omega) (fun e => by omega) (fun e => by omega) (fun e => by omega) (fun _ => rfl) (fun e => by omega) h, fun K h => hY _ K (fun e => by omega) (fun e => by omega) (fun e => by omega) (fun e => by omega) (fun e => by omega) (fun _ => rfl) (fun e => by omega) h⟩
    · exact ⟨_, fun K h => hX _ K (fun e => by omega) (fun e => by omega) (fun e => by omega) (fun e => by omega) (fun e => by omega) (fun e => by omega) (fun _ => rfl) h, fun K h => hY _ K (fun e => by omega) (fun e => by omega) (fun e => by omega) (fun e => by omega) (fun e => by omega) (fun e => by omega) (fun _ => rfl) h⟩
  · refine ⟨-1, fun K h => ?_, fun K h => ?_⟩
    · unfold wp_X9_count
      exact zb_f (zc_ne ho (by omega) (by omega)) (zb_f (zc_ne ho (by omega) (by omega)) (zb_f (zc_ne ho (by omega) (by omega)) (zb_f (zc_ne ho (by omega) (by omega)) (zb_f (zc_ne ho (by omega) (by omega)) (zb_f (zc_ne ho (by omega) (by omega)) (zb_f (zc_ne ho (by omega) (by omega)) h))))))
    · unfold wp_X10_count
      exact sp_in_f (by omega) ho (zb_t2 zi_0 (h _ _))
