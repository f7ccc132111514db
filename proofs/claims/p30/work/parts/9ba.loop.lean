theorem sl_law57 {L : Nat} {xs : zF} {q : zR} {ro : Nat → Nat} {kI tl nu pn : Int32} {P F Wh T Bh y : zF} {E635 E675 E683 : Int32 → zF → zF → zF → Int32 → zF → zF → zF → Int32 → Int32 → zF → zF → Int32 → Int32 → zF → Int32 → zF → zF → Prop} (hL : L < 2147483648) (hro : zCo q ro) (hx : lR q y)
    (hE : ∀ (n : Nat) (hs : Nat → zD) (l : Int32) (c k f A W B : zF) (fi lo : Int32) (on ta : zF) (pl pb : Int32) (ps : zF) (fo : Int32) (w u : zF), xI q n hs nu pn l fi lo pl pb P F Wh T Bh c k f A W B on ta ps → E683 l c k f (nI n) A W B fi lo on ta pl pb ps fo w u) :
    ∀ (j i : Nat), i + j = 36 → ∀ (n : Nat) (hs : Nat → zD) (l : Int32) (c k f A W B : zF) (fi lo : Int32) (on ta : zF) (pl pb : Int32) (ps : zF) (fo : Int32) (w u : zF), xI q n hs nu pn l fi lo pl pb P F Wh T Bh c k f A W B on ta ps → lp_L_law_57 L xs kI tl nu pn P F Wh T Bh y E635 E675 E683 (j + 1) (nI i) l c k f (nI n) A W B fi lo on ta pl pb ps fo w u := by
  intro j
  induction j with
  | zero =>
    intro i hi n hs l c k f A W B fi lo on ta pl pb ps fo w u hI
    rw [show i = 36 by omega, lp_L_law_57]
    exact zb_t (by rw [zn_le (by omega) (by omega)]; omega) (hE n hs _ _ _ _ _ _ _ _ _ _ _ _ _ _ _ _ _ hI)
  | succ j ih =>
    intro i hi n hs l c k f A W B fi lo on ta pl pb ps fo w u hI
    obtain ⟨hq, hn, hEE, hR, hD, hA, hS, hP⟩ := id hI
    have hEn := hEE n (Nat.le_refl _)
    have hl30 : z_len (hs n) ≤ 30 := hEn.2.2.1
    have hR4 : z_nR q ≤ 4 := hq.2.1
    have hR1 : 1 ≤ z_nR q := hq.1
    have hzp := zh_n_pos n
    rw [lp_L_law_57, zn_add 14 i]
    refine zb_f (by rw [zn_le (by omega) (by omega)]; omega) (sl_cell hL (by omega) (fun v => sl_low (by omega) (by omega) (fun did hdid => ?_)))
    intro E111 h111
    refine sl_law87 hD.2.1 (fun w1 hw1 => h111 _ ?_)
    intro E143 h143
    refine sl_law114 hq hR hD.2.2.1 hx hw1 (fun w2 g1 g2 => h143 _ ?_)
    refine sx_count (j := 2) (r := nI (z_len (hs n))) hEn hR hD hP (by omega) (fun e => by omega) (fun e => by omega) (fun _ => rfl) (fun e => by omega) (fun e => by omega) (fun e => by omega) ?_
    rw [zn_in (a := 30) (by omega), zn_cl (a := 30) (by omega)]
    refine ⟨by omega, ?_⟩
    rintro _ rfl
    intro E186 h186
    refine sl_law156 hEn hD hR4 (fun j hj => by rw [zu_n (by omega)]; exact g1 j hj) (fun r hr => by rw [zu_n (by omega)]; exact g2 r hr) zu_s (fun w3 hw3 => h186 _ ?_)
    refine sx_count (j := 4) (r := nI n) hEn hR hD hP (by omega) (fun e => by omega) (fun e => by omega) (fun e => by omega) (fun e => by omega) (fun _ => rfl) (fun e => by omega) ?_
    refine sl_into (fun u' hu => ?_)
    have hu3 : lD (z_nR q) (hs n) u' := hw3.copy hR4 hl30 hu
    intro J585 h585
    have act : ∀ (d' : zD) (g : Int32) (l' : Int32) (c' k' f' A' W' B' : zF) (fi' lo' : Int32) (on' ta' : zF) (pl' pb' : Int32) (ps' : zF) (fo' : Int32) (w' : zF), xI q (zh_n n) (zh_p n hs d') nu pn l' fi' lo' pl' pb' P F Wh T Bh c' k' f' A' W' B' on' ta' ps' → lD (z_nR q) d' w' → J585 (nI 1) g g l' c' k' f' (nI (zh_n n)) A' W' B' fi' lo' on' ta' pl' pb' ps' fo' w' := by
      intro d' g l' c' k' f' A' W' B' fi' lo' on' ta' pl' pb' ps' fo' w' hI2 hw'
      apply h585
      intro J606 h606 J604 h604
      obtain ⟨-, hn2, hE2, hR2, hD2, hA2, hS2, hP2⟩ := id hI2
      have hw2 : lD (z_nR q) (zh_p n hs d' (zh_n n)) w' := by rw [zh_p_n]; exact hw'
      have e606 : J606 (nI (zh_n n)) := by
        apply h606
        refine zb_t2 rfl (sl_same hI2 hro hx hw2 (zb_f zi_1 ?_))
        refine sx_count (j := 4) (r := nI (zh_n n)) (hE2 _ (Nat.le_refl _)) hR2 hD2 hP2 (by omega) (fun e => by omega) (fun e => by omega) (fun e => by omega) (fun e => by omega) (fun _ => rfl) (fun e => by omega) (zb_t rfl ?_)
        refine sl_low (by omega) (by omega) (fun a ha => ?_)
        refine ⟨fun _ => ?_, fun _ => zb_f zi_1 ?_⟩
        · rintro _ rfl
          rw [zn_add]
          exact ih (i + 1) (by omega) _ _ _ _ _ _ _ _ _ _ _ _ _ _ _ _ _ _ _ hI2
        · refine sx_undo hI2 hzp (fun l2 c2 k2 f2 fi2 lo2 on2 ta2 pl2 pb2 ps2 fo2 hI3 => ?_)
          refine zb_t2 (zn_sub (by omega)).symm (sl_same hI3 hro hx ?_ (zb_f2 zi_1 ?_))
          · rw [zh_p_prev hn]; exact hu3
          · rintro _ rfl
            rw [zn_add]
            exact ih (i + 1) (by omega) _ _ _ _ _ _ _ _ _ _ _ _ _ _ _ _ _ _ _ hI3
      refine zb_f zi_1 ?_
      by_cases e : n = 8
      · rw [zh_n_8 e] at e606
        exact zb_t (by rw [zn_le (by omega) (by omega)]; omega) (h604 (by rw [e]; exact e606))
      · rw [zh_n_S e] at e606
        exact zb_f (by rw [zn_le (by omega) (by omega)]; omega) (by rw [zn_add]; exact e606)
    have non : ∀ (w' : zF), lD (z_nR q) (hs n) w' → J585 (nI 0) (-2) (-2) l c k f (nI n) A W B fi lo on ta pl pb ps fo w' := by
      intro w' hw'
      apply h585
      intro J606 h606 J604 h604
      refine zb_t zi_0 (h604 (h606 _ ?_))
      refine zb_t2 rfl (sl_same hI hro hx hw' (zb_f zi_1 ?_))
      refine sx_count (j := 4) (r := nI n) hEn hR hD hP (by omega) (fun e => by omega) (fun e => by omega) (fun e => by omega) (fun e => by omega) (fun _ => rfl) (fun e => by omega) (zb_t rfl ?_)
      refine sl_low (by omega) (by omega) (fun a ha => ?_)
      have next : ∀ v : Int32, v = nI i + nI 1 → lp_L_law_57 L xs kI tl nu pn P F Wh T Bh y E635 E675 E683 (j + 1) v l c k f (nI n) A W B fi lo on ta pl pb ps fo w' u' := by
        rintro _ rfl
        rw [zn_add]
        exact ih (i + 1) (by omega) _ _ _ _ _ _ _ _ _ _ _ _ _ _ _ _ _ _ _ hI
      exact ⟨fun _ => next, fun _ => zb_t zi_0 next⟩
    intro J322 h322
    have e322 : J322 := by
      apply h322
      intro J418 h418
      have e418 : J418 := by
        apply h418
        refine ⟨fun _ => ?_, fun _ => ?_⟩
        · rw [zn_in (a := 0) (by omega), zn_cl (a := 0) (by omega), hx.1]
          refine ⟨by omega, sl_low hR1 (by omega) (fun r hr => sl_low (by omega) (by omega) (fun x hxx => ?_))⟩
          have hk := hEn.2.1 r (by omega)
          rw [zn_add 26 r, zn_in (a := 26 + r) (by omega), zn_cl (a := 26 + r) (by omega), hw3.2.1 r hr]
          refine ⟨by omega, ?_⟩
          intro J543 h543
          by_cases e : z_knd (hs n) r = x
          · have e543 : J543 (nI 0) := by
              apply h543
              intro J563 h563
              refine zb_t zi_0 (h563 _ ⟨by omega, ?_⟩)
              rintro _ rfl
              exact sx_renameNo hI hr hxx e (non _ (hw3.renNo hR4 hr e))
            exact zb_t (by rw [e]) e543
          · have e543 : J543 (nI 1) := by
              apply h543
              intro J563 h563
              refine zb_f zi_1 ⟨by omega, h563 _ ⟨by omega, ?_⟩⟩
              rintro _ rfl
              exact sx_rename hI hr hxx e (fun k' A' W' B' fi' lo' on' ta' pl' pb' ps' fo' hI2 => act _ _ _ _ _ _ _ _ _ _ _ _ _ _ _ _ _ _ hI2 (hw3.ren hR4 hr))
            exact zb_f (by rw [zn_eq (by omega) (by omega)]; exact e) e543
        · refine sl_low (by omega) (by omega) (fun a ha => sl_low (by omega) (by omega) (fun x hxx => ?_))
          have hc := hEn.1 a ha
          rw [zn_in (a := a) (by omega), zn_cl (a := a) (by omega), hw3.1 a ha]
          refine ⟨by omega, ?_⟩
          intro J463 h463
          by_cases e : z_cls (hs n) a = x
          · have e463 : J463 (nI 0) := by
              apply h463
              intro J480 h480
              refine zb_t zi_0 (h480 _ ⟨by omega, ?_⟩)
              rintro _ rfl
              exact sx_tellNo hI ha hxx e (non _ (hw3.telNo ha e))
            exact zb_t (by rw [e]) e463
          · have e463 : J463 (nI 1) := by
              apply h463
              intro J480 h480
              refine zb_f zi_1 ⟨by omega, h480 _ ⟨by omega, ?_⟩⟩
              rintro _ rfl
              exact sx_tell hI ha hxx e (fun c' A' W' B' pl' pb' ps' hI2 => act _ _ _ _ _ _ _ _ _ _ _ _ _ _ _ _ _ _ hI2 (hw3.tel ha))
            exact zb_f (by rw [zn_eq (by omega) (by omega)]; exact e) e463
      refine ⟨fun _ => e418, fun _ => ?_⟩
      rw [hw3.2.2.1, zn_le0 (by omega)]
      refine ⟨by omega, fun _ => e418, fun e => ⟨by omega, sl_low (by omega) (by omega) (fun a ha => ?_)⟩⟩
      rw [zn_add 31 a, zn_in (a := 31 + a) (by omega), zn_cl (a := 31 + a) (by omega), hw3.2.2.2 a ha]
      refine ⟨by omega, ?_⟩
      rintro _ rfl
      intro E398 h398
      refine sl_law364 ha hl30 hw3.2.2.1 (fun w4 k1 k2 => h398 _ ?_)
      rw [k1 30 (by omega), hw3.2.2.1, zn_sub (by omega)]
      refine ⟨by omega, ?_⟩
      rintro _ rfl
      refine ⟨by omega, ?_⟩
      rintro _ rfl
      exact sx_erase hI ha (fun l' f' A' W' B' pl' pb' ps' hI2 => act _ _ _ _ _ _ _ _ _ _ _ _ _ _ _ _ _ _ hI2 (hw3.ers hR4 ha k1 k2))
    refine ⟨fun _ => e322, fun _ => ?_⟩
    rw [hw3.2.2.1, zn_le (a := 30) (by omega) (by omega), zn_add (z_len (hs n)) 1]
    refine ⟨by omega, fun _ => e322, fun e => ⟨by omega, sl_low (by omega) (by omega) (fun a ha => sl_low (by omega) (by omega) (fun x hxx => ⟨by omega, ?_⟩))⟩⟩
    rintro _ rfl
    intro E283 h283
    refine sl_law254 (by omega) (by omega) (fun w4 k1 k2 => h283 _ ?_)
    have e11 : upd w4 (31 + a) (nI x) 30 + nI 1 = nI (z_len (hs n) + 1) := by rw [zu_n (by omega), k1 30 (by omega), hw3.2.2.1, zn_add]
    rw [zn_add 31 a, zn_in (a := 31 + a) (by omega), zn_cl (a := 31 + a) (by omega)]
    refine ⟨by omega, ?_⟩
    rintro _ rfl
    refine ⟨by omega, ?_⟩
    rintro _ rfl
    refine ⟨by omega, ?_⟩
    rintro _ rfl
    refine ⟨by omega, ?_⟩
    rintro _ rfl
    rw [e11, zu_s]
    exact sx_insert hI (by omega) (by omega) hxx (fun l' f' A' W' B' pl' pb' ps' hI2 => act _ _ _ _ _ _ _ _ _ _ _ _ _ _ _ _ _ _ hI2 (hw3.ins hR4 (by omega) k1 k2))
