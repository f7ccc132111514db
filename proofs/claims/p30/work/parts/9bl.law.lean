/-! THE LAW, on every script -/
theorem law_pure {L : Nat} (xs : zF) (hL : L < 2147483648) : wp_L_law L xs := by
  unfold wp_L_law
  refine sx_init (fun tl nu pn ph l fi lo pl pb signs P F Wh T B pf pla pw c k f on ta ps i1 i2 i3 i4 i5 => ?_)
  refine sl_draws hL (fun NT rw' ln d x y z hN1 hN3 hG hE hD => ?_)
  refine sl_lays hG hN1 hN3 hE hD (fun D tl' rs' ps0' nu' pn' ph' l' fi' lo' pl' pb' fo' signs' P' F' Wh' T' B' pf' pla' pw' c' k' f' on' ta' ps' hW hED hR hXD hS hP => ?_)
  have hlR : lR (zqs rw' ln NT) x := ⟨by rw [zqs_nR]; exact hG.1, hG.2.1, hG.2.2.1.1, hG.2.2.1.2⟩
  obtain ⟨ro, hro⟩ := zqs_Co rw' ln NT
  rw [zn_in (a := 0) (by omega), zn_cl (a := 0) (by omega), hG.1]
  refine ⟨by omega, zb_t rfl ?_⟩
  intro E635 h635 E675 h675 E683 h683
  refine ⟨36 + 1, by omega, ?_⟩
  refine sl_law57 hL hro hlR (fun n hs l2 c2 k2 f2 A2 W2 B2 fi2 lo2 on2 ta2 pl2 pb2 ps2 fo2 w2 u2 hI => ?_) 36 0 rfl 0 (fun _ => D) _ _ _ _ _ _ _ _ _ _ _ _ _ _ _ _ _ ⟨hW, Nat.zero_le _, fun _ _ => hED, hR, hXD, fun i hi => absurd hi (Nat.not_lt_zero _), hS, hP⟩
  obtain ⟨-, -, jE, jR, jD, -, -, jP⟩ := hI
  apply h683
  exact sx_count (j := 5) (r := nI 0) (jE n (Nat.le_refl _)) jR jD jP (by omega) (fun e => by omega) (fun e => by omega) (fun e => by omega) (fun e => by omega) (fun e => by omega) (fun _ => rfl) (zb_t2 zi_0 rfl)
