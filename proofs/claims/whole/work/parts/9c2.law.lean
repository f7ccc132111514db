set_option maxRecDepth 100000 in
set_option maxHeartbeats 4000000 in
theorem law_pure {L : Nat} (xs : Nat → Int32) (hL : L ≤ 1073741823) : wp_L_law L xs := by
  unfold wp_L_law
  refine sx_init (fun tl nu pn ph l fi lo pl pb signs P F Wh T B pf pla pw c k f on ta ps e0 hR hD hS hP => ?_)
  refine sp_init (fun rules places nR nP pa rule takes behind nr nT nB ns s Fi La Ma hM hm => ?_)
  subst e0
  refine ⟨L + 1 + 1, law_loop hL (L + 1) 0 (Nat.zero_le _) (by omega) _ _ _ _ _ _ _ _ _ _ _ _ _ _ _ _ _ _ _ _ _ _ _ _ _ _ _ _ _ _ _ _ _ _ _ _ _ _ _ _ _ _ _ _ _ _ _ _ _ _ _ _ _ _ _ _ _ _ _ _ _ _ _ _ _ _ _ _ _ _ _ _ _ _ _ _ _ _ _ _ _ _ _ _ _ _ _ _ _ _ _ _ _ ⟨gx_q4, 0, fun _ => gx_d9, 0, fun _ => gx_d9, 0, fun _ => 32, gx_W.1, Nat.zero_le _, fun _ _ => gx_W.2, Nat.zero_le _, fun i hi => absurd hi (Nat.not_lt_zero _), ⟨Nat.zero_le _, fun i hi => absurd hi (Nat.not_lt_zero _)⟩, rfl, ⟨rfl, fun i hi => absurd hi (Nat.not_lt_zero _)⟩, hR, hD, ⟨fun z => absurd z (Nat.lt_irrefl _), fun z => absurd z (by omega)⟩, rfl, fun i hi => absurd hi (Nat.not_lt_zero _), hS, hP, Or.inl rfl, hM, rfl, rfl, ⟨rfl, fun i hi => absurd hi (Nat.not_lt_zero _)⟩, rfl, ⟨hm, fun i hi => absurd hi (Nat.not_lt_zero _)⟩, fun i hi => absurd hi (Nat.not_lt_zero _)⟩⟩
