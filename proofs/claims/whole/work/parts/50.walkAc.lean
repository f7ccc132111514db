def rm_X8_within : Room := { frames := 1, cells := 0, slots := 0, locals := 20 }
theorem hd_X8_withinS : yX8_within.cls ≠ "java/lang/invoke/MethodHandle" ∧ yX8_within.cls ≠ "java/lang/invoke/VarHandle" ∧ (parseMethodDescriptor yX8_within.desc).map (fun d => d.parameters.length) = some 2 := by decide +kernel
theorem hd_X8_within : yX8_within.cls = RX8 ∧ yX8_within.cls ≠ "java/lang/invoke/MethodHandle" ∧ yX8_within.cls ≠ "java/lang/invoke/VarHandle" ∧ (parseMethodDescriptor yX8_within.desc).map (fun d => d.parameters.length) = some 2 := ⟨rfl, hd_X8_withinS⟩
set_option maxHeartbeats 4000000 in
set_option maxRecDepth 100000 in
theorem c_X8_within (V : ga_V) (a : Nat → Nat) (x_unlikeNumber : Int32) (x_knownNumber : Int32) (x_areFound : Int32) (x_number : Int32) (x_nexts : Nat → Int32) (p1 : Int32) (p2 : Int32) (K : Int32 → Prop) (h : wp_X8_within x_number x_nexts p1 p2 K) : ga_C V yX8_within wsX8_within rm_X8_within [.ref (a 0), .int p1, .int p2] [(a 0, .inr (8, [.ref (a 1), .ref (a 2), .ref (a 3), .ref (a 4), .ref (a 5), .ref (a 6), .ref (a 7), .int x_number, .int x_unlikeNumber, .int x_knownNumber, .int x_areFound])), (a 4, .inl (V.2 0, 6144, .inl x_nexts))] 0 0 (ga_Fi (fun (u : Unit) => [(a 0, .inr (8, [.ref (a 1), .ref (a 2), .ref (a 3), .ref (a 4), .ref (a 5), .ref (a 6), .ref (a 7), .int x_number, .int x_unlikeNumber, .int x_knownNumber, .int x_areFound])), (a 4, .inl (V.2 0, 6144, .inl x_nexts))]) (fun r u => K r)) := by
  refine ga_met (cc := cX8_within) (maxL := 3) (rt := (some .int)) (by decide) rfl [(0, .ref (a 0)), (1, .int p1), (2, .int p2)] rfl (Nat.le_of_ble_eq_true rfl) ?_
  intro G hR hE
  have hinX8 : ∀ w ∈ u_ws RX8 TX8 11, w ∈ wsX8_within := by decide +kernel
  have f42 : Cond.fieldLink RX8 42 "BoundaryRules$Ways" "number" "I" ∈ wsX8_within := by decide +kernel
  have f21 : Cond.fieldLink RX8 21 "BoundaryRules$Ways" "nexts" "[I" ∈ wsX8_within := by decide +kernel
  unfold wp_X8_within at h
  refine ga_iload_n hR (pc := 0) 1 rfl rfl dX8_within_0 ?_
  refine ga_if_lt hR (pc := 1) 33 (by decide) dX8_within_1 (fun c1 => ?_) (fun c1 => ?_)
  · replace h := h.1 c1
    refine ga_iconst hR (pc := 33) (v := -1) (by decide) dX8_within_33 ?_
    exact ga_iret hE dX8_within_34 rfl (ga_ri () rfl h)
  · replace h := h.2 c1
    refine ga_iload_n hR (pc := 4) 1 rfl rfl dX8_within_4 ?_
    refine ga_aload_n hR (pc := 5) 0 rfl rfl dX8_within_5 ?_
    refine ga_get hR (pc := 6) 0 rfl rfl hinX8 7 (by decide) f42 rfl dX8_within_6 ?_
    refine ga_icmp_ge hR (pc := 9) 33 (by decide) dX8_within_9 (fun c9 => ?_) (fun c9 => ?_)
    · replace h := h.1 c9
      refine ga_iconst hR (pc := 33) (v := -1) (by decide) dX8_within_33 ?_
      exact ga_iret hE dX8_within_34 rfl (ga_ri () rfl h)
    · replace h := h.2 c9
      refine ga_iload_n hR (pc := 12) 2 rfl rfl dX8_within_12 ?_
      refine ga_callSN hR (pc := 13) (As := [.int p2]) (rest := []) (st0 := [.int p2]) 1 (c_X9_isClass V p2 _ h) (ga_same_i fun _ => rfl) gX8_within_X9_isClass_n88 rfl rfl rfl hd_X9_isClassS ⟨Nat.le_of_ble_eq_true rfl, Nat.le_of_ble_eq_true rfl⟩ rfl rfl (Nat.le_of_ble_eq_true rfl) ⟨Nat.zero_le _, Nat.zero_le _⟩ [] rfl rfl (host := "BoundaryRules") (by decide +kernel) (by decide +kernel) (by decide +kernel) dX8_within_13 ?_
      rintro _ _ ⟨r_1, ⟨⟩, rfl, rfl, h⟩
      refine ga_to [(a 0, .inr (8, [.ref (a 1), .ref (a 2), .ref (a 3), .ref (a 4), .ref (a 5), .ref (a 6), .ref (a 7), .int x_number, .int x_unlikeNumber, .int x_knownNumber, .int x_areFound])), (a 4, .inl (V.2 0, 6144, .inl x_nexts))] [.int r_1] rfl rfl ?_
      try dsimp only at h
      refine ga_if_eq hR (pc := 16) 33 (by decide) dX8_within_16 (fun c16 => ?_) (fun c16 => ?_)
      · replace h := h.1 c16
        refine ga_iconst hR (pc := 33) (v := -1) (by decide) dX8_within_33 ?_
        exact ga_iret hE dX8_within_34 rfl (ga_ri () rfl h)
      · replace h := h.2 c16
        refine ga_aload_n hR (pc := 19) 0 rfl rfl dX8_within_19 ?_
        refine ga_get hR (pc := 20) 0 rfl rfl hinX8 3 (by decide) f21 rfl dX8_within_20 ?_
        refine ga_iload_n hR (pc := 23) 1 rfl rfl dX8_within_23 ?_
        refine ga_bipush hR (pc := 24) (v := nI 6) (by decide) dX8_within_24 ?_
        refine ga_imul hR (pc := 26) dX8_within_26 ?_
        refine ga_iload_n hR (pc := 27) 2 rfl rfl dX8_within_27 ?_
        refine ga_iadd hR (pc := 28) dX8_within_28 ?_
        refine ga_iald hR (pc := 29) 1 rfl h.1 dX8_within_29 ?_
        replace h := h.2
        refine ga_goto hR (pc := 30) 34 (by decide) dX8_within_30 ?_
        exact ga_iret hE dX8_within_34 rfl (ga_ri () rfl h)

def rm_X8_behind : Room := { frames := 2, cells := 0, slots := 0, locals := 42 }
theorem hd_X8_behindS : yX8_behind.cls ≠ "java/lang/invoke/MethodHandle" ∧ yX8_behind.cls ≠ "java/lang/invoke/VarHandle" ∧ (parseMethodDescriptor yX8_behind.desc).map (fun d => d.parameters.length) = some 2 := by decide +kernel
theorem hd_X8_behind : yX8_behind.cls = RX8 ∧ yX8_behind.cls ≠ "java/lang/invoke/MethodHandle" ∧ yX8_behind.cls ≠ "java/lang/invoke/VarHandle" ∧ (parseMethodDescriptor yX8_behind.desc).map (fun d => d.parameters.length) = some 2 := ⟨rfl, hd_X8_behindS⟩
set_option maxHeartbeats 4000000 in
set_option maxRecDepth 100000 in
theorem c_X8_behind (V : ga_V) (a : Nat → Nat) (x_unlikeNumber : Int32) (x_knownNumber : Int32) (x_areFound : Int32) (x_number : Int32) (x_nexts : Nat → Int32) (x_begun : Nat → Int32) (p1 : Int32) (p2 : Int32) (K : Int32 → Prop) (h : wp_X8_behind x_number x_nexts x_begun p1 p2 K) : ga_C V yX8_behind wsX8_behind rm_X8_behind [.ref (a 0), .int p1, .int p2] [(a 0, .inr (8, [.ref (a 1), .ref (a 2), .ref (a 3), .ref (a 4), .ref (a 5), .ref (a 6), .ref (a 7), .int x_number, .int x_unlikeNumber, .int x_knownNumber, .int x_areFound])), (a 4, .inl (V.2 0, 6144, .inl x_nexts)), (a 5, .inl (V.2 0, 6, .inl x_begun))] 0 0 (ga_Fi (fun (u : Unit) => [(a 0, .inr (8, [.ref (a 1), .ref (a 2), .ref (a 3), .ref (a 4), .ref (a 5), .ref (a 6), .ref (a 7), .int x_number, .int x_unlikeNumber, .int x_knownNumber, .int x_areFound])), (a 4, .inl (V.2 0, 6144, .inl x_nexts)), (a 5, .inl (V.2 0, 6, .inl x_begun))]) (fun r u => K r)) := by
  refine ga_met (cc := cX8_behind) (maxL := 4) (rt := (some .int)) (by decide) rfl [(0, .ref (a 0)), (1, .int p1), (2, .int p2)] rfl (Nat.le_of_ble_eq_true rfl) ?_
  intro G hR hE
  have hinX8 : ∀ w ∈ u_ws RX8 TX8 11, w ∈ wsX8_behind := by decide +kernel
  have f24 : Cond.fieldLink RX8 24 "BoundaryRules$Ways" "begun" "[I" ∈ wsX8_behind := by decide +kernel
  unfold wp_X8_behind at h
  refine ga_aload_n hR (pc := 0) 0 rfl rfl dX8_behind_0 ?_
  refine ga_iload_n hR (pc := 1) 1 rfl rfl dX8_behind_1 ?_
  refine ga_iload_n hR (pc := 2) 2 rfl rfl dX8_behind_2 ?_
  refine ga_callV hR (pc := 3) (As := [.int p1, .int p2]) (rest := []) (st0 := [.int p2, .int p1, .ref (a 0)]) (b := (a 0)) 2 (c_X8_within V a x_unlikeNumber x_knownNumber x_areFound x_number x_nexts p1 p2 _ h) (ga_same_i fun _ => rfl) gX8_behind_X8_within rfl rfl rfl hd_X8_within ⟨Nat.le_of_ble_eq_true rfl, Nat.le_of_ble_eq_true rfl⟩ rfl rfl (Nat.le_of_ble_eq_true rfl) ⟨Nat.zero_le _, Nat.zero_le _⟩ [0, 1] rfl rfl 0 rfl rfl dX8_behind_3 ?_
  rintro _ _ ⟨r_1, ⟨⟩, rfl, rfl, h⟩
  refine ga_to [(a 0, .inr (8, [.ref (a 1), .ref (a 2), .ref (a 3), .ref (a 4), .ref (a 5), .ref (a 6), .ref (a 7), .int x_number, .int x_unlikeNumber, .int x_knownNumber, .int x_areFound])), (a 4, .inl (V.2 0, 6144, .inl x_nexts)), (a 5, .inl (V.2 0, 6, .inl x_begun))] [.int r_1] rfl rfl ?_
  try dsimp only at h
  refine ga_istore_n hR (pc := 6) (lv' := [(3, .int r_1), (0, .ref (a 0)), (1, .int p1), (2, .int p2)]) rfl (by decide) rfl dX8_behind_6 ?_
  refine ga_iload_n hR (pc := 7) 0 rfl rfl dX8_behind_7 ?_
  refine ga_iconst hR (pc := 8) (v := -1) (by decide) dX8_behind_8 ?_
  refine ga_icmp_ne hR (pc := 9) 21 (by decide) dX8_behind_9 (fun c9 => ?_) (fun c9 => ?_)
  · replace h := h.1 c9
    refine ga_iload_n hR (pc := 21) 0 rfl rfl dX8_behind_21 ?_
    exact ga_iret hE dX8_behind_22 rfl (ga_ri () rfl h)
  · replace h := h.2 c9
    refine ga_aload_n hR (pc := 12) 1 rfl rfl dX8_behind_12 ?_
    refine ga_get hR (pc := 13) 0 rfl rfl hinX8 4 (by decide) f24 rfl dX8_behind_13 ?_
    refine ga_iload_n hR (pc := 16) 3 rfl rfl dX8_behind_16 ?_
    refine ga_iald hR (pc := 17) 2 rfl h.1 dX8_behind_17 ?_
    replace h := h.2
    refine ga_goto hR (pc := 18) 22 (by decide) dX8_behind_18 ?_
    exact ga_iret hE dX8_behind_22 rfl (ga_ri () rfl h)

def rm_X8_leadTogether : Room := { frames := 3, cells := 0, slots := 0, locals := 65 }
theorem hd_X8_leadTogetherS : yX8_leadTogether.cls ≠ "java/lang/invoke/MethodHandle" ∧ yX8_leadTogether.cls ≠ "java/lang/invoke/VarHandle" ∧ (parseMethodDescriptor yX8_leadTogether.desc).map (fun d => d.parameters.length) = some 2 := by decide +kernel
theorem hd_X8_leadTogether : yX8_leadTogether.cls = RX8 ∧ yX8_leadTogether.cls ≠ "java/lang/invoke/MethodHandle" ∧ yX8_leadTogether.cls ≠ "java/lang/invoke/VarHandle" ∧ (parseMethodDescriptor yX8_leadTogether.desc).map (fun d => d.parameters.length) = some 2 := ⟨rfl, hd_X8_leadTogetherS⟩
set_option maxHeartbeats 4000000 in
set_option maxRecDepth 100000 in
theorem c_X8_leadTogether (V : ga_V) (a : Nat → Nat) (x_unlikeNumber : Int32) (x_knownNumber : Int32) (x_areFound : Int32) (x_number : Int32) (x_nexts : Nat → Int32) (x_begun : Nat → Int32) (p1 : Int32) (p2 : Int32) (K : Int32 → Prop) (h : wp_X8_leadTogether x_number x_nexts x_begun p1 p2 K) : ga_C V yX8_leadTogether wsX8_leadTogether rm_X8_leadTogether [.ref (a 0), .int p1, .int p2] [(a 0, .inr (8, [.ref (a 1), .ref (a 2), .ref (a 3), .ref (a 4), .ref (a 5), .ref (a 6), .ref (a 7), .int x_number, .int x_unlikeNumber, .int x_knownNumber, .int x_areFound])), (a 4, .inl (V.2 0, 6144, .inl x_nexts)), (a 5, .inl (V.2 0, 6, .inl x_begun))] 0 0 (ga_Fi (fun (u : Unit) => [(a 0, .inr (8, [.ref (a 1), .ref (a 2), .ref (a 3), .ref (a 4), .ref (a 5), .ref (a 6), .ref (a 7), .int x_number, .int x_unlikeNumber, .int x_knownNumber, .int x_areFound])), (a 4, .inl (V.2 0, 6144, .inl x_nexts)), (a 5, .inl (V.2 0, 6, .inl x_begun))]) (fun r u => K r)) := by
  refine ga_met (cc := cX8_leadTogether) (maxL := 5) (rt := (some .boolean)) (by decide) rfl [(0, .ref (a 0)), (1, .int p1), (2, .int p2)] rfl (Nat.le_of_ble_eq_true rfl) ?_
  intro G hR hE
  have hinX8 : ∀ w ∈ u_ws RX8 TX8 11, w ∈ wsX8_leadTogether := by decide +kernel
  have f24 : Cond.fieldLink RX8 24 "BoundaryRules$Ways" "begun" "[I" ∈ wsX8_leadTogether := by decide +kernel
  have f42 : Cond.fieldLink RX8 42 "BoundaryRules$Ways" "number" "I" ∈ wsX8_leadTogether := by decide +kernel
  unfold wp_X8_leadTogether at h
  refine ga_aload_n hR (pc := 0) 0 rfl rfl dX8_leadTogether_0 ?_
  refine ga_aload_n hR (pc := 1) 0 rfl rfl dX8_leadTogether_1 ?_
  refine ga_get hR (pc := 2) 0 rfl rfl hinX8 4 (by decide) f24 rfl dX8_leadTogether_2 ?_
  refine ga_iload_n hR (pc := 5) 1 rfl rfl dX8_leadTogether_5 ?_
  refine ga_iald hR (pc := 6) 2 rfl h.1 dX8_leadTogether_6 ?_
  replace h := h.2
  refine ga_iload_n hR (pc := 7) 2 rfl rfl dX8_leadTogether_7 ?_
  refine ga_callV hR (pc := 8) (As := [.int (x_begun p1.toNatClampNeg), .int p2]) (rest := []) (st0 := [.int p2, .int (x_begun p1.toNatClampNeg), .ref (a 0)]) (b := (a 0)) 2 (c_X8_behind V a x_unlikeNumber x_knownNumber x_areFound x_number x_nexts x_begun (x_begun p1.toNatClampNeg) p2 _ h) (ga_same_i fun _ => rfl) gX8_leadTogether_X8_behind rfl rfl rfl hd_X8_behind ⟨Nat.le_of_ble_eq_true rfl, Nat.le_of_ble_eq_true rfl⟩ rfl rfl (Nat.le_of_ble_eq_true rfl) ⟨Nat.zero_le _, Nat.zero_le _⟩ [0, 1, 2] rfl rfl 0 rfl rfl dX8_leadTogether_8 ?_
  rintro _ _ ⟨r_1, ⟨⟩, rfl, rfl, h⟩
  refine ga_to [(a 0, .inr (8, [.ref (a 1), .ref (a 2), .ref (a 3), .ref (a 4), .ref (a 5), .ref (a 6), .ref (a 7), .int x_number, .int x_unlikeNumber, .int x_knownNumber, .int x_areFound])), (a 4, .inl (V.2 0, 6144, .inl x_nexts)), (a 5, .inl (V.2 0, 6, .inl x_begun))] [.int r_1] rfl rfl ?_
  try dsimp only at h
  refine ga_istore_n hR (pc := 11) (lv' := [(3, .int r_1), (0, .ref (a 0)), (1, .int p1), (2, .int p2)]) rfl (by decide) rfl dX8_leadTogether_11 ?_
  refine ga_iconst hR (pc := 12) (v := nI 0) (by decide) dX8_leadTogether_12 ?_
  refine ga_istore hR (pc := 13) (lv' := [(4, .int (nI 0)), (3, .int r_1), (0, .ref (a 0)), (1, .int p1), (2, .int p2)]) (by decide) rfl dX8_leadTogether_13 ?_
  have hJ := h (G 0 0 [(a 0, .inr (8, [.ref (a 1), .ref (a 2), .ref (a 3), .ref (a 4), .ref (a 5), .ref (a 6), .ref (a 7), .int x_number, .int x_unlikeNumber, .int x_knownNumber, .int x_areFound])), (a 4, .inl (V.2 0, 6144, .inl x_nexts)), (a 5, .inl (V.2 0, 6, .inl x_begun))] 40 [] [])
  refine ga_bind hJ ?_ ?_
  · intro h
    show G 0 0 [(a 0, .inr (8, [.ref (a 1), .ref (a 2), .ref (a 3), .ref (a 4), .ref (a 5), .ref (a 6), .ref (a 7), .int x_number, .int x_unlikeNumber, .int x_knownNumber, .int x_areFound])), (a 4, .inl (V.2 0, 6144, .inl x_nexts)), (a 5, .inl (V.2 0, 6, .inl x_begun))] 40 [] []
    refine ga_iconst hR (pc := 40) (v := nI 0) (by decide) dX8_leadTogether_40 ?_
    exact ga_iret hE dX8_leadTogether_41 (by decide) (ga_ri () rfl h)
  · intro h
    have hJ := h (G 0 0 [(a 0, .inr (8, [.ref (a 1), .ref (a 2), .ref (a 3), .ref (a 4), .ref (a 5), .ref (a 6), .ref (a 7), .int x_number, .int x_unlikeNumber, .int x_knownNumber, .int x_areFound])), (a 4, .inl (V.2 0, 6144, .inl x_nexts)), (a 5, .inl (V.2 0, 6, .inl x_begun))] 48 [] [])
    refine ga_bind hJ ?_ ?_
    · intro h
      show G 0 0 [(a 0, .inr (8, [.ref (a 1), .ref (a 2), .ref (a 3), .ref (a 4), .ref (a 5), .ref (a 6), .ref (a 7), .int x_number, .int x_unlikeNumber, .int x_knownNumber, .int x_areFound])), (a 4, .inl (V.2 0, 6144, .inl x_nexts)), (a 5, .inl (V.2 0, 6, .inl x_begun))] 48 [] []
      refine ga_iconst hR (pc := 48) (v := nI 1) (by decide) dX8_leadTogether_48 ?_
      exact ga_iret hE dX8_leadTogether_49 (by decide) (ga_ri () rfl h)
    · intro h
      obtain ⟨n, h⟩ := h
      have L15 : ∀ (n : Nat) (v4_7 : Int32), lp_X8_leadTogether_15 x_number x_nexts x_begun p1 p2 r_1 (G 0 0 [(a 0, .inr (8, [.ref (a 1), .ref (a 2), .ref (a 3), .ref (a 4), .ref (a 5), .ref (a 6), .ref (a 7), .int x_number, .int x_unlikeNumber, .int x_knownNumber, .int x_areFound])), (a 4, .inl (V.2 0, 6144, .inl x_nexts)), (a 5, .inl (V.2 0, 6, .inl x_begun))] 40 [] []) (G 0 0 [(a 0, .inr (8, [.ref (a 1), .ref (a 2), .ref (a 3), .ref (a 4), .ref (a 5), .ref (a 6), .ref (a 7), .int x_number, .int x_unlikeNumber, .int x_knownNumber, .int x_areFound])), (a 4, .inl (V.2 0, 6144, .inl x_nexts)), (a 5, .inl (V.2 0, 6, .inl x_begun))] 48 [] []) n v4_7 → G 0 0 [(a 0, .inr (8, [.ref (a 1), .ref (a 2), .ref (a 3), .ref (a 4), .ref (a 5), .ref (a 6), .ref (a 7), .int x_number, .int x_unlikeNumber, .int x_knownNumber, .int x_areFound])), (a 4, .inl (V.2 0, 6144, .inl x_nexts)), (a 5, .inl (V.2 0, 6, .inl x_begun))] 15 [(0, .ref (a 0)), (1, .int p1), (2, .int p2), (3, .int r_1), (4, .int v4_7)] [] := by
        intro n
        induction n with
        | zero => exact fun _ h => False.elim h
        | succ n ih =>
          intro v4_7 h
          rw [lp_X8_leadTogether_15] at h
          refine ga_iload hR (pc := 15) 4 rfl dX8_leadTogether_15 ?_
          refine ga_aload_n hR (pc := 17) 0 rfl rfl dX8_leadTogether_17 ?_
          refine ga_get hR (pc := 18) 0 rfl rfl hinX8 7 (by decide) f42 rfl dX8_leadTogether_18 ?_
          refine ga_icmp_ge hR (pc := 21) 48 (by decide) dX8_leadTogether_21 (fun c21 => ?_) (fun c21 => ?_)
          · replace h := h.1 c21
            exact ga_lv hR [] rfl h
          · replace h := h.2 c21
            refine ga_aload_n hR (pc := 24) 0 rfl rfl dX8_leadTogether_24 ?_
            refine ga_aload_n hR (pc := 25) 0 rfl rfl dX8_leadTogether_25 ?_
            refine ga_iload hR (pc := 26) 4 rfl dX8_leadTogether_26 ?_
            refine ga_iload_n hR (pc := 28) 1 rfl rfl dX8_leadTogether_28 ?_
            refine ga_callV hR (pc := 29) (As := [.int v4_7, .int p1]) (rest := [.ref (a 0)]) (st0 := [.int p1, .int v4_7, .ref (a 0), .ref (a 0)]) (b := (a 0)) 2 (c_X8_behind V a x_unlikeNumber x_knownNumber x_areFound x_number x_nexts x_begun v4_7 p1 _ h) (ga_same_i fun _ => rfl) gX8_leadTogether_X8_behind rfl rfl rfl hd_X8_behind ⟨Nat.le_of_ble_eq_true rfl, Nat.le_of_ble_eq_true rfl⟩ rfl rfl (Nat.le_of_ble_eq_true rfl) ⟨Nat.zero_le _, Nat.zero_le _⟩ [0, 1, 2] rfl rfl 0 rfl rfl dX8_leadTogether_29 ?_
            rintro _ _ ⟨r_8, ⟨⟩, rfl, rfl, h⟩
            refine ga_to [(a 0, .inr (8, [.ref (a 1), .ref (a 2), .ref (a 3), .ref (a 4), .ref (a 5), .ref (a 6), .ref (a 7), .int x_number, .int x_unlikeNumber, .int x_knownNumber, .int x_areFound])), (a 4, .inl (V.2 0, 6144, .inl x_nexts)), (a 5, .inl (V.2 0, 6, .inl x_begun))] [.int r_8, .ref (a 0)] rfl rfl ?_
            try dsimp only at h
            refine ga_iload_n hR (pc := 32) 2 rfl rfl dX8_leadTogether_32 ?_
            refine ga_callV hR (pc := 33) (As := [.int r_8, .int p2]) (rest := []) (st0 := [.int p2, .int r_8, .ref (a 0)]) (b := (a 0)) 2 (c_X8_behind V a x_unlikeNumber x_knownNumber x_areFound x_number x_nexts x_begun r_8 p2 _ h) (ga_same_i fun _ => rfl) gX8_leadTogether_X8_behind rfl rfl rfl hd_X8_behind ⟨Nat.le_of_ble_eq_true rfl, Nat.le_of_ble_eq_true rfl⟩ rfl rfl (Nat.le_of_ble_eq_true rfl) ⟨Nat.zero_le _, Nat.zero_le _⟩ [0, 1, 2] rfl rfl 0 rfl rfl dX8_leadTogether_33 ?_
            rintro _ _ ⟨r_9, ⟨⟩, rfl, rfl, h⟩
            refine ga_to [(a 0, .inr (8, [.ref (a 1), .ref (a 2), .ref (a 3), .ref (a 4), .ref (a 5), .ref (a 6), .ref (a 7), .int x_number, .int x_unlikeNumber, .int x_knownNumber, .int x_areFound])), (a 4, .inl (V.2 0, 6144, .inl x_nexts)), (a 5, .inl (V.2 0, 6, .inl x_begun))] [.int r_9] rfl rfl ?_
            try dsimp only at h
            refine ga_iload_n hR (pc := 36) 3 rfl rfl dX8_leadTogether_36 ?_
            refine ga_icmp_eq hR (pc := 37) 42 (by decide) dX8_leadTogether_37 (fun c37 => ?_) (fun c37 => ?_)
            · replace h := h.1 c37
              obtain ⟨v4_10, ev4_10⟩ : ∃ v : Int32, v = v4_7 + (nI 1) := ⟨_, rfl⟩
              replace h := h v4_10 ev4_10
              refine ga_iinc hR (pc := 42) (lv' := [(4, .int v4_10), (0, .ref (a 0)), (1, .int p1), (2, .int p2), (3, .int r_1)]) 4 (by decide) rfl ev4_10 (by decide) rfl dX8_leadTogether_42 ?_
              refine ga_goto hR (pc := 45) 15 (by decide) dX8_leadTogether_45 ?_
              exact ga_lv hR [1, 2, 3, 4, 0] rfl (ih _ h)
            · replace h := h.2 c37
              exact ga_lv hR [] rfl h
      exact ga_lv hR [2, 3, 4, 1, 0] rfl (L15 n _ h)

def rm_X8_findKnown : Room := { frames := 4, cells := 0, slots := 0, locals := 89 }
theorem hd_X8_findKnownS : yX8_findKnown.cls ≠ "java/lang/invoke/MethodHandle" ∧ yX8_findKnown.cls ≠ "java/lang/invoke/VarHandle" ∧ (parseMethodDescriptor yX8_findKnown.desc).map (fun d => d.parameters.length) = some 0 := by decide +kernel
theorem hd_X8_findKnown : yX8_findKnown.cls = RX8 ∧ yX8_findKnown.cls ≠ "java/lang/invoke/MethodHandle" ∧ yX8_findKnown.cls ≠ "java/lang/invoke/VarHandle" ∧ (parseMethodDescriptor yX8_findKnown.desc).map (fun d => d.parameters.length) = some 0 := ⟨rfl, hd_X8_findKnownS⟩
set_option maxHeartbeats 4000000 in
set_option maxRecDepth 100000 in
theorem c_X8_findKnown (V : ga_V) (a : Nat → Nat) (x_unlikeNumber : Int32) (x_areFound : Int32) (x_number : Int32) (x_knownNumber : Int32) (x_nexts : Nat → Int32) (x_begun : Nat → Int32) (x_known : Nat → Int32) (K : Int32 → (Nat → Int32) → Prop) (h : wp_X8_findKnown x_number x_knownNumber x_nexts x_begun x_known K) : ga_C V yX8_findKnown wsX8_findKnown rm_X8_findKnown [.ref (a 0)] [(a 0, .inr (8, [.ref (a 1), .ref (a 2), .ref (a 3), .ref (a 4), .ref (a 5), .ref (a 6), .ref (a 7), .int x_number, .int x_unlikeNumber, .int x_knownNumber, .int x_areFound])), (a 4, .inl (V.2 0, 6144, .inl x_nexts)), (a 5, .inl (V.2 0, 6, .inl x_begun)), (a 6, .inl (V.2 1, 36, .inl x_known))] 0 0 (ga_Fv (fun (u : Int32 × (Nat → Int32)) => [(a 0, .inr (8, [.ref (a 1), .ref (a 2), .ref (a 3), .ref (a 4), .ref (a 5), .ref (a 6), .ref (a 7), .int x_number, .int x_unlikeNumber, .int u.1, .int x_areFound])), (a 4, .inl (V.2 0, 6144, .inl x_nexts)), (a 5, .inl (V.2 0, 6, .inl x_begun)), (a 6, .inl (V.2 1, 36, .inl u.2))]) (fun u => K u.1 u.2)) := by
  refine ga_met (cc := cX8_findKnown) (maxL := 3) (rt := none) (by decide) rfl [(0, .ref (a 0))] rfl (Nat.le_of_ble_eq_true rfl) ?_
  intro G hR hE
  have hinX8 : ∀ w ∈ u_ws RX8 TX8 11, w ∈ wsX8_findKnown := by decide +kernel
  have f75 : Cond.fieldLink RX8 75 "BoundaryRules$Ways" "knownNumber" "I" ∈ wsX8_findKnown := by decide +kernel
  have f27 : Cond.fieldLink RX8 27 "BoundaryRules$Ways" "known" "[Z" ∈ wsX8_findKnown := by decide +kernel
  unfold wp_X8_findKnown at h
  refine ga_aload_n hR (pc := 0) 0 rfl rfl dX8_findKnown_0 ?_
  refine ga_iconst hR (pc := 1) (v := nI 0) (by decide) dX8_findKnown_1 ?_
  refine ga_putf hR (pc := 2) (ws' := [(a 0, .inr (8, [.ref (a 1), .ref (a 2), .ref (a 3), .ref (a 4), .ref (a 5), .ref (a 6), .ref (a 7), .int x_number, .int x_unlikeNumber, .int (nI 0), .int x_areFound])), (a 4, .inl (V.2 0, 6144, .inl x_nexts)), (a 5, .inl (V.2 0, 6, .inl x_begun)), (a 6, .inl (V.2 1, 36, .inl x_known))]) 0 rfl rfl hinX8 9 (by decide) f75 tyX8_ok nmX8 rfl rfl rfl (Nat.le_of_ble_eq_true rfl) rfl dX8_findKnown_2 ?_
  refine ga_iconst hR (pc := 5) (v := nI 0) (by decide) dX8_findKnown_5 ?_
  refine ga_istore_n hR (pc := 6) (lv' := [(1, .int (nI 0)), (0, .ref (a 0))]) rfl (by decide) rfl dX8_findKnown_6 ?_
  have hJ := h (fun (x_knownNumber_1 : Int32) (x_known_2 : Nat → Int32) => G 0 0 [(a 0, .inr (8, [.ref (a 1), .ref (a 2), .ref (a 3), .ref (a 4), .ref (a 5), .ref (a 6), .ref (a 7), .int x_number, .int x_unlikeNumber, .int x_knownNumber_1, .int x_areFound])), (a 4, .inl (V.2 0, 6144, .inl x_nexts)), (a 5, .inl (V.2 0, 6, .inl x_begun)), (a 6, .inl (V.2 1, 36, .inl x_known_2))] 78 [] [])
  refine ga_bind hJ ?_ ?_
  · intro x_knownNumber_1 x_known_2 h
    show G 0 0 [(a 0, .inr (8, [.ref (a 1), .ref (a 2), .ref (a 3), .ref (a 4), .ref (a 5), .ref (a 6), .ref (a 7), .int x_number, .int x_unlikeNumber, .int x_knownNumber_1, .int x_areFound])), (a 4, .inl (V.2 0, 6144, .inl x_nexts)), (a 5, .inl (V.2 0, 6, .inl x_begun)), (a 6, .inl (V.2 1, 36, .inl x_known_2))] 78 [] []
    exact ga_vret hE dX8_findKnown_78 (ga_rv (x_knownNumber_1, x_known_2) rfl h)
  · intro h
    obtain ⟨n, h⟩ := h
    have L7 : ∀ (n : Nat) (v1_23 : Int32) (x_knownNumber_24 : Int32) (x_known_25 : Nat → Int32), lp_X8_findKnown_7 x_number x_nexts x_begun (fun (x_knownNumber_1 : Int32) (x_known_2 : Nat → Int32) => G 0 0 [(a 0, .inr (8, [.ref (a 1), .ref (a 2), .ref (a 3), .ref (a 4), .ref (a 5), .ref (a 6), .ref (a 7), .int x_number, .int x_unlikeNumber, .int x_knownNumber_1, .int x_areFound])), (a 4, .inl (V.2 0, 6144, .inl x_nexts)), (a 5, .inl (V.2 0, 6, .inl x_begun)), (a 6, .inl (V.2 1, 36, .inl x_known_2))] 78 [] []) n v1_23 x_knownNumber_24 x_known_25 → G 0 0 [(a 0, .inr (8, [.ref (a 1), .ref (a 2), .ref (a 3), .ref (a 4), .ref (a 5), .ref (a 6), .ref (a 7), .int x_number, .int x_unlikeNumber, .int x_knownNumber_24, .int x_areFound])), (a 4, .inl (V.2 0, 6144, .inl x_nexts)), (a 5, .inl (V.2 0, 6, .inl x_begun)), (a 6, .inl (V.2 1, 36, .inl x_known_25))] 7 [(0, .ref (a 0)), (1, .int v1_23)] [] := by
      intro n
      induction n with
      | zero => exact fun _ _ _ h => False.elim h
      | succ n ih =>
        intro v1_23 x_knownNumber_24 x_known_25 h
        rw [lp_X8_findKnown_7] at h
        refine ga_iload_n hR (pc := 7) 1 rfl rfl dX8_findKnown_7 ?_
        refine ga_bipush hR (pc := 8) (v := nI 6) (by decide) dX8_findKnown_8 ?_
        refine ga_icmp_ge hR (pc := 10) 78 (by decide) dX8_findKnown_10 (fun c10 => ?_) (fun c10 => ?_)
        · replace h := h.1 c10
          exact ga_lv hR [] rfl h
        · replace h := h.2 c10
          refine ga_iconst hR (pc := 13) (v := nI 0) (by decide) dX8_findKnown_13 ?_
          refine ga_istore_n hR (pc := 14) (lv' := [(2, .int (nI 0)), (0, .ref (a 0)), (1, .int v1_23)]) rfl (by decide) rfl dX8_findKnown_14 ?_
          have hJ := h (fun (x_knownNumber_26 : Int32) (x_known_27 : Nat → Int32) => G 0 0 [(a 0, .inr (8, [.ref (a 1), .ref (a 2), .ref (a 3), .ref (a 4), .ref (a 5), .ref (a 6), .ref (a 7), .int x_number, .int x_unlikeNumber, .int x_knownNumber_26, .int x_areFound])), (a 4, .inl (V.2 0, 6144, .inl x_nexts)), (a 5, .inl (V.2 0, 6, .inl x_begun)), (a 6, .inl (V.2 1, 36, .inl x_known_27))] 72 [(0, .ref (a 0)), (1, .int v1_23)] [])
          refine ga_bind hJ ?_ ?_
          · intro x_knownNumber_26 x_known_27 h
            show G 0 0 [(a 0, .inr (8, [.ref (a 1), .ref (a 2), .ref (a 3), .ref (a 4), .ref (a 5), .ref (a 6), .ref (a 7), .int x_number, .int x_unlikeNumber, .int x_knownNumber_26, .int x_areFound])), (a 4, .inl (V.2 0, 6144, .inl x_nexts)), (a 5, .inl (V.2 0, 6, .inl x_begun)), (a 6, .inl (V.2 1, 36, .inl x_known_27))] 72 [(0, .ref (a 0)), (1, .int v1_23)] []
            obtain ⟨v1_29, ev1_29⟩ : ∃ v : Int32, v = v1_23 + (nI 1) := ⟨_, rfl⟩
            replace h := h v1_29 ev1_29
            refine ga_iinc hR (pc := 72) (lv' := [(1, .int v1_29), (0, .ref (a 0))]) 1 (by decide) rfl ev1_29 (by decide) rfl dX8_findKnown_72 ?_
            refine ga_goto hR (pc := 75) 7 (by decide) dX8_findKnown_75 ?_
            exact ga_lv hR [1, 0] rfl (ih _ _ _ h)
          · intro h
            obtain ⟨n, h⟩ := h
            have L15 : ∀ (n : Nat) (v2_30 : Int32) (x_knownNumber_31 : Int32) (x_known_32 : Nat → Int32), lp_X8_findKnown_15 x_number x_nexts x_begun v1_23 (fun (x_knownNumber_26 : Int32) (x_known_27 : Nat → Int32) => G 0 0 [(a 0, .inr (8, [.ref (a 1), .ref (a 2), .ref (a 3), .ref (a 4), .ref (a 5), .ref (a 6), .ref (a 7), .int x_number, .int x_unlikeNumber, .int x_knownNumber_26, .int x_areFound])), (a 4, .inl (V.2 0, 6144, .inl x_nexts)), (a 5, .inl (V.2 0, 6, .inl x_begun)), (a 6, .inl (V.2 1, 36, .inl x_known_27))] 72 [(0, .ref (a 0)), (1, .int v1_23)] []) n v2_30 x_knownNumber_31 x_known_32 → G 0 0 [(a 0, .inr (8, [.ref (a 1), .ref (a 2), .ref (a 3), .ref (a 4), .ref (a 5), .ref (a 6), .ref (a 7), .int x_number, .int x_unlikeNumber, .int x_knownNumber_31, .int x_areFound])), (a 4, .inl (V.2 0, 6144, .inl x_nexts)), (a 5, .inl (V.2 0, 6, .inl x_begun)), (a 6, .inl (V.2 1, 36, .inl x_known_32))] 15 [(0, .ref (a 0)), (1, .int v1_23), (2, .int v2_30)] [] := by
              intro n
              induction n with
              | zero => exact fun _ _ _ h => False.elim h
              | succ n ih =>
                intro v2_30 x_knownNumber_31 x_known_32 h
                rw [lp_X8_findKnown_15] at h
                refine ga_iload_n hR (pc := 15) 2 rfl rfl dX8_findKnown_15 ?_
                refine ga_bipush hR (pc := 16) (v := nI 6) (by decide) dX8_findKnown_16 ?_
                refine ga_icmp_ge hR (pc := 18) 72 (by decide) dX8_findKnown_18 (fun c18 => ?_) (fun c18 => ?_)
                · replace h := h.1 c18
                  exact ga_lv hR [0, 1] rfl h
                · replace h := h.2 c18
                  refine ga_aload_n hR (pc := 21) 0 rfl rfl dX8_findKnown_21 ?_
                  refine ga_get hR (pc := 22) 0 rfl rfl hinX8 5 (by decide) f27 rfl dX8_findKnown_22 ?_
                  refine ga_iload_n hR (pc := 25) 1 rfl rfl dX8_findKnown_25 ?_
                  refine ga_bipush hR (pc := 26) (v := nI 6) (by decide) dX8_findKnown_26 ?_
                  refine ga_imul hR (pc := 28) dX8_findKnown_28 ?_
                  refine ga_iload_n hR (pc := 29) 2 rfl rfl dX8_findKnown_29 ?_
                  refine ga_iadd hR (pc := 30) dX8_findKnown_30 ?_
                  refine ga_aload_n hR (pc := 31) 0 rfl rfl dX8_findKnown_31 ?_
                  refine ga_iload_n hR (pc := 32) 1 rfl rfl dX8_findKnown_32 ?_
                  refine ga_iload_n hR (pc := 33) 2 rfl rfl dX8_findKnown_33 ?_
                  refine ga_callV hR (pc := 34) (As := [.int v1_23, .int v2_30]) (rest := [.int ((v1_23 * (nI 6)) + v2_30), .ref (a 6)]) (st0 := [.int v2_30, .int v1_23, .ref (a 0), .int ((v1_23 * (nI 6)) + v2_30), .ref (a 6)]) (b := (a 0)) 2 (c_X8_leadTogether V a x_unlikeNumber x_knownNumber_31 x_areFound x_number x_nexts x_begun v1_23 v2_30 _ h) (ga_same_i fun _ => rfl) gX8_findKnown_X8_leadTogether rfl rfl rfl hd_X8_leadTogether ⟨Nat.le_of_ble_eq_true rfl, Nat.le_of_ble_eq_true rfl⟩ rfl rfl (Nat.le_of_ble_eq_true rfl) ⟨Nat.zero_le _, Nat.zero_le _⟩ [0, 1, 2] rfl rfl 0 rfl rfl dX8_findKnown_34 ?_
                  rintro _ _ ⟨r_33, ⟨⟩, rfl, rfl, h⟩
                  refine ga_to [(a 0, .inr (8, [.ref (a 1), .ref (a 2), .ref (a 3), .ref (a 4), .ref (a 5), .ref (a 6), .ref (a 7), .int x_number, .int x_unlikeNumber, .int x_knownNumber_31, .int x_areFound])), (a 4, .inl (V.2 0, 6144, .inl x_nexts)), (a 5, .inl (V.2 0, 6, .inl x_begun)), (a 6, .inl (V.2 1, 36, .inl x_known_32))] [.int r_33, .int ((v1_23 * (nI 6)) + v2_30), .ref (a 6)] rfl rfl ?_
                  try dsimp only at h
                  refine ga_zast hR (pc := 37) (ws' := [(a 0, .inr (8, [.ref (a 1), .ref (a 2), .ref (a 3), .ref (a 4), .ref (a 5), .ref (a 6), .ref (a 7), .int x_number, .int x_unlikeNumber, .int x_knownNumber_31, .int x_areFound])), (a 4, .inl (V.2 0, 6144, .inl x_nexts)), (a 5, .inl (V.2 0, 6, .inl x_begun)), (a 6, .inl (V.2 1, 36, .inl ((upd x_known_32 ((v1_23 * (nI 6)) + v2_30).toNatClampNeg (vp_nar .boolean r_33)))))]) 3 rfl h.1 rfl dX8_findKnown_37 ?_
                  replace h := h.2
                  obtain ⟨x_known_34, ex_known_34⟩ : ∃ f : Nat → Int32, f = upd x_known_32 ((v1_23 * (nI 6)) + v2_30).toNatClampNeg (vp_nar .boolean r_33) := ⟨_, rfl⟩
                  refine ga_cast (ws' := [(a 0, .inr (8, [.ref (a 1), .ref (a 2), .ref (a 3), .ref (a 4), .ref (a 5), .ref (a 6), .ref (a 7), .int x_number, .int x_unlikeNumber, .int x_knownNumber_31, .int x_areFound])), (a 4, .inl (V.2 0, 6144, .inl x_nexts)), (a 5, .inl (V.2 0, 6, .inl x_begun)), (a 6, .inl (V.2 1, 36, .inl x_known_34))]) (by rw [ex_known_34]) rfl ?_
                  replace h := h x_known_34 ex_known_34
                  refine ga_aload_n hR (pc := 38) 0 rfl rfl dX8_findKnown_38 ?_
                  refine ga_dup hR (pc := 39) rfl dX8_findKnown_39 ?_
                  refine ga_get hR (pc := 40) 0 rfl rfl hinX8 9 (by decide) f75 rfl dX8_findKnown_40 ?_
                  refine ga_aload_n hR (pc := 43) 0 rfl rfl dX8_findKnown_43 ?_
                  refine ga_get hR (pc := 44) 0 rfl rfl hinX8 5 (by decide) f27 rfl dX8_findKnown_44 ?_
                  refine ga_iload_n hR (pc := 47) 1 rfl rfl dX8_findKnown_47 ?_
                  refine ga_bipush hR (pc := 48) (v := nI 6) (by decide) dX8_findKnown_48 ?_
                  refine ga_imul hR (pc := 50) dX8_findKnown_50 ?_
                  refine ga_iload_n hR (pc := 51) 2 rfl rfl dX8_findKnown_51 ?_
                  refine ga_iadd hR (pc := 52) dX8_findKnown_52 ?_
                  refine ga_zald hR (pc := 53) 3 rfl h.1 dX8_findKnown_53 ?_
                  replace h := h.2
                  refine ga_if_eq hR (pc := 54) 61 (by decide) dX8_findKnown_54 (fun c54 => ?_) (fun c54 => ?_)
                  · replace h := h.1 c54
                    refine ga_iconst hR (pc := 61) (v := nI 0) (by decide) dX8_findKnown_61 ?_
                    refine ga_iadd hR (pc := 62) dX8_findKnown_62 ?_
                    refine ga_topi (fun x_knownNumber_35 ex_knownNumber_35 => ?_)
                    replace h := h x_knownNumber_35 ex_knownNumber_35
                    refine ga_putf hR (pc := 63) (ws' := [(a 0, .inr (8, [.ref (a 1), .ref (a 2), .ref (a 3), .ref (a 4), .ref (a 5), .ref (a 6), .ref (a 7), .int x_number, .int x_unlikeNumber, .int x_knownNumber_35, .int x_areFound])), (a 4, .inl (V.2 0, 6144, .inl x_nexts)), (a 5, .inl (V.2 0, 6, .inl x_begun)), (a 6, .inl (V.2 1, 36, .inl x_known_34))]) 0 rfl rfl hinX8 9 (by decide) f75 tyX8_ok nmX8 rfl rfl rfl (Nat.le_of_ble_eq_true rfl) rfl dX8_findKnown_63 ?_
                    obtain ⟨v2_36, ev2_36⟩ : ∃ v : Int32, v = v2_30 + (nI 1) := ⟨_, rfl⟩
                    replace h := h v2_36 ev2_36
                    refine ga_iinc hR (pc := 66) (lv' := [(2, .int v2_36), (0, .ref (a 0)), (1, .int v1_23)]) 2 (by decide) rfl ev2_36 (by decide) rfl dX8_findKnown_66 ?_
                    refine ga_goto hR (pc := 69) 15 (by decide) dX8_findKnown_69 ?_
                    exact ga_lv hR [1, 2, 0] rfl (ih _ _ _ h)
                  · replace h := h.2 c54
                    refine ga_iconst hR (pc := 57) (v := nI 1) (by decide) dX8_findKnown_57 ?_
                    refine ga_goto hR (pc := 58) 62 (by decide) dX8_findKnown_58 ?_
                    refine ga_iadd hR (pc := 62) dX8_findKnown_62 ?_
                    refine ga_topi (fun x_knownNumber_37 ex_knownNumber_37 => ?_)
                    replace h := h x_knownNumber_37 ex_knownNumber_37
                    refine ga_putf hR (pc := 63) (ws' := [(a 0, .inr (8, [.ref (a 1), .ref (a 2), .ref (a 3), .ref (a 4), .ref (a 5), .ref (a 6), .ref (a 7), .int x_number, .int x_unlikeNumber, .int x_knownNumber_37, .int x_areFound])), (a 4, .inl (V.2 0, 6144, .inl x_nexts)), (a 5, .inl (V.2 0, 6, .inl x_begun)), (a 6, .inl (V.2 1, 36, .inl x_known_34))]) 0 rfl rfl hinX8 9 (by decide) f75 tyX8_ok nmX8 rfl rfl rfl (Nat.le_of_ble_eq_true rfl) rfl dX8_findKnown_63 ?_
                    obtain ⟨v2_38, ev2_38⟩ : ∃ v : Int32, v = v2_30 + (nI 1) := ⟨_, rfl⟩
                    replace h := h v2_38 ev2_38
                    refine ga_iinc hR (pc := 66) (lv' := [(2, .int v2_38), (0, .ref (a 0)), (1, .int v1_23)]) 2 (by decide) rfl ev2_38 (by decide) rfl dX8_findKnown_66 ?_
                    refine ga_goto hR (pc := 69) 15 (by decide) dX8_findKnown_69 ?_
                    exact ga_lv hR [1, 2, 0] rfl (ih _ _ _ h)
            exact ga_lv hR [1, 2, 0] rfl (L15 n _ _ _ h)
    exact ga_lv hR [1, 0] rfl (L7 n _ _ _ h)

def rm_X8_find : Room := { frames := 5, cells := 0, slots := 0, locals := 125 }
theorem hd_X8_findS : yX8_find.cls ≠ "java/lang/invoke/MethodHandle" ∧ yX8_find.cls ≠ "java/lang/invoke/VarHandle" ∧ (parseMethodDescriptor yX8_find.desc).map (fun d => d.parameters.length) = some 1 := by decide +kernel
theorem hd_X8_find : yX8_find.cls = RX8 ∧ yX8_find.cls ≠ "java/lang/invoke/MethodHandle" ∧ yX8_find.cls ≠ "java/lang/invoke/VarHandle" ∧ (parseMethodDescriptor yX8_find.desc).map (fun d => d.parameters.length) = some 1 := ⟨rfl, hd_X8_findS⟩
set_option maxHeartbeats 4000000 in
set_option maxRecDepth 100000 in
theorem c_X8_find (V : ga_V) (a : Nat → Nat) (b : Nat → Nat) (x_number : Int32) (x_unlikeNumber : Int32) (x_knownNumber : Int32) (x_areFound : Int32) (x_stands : Nat → Int32) (x_fewest : Nat → Int32) (x_numberOf : Nat → Int32) (x_nexts : Nat → Int32) (x_begun : Nat → Int32) (x_known : Nat → Int32) (x_groups_groups : Nat → Int32) (x_groups_finer : Nat → Int32) (x_groups_buckets : Nat → Int32) (x_groups_chains : Nat → Int32) (y_firsts : Int32) (y_loose : Int32) (y_onward : Nat → Int32) (y_takers : Nat → Int32) (K : Int32 → Int32 → Int32 → Int32 → (Nat → Int32) → (Nat → Int32) → (Nat → Int32) → (Nat → Int32) → (Nat → Int32) → (Nat → Int32) → (Nat → Int32) → (Nat → Int32) → (Nat → Int32) → (Nat → Int32) → Prop) (h : wp_X8_find x_number x_unlikeNumber x_knownNumber x_areFound x_stands x_fewest x_numberOf x_nexts x_begun x_known x_groups_groups x_groups_finer x_groups_buckets x_groups_chains y_firsts y_loose y_onward y_takers K) : ga_C V yX8_find wsX8_find rm_X8_find [.ref (a 0), .ref (b 0)] [(a 0, .inr (8, [.ref (a 1), .ref (a 2), .ref (a 3), .ref (a 4), .ref (a 5), .ref (a 6), .ref (a 7), .int x_number, .int x_unlikeNumber, .int x_knownNumber, .int x_areFound])), (a 1, .inl (V.2 0, 1024, .inl x_stands)), (a 2, .inl (V.2 0, 1024, .inl x_fewest)), (a 3, .inl (V.2 0, 1024, .inl x_numberOf)), (a 4, .inl (V.2 0, 6144, .inl x_nexts)), (a 5, .inl (V.2 0, 6, .inl x_begun)), (a 6, .inl (V.2 1, 36, .inl x_known)), (a 7, .inr (1, [.ref (a 8), .ref (a 9), .ref (a 10), .ref (a 11)])), (a 8, .inl (V.2 0, 1024, .inl x_groups_groups)), (a 9, .inl (V.2 0, 1024, .inl x_groups_finer)), (a 10, .inl (V.2 0, 2048, .inl x_groups_buckets)), (a 11, .inl (V.2 0, 1024, .inl x_groups_chains)), (b 0, .inr (5, [.ref (b 1), .ref (b 2), .int y_firsts, .int y_loose])), (b 1, .inl (V.2 0, 10, .inl y_onward)), (b 2, .inl (V.2 0, 6, .inl y_takers))] 0 0 (ga_Fv (fun (u : Int32 × Int32 × Int32 × Int32 × (Nat → Int32) × (Nat → Int32) × (Nat → Int32) × (Nat → Int32) × (Nat → Int32) × (Nat → Int32) × (Nat → Int32) × (Nat → Int32) × (Nat → Int32) × (Nat → Int32)) => [(a 0, .inr (8, [.ref (a 1), .ref (a 2), .ref (a 3), .ref (a 4), .ref (a 5), .ref (a 6), .ref (a 7), .int u.1, .int u.2.1, .int u.2.2.1, .int u.2.2.2.1])), (a 1, .inl (V.2 0, 1024, .inl u.2.2.2.2.1)), (a 2, .inl (V.2 0, 1024, .inl u.2.2.2.2.2.1)), (a 3, .inl (V.2 0, 1024, .inl u.2.2.2.2.2.2.1)), (a 4, .inl (V.2 0, 6144, .inl u.2.2.2.2.2.2.2.1)), (a 5, .inl (V.2 0, 6, .inl u.2.2.2.2.2.2.2.2.1)), (a 6, .inl (V.2 1, 36, .inl u.2.2.2.2.2.2.2.2.2.1)), (a 7, .inr (1, [.ref (a 8), .ref (a 9), .ref (a 10), .ref (a 11)])), (a 8, .inl (V.2 0, 1024, .inl u.2.2.2.2.2.2.2.2.2.2.1)), (a 9, .inl (V.2 0, 1024, .inl u.2.2.2.2.2.2.2.2.2.2.2.1)), (a 10, .inl (V.2 0, 2048, .inl u.2.2.2.2.2.2.2.2.2.2.2.2.1)), (a 11, .inl (V.2 0, 1024, .inl u.2.2.2.2.2.2.2.2.2.2.2.2.2)), (b 0, .inr (5, [.ref (b 1), .ref (b 2), .int y_firsts, .int y_loose])), (b 1, .inl (V.2 0, 10, .inl y_onward)), (b 2, .inl (V.2 0, 6, .inl y_takers))]) (fun u => K u.1 u.2.1 u.2.2.1 u.2.2.2.1 u.2.2.2.2.1 u.2.2.2.2.2.1 u.2.2.2.2.2.2.1 u.2.2.2.2.2.2.2.1 u.2.2.2.2.2.2.2.2.1 u.2.2.2.2.2.2.2.2.2.1 u.2.2.2.2.2.2.2.2.2.2.1 u.2.2.2.2.2.2.2.2.2.2.2.1 u.2.2.2.2.2.2.2.2.2.2.2.2.1 u.2.2.2.2.2.2.2.2.2.2.2.2.2)) := by
  refine ga_met (cc := cX8_find) (maxL := 5) (rt := none) (by decide) rfl [(0, .ref (a 0)), (1, .ref (b 0))] rfl (Nat.le_of_ble_eq_true rfl) ?_
  intro G hR hE
  have hinX8 : ∀ w ∈ u_ws RX8 TX8 11, w ∈ wsX8_find := by decide +kernel
  have f38 : Cond.fieldLink RX8 38 "BoundaryRules$Ways" "areFound" "Z" ∈ wsX8_find := by decide +kernel
  have f42 : Cond.fieldLink RX8 42 "BoundaryRules$Ways" "number" "I" ∈ wsX8_find := by decide +kernel
  have f18 : Cond.fieldLink RX8 18 "BoundaryRules$Ways" "numberOf" "[I" ∈ wsX8_find := by decide +kernel
  have f34 : Cond.fieldLink RX8 34 "BoundaryRules$Ways" "groups" "LBoundaryRules$Groups;" ∈ wsX8_find := by decide +kernel
  have f21 : Cond.fieldLink RX8 21 "BoundaryRules$Ways" "nexts" "[I" ∈ wsX8_find := by decide +kernel
  have f69 : Cond.fieldLink RX8 69 "BoundaryRules$Ways" "unlikeNumber" "I" ∈ wsX8_find := by decide +kernel
  have f9 : Cond.fieldLink RX8 9 "BoundaryRules$Ways" "stands" "[I" ∈ wsX8_find := by decide +kernel
  have f15 : Cond.fieldLink RX8 15 "BoundaryRules$Ways" "fewest" "[I" ∈ wsX8_find := by decide +kernel
  have f24 : Cond.fieldLink RX8 24 "BoundaryRules$Ways" "begun" "[I" ∈ wsX8_find := by decide +kernel
  unfold wp_X8_find at h
  refine ga_aload_n hR (pc := 0) 0 rfl rfl dX8_find_0 ?_
  refine ga_get hR (pc := 1) 0 rfl rfl hinX8 10 (by decide) f38 rfl dX8_find_1 ?_
  refine ga_if_eq hR (pc := 4) 8 (by decide) dX8_find_4 (fun c4 => ?_) (fun c4 => ?_)
  · replace h := h.1 c4
    refine ga_aload_n hR (pc := 8) 0 rfl rfl dX8_find_8 ?_
    refine ga_iconst hR (pc := 9) (v := nI 1) (by decide) dX8_find_9 ?_
    refine ga_putf hR (pc := 10) (ws' := [(a 0, .inr (8, [.ref (a 1), .ref (a 2), .ref (a 3), .ref (a 4), .ref (a 5), .ref (a 6), .ref (a 7), .int x_number, .int x_unlikeNumber, .int x_knownNumber, .int (nI 1)])), (a 1, .inl (V.2 0, 1024, .inl x_stands)), (a 2, .inl (V.2 0, 1024, .inl x_fewest)), (a 3, .inl (V.2 0, 1024, .inl x_numberOf)), (a 4, .inl (V.2 0, 6144, .inl x_nexts)), (a 5, .inl (V.2 0, 6, .inl x_begun)), (a 6, .inl (V.2 1, 36, .inl x_known)), (a 7, .inr (1, [.ref (a 8), .ref (a 9), .ref (a 10), .ref (a 11)])), (a 8, .inl (V.2 0, 1024, .inl x_groups_groups)), (a 9, .inl (V.2 0, 1024, .inl x_groups_finer)), (a 10, .inl (V.2 0, 2048, .inl x_groups_buckets)), (a 11, .inl (V.2 0, 1024, .inl x_groups_chains)), (b 0, .inr (5, [.ref (b 1), .ref (b 2), .int y_firsts, .int y_loose])), (b 1, .inl (V.2 0, 10, .inl y_onward)), (b 2, .inl (V.2 0, 6, .inl y_takers))]) 0 rfl rfl hinX8 10 (by decide) f38 tyX8_ok nmX8 rfl (by decide) (by decide) (Nat.le_of_ble_eq_true rfl) rfl dX8_find_10 ?_
    refine ga_aload_n hR (pc := 13) 0 rfl rfl dX8_find_13 ?_
    refine ga_iconst hR (pc := 14) (v := nI 0) (by decide) dX8_find_14 ?_
    refine ga_putf hR (pc := 15) (ws' := [(a 0, .inr (8, [.ref (a 1), .ref (a 2), .ref (a 3), .ref (a 4), .ref (a 5), .ref (a 6), .ref (a 7), .int (nI 0), .int x_unlikeNumber, .int x_knownNumber, .int (nI 1)])), (a 1, .inl (V.2 0, 1024, .inl x_stands)), (a 2, .inl (V.2 0, 1024, .inl x_fewest)), (a 3, .inl (V.2 0, 1024, .inl x_numberOf)), (a 4, .inl (V.2 0, 6144, .inl x_nexts)), (a 5, .inl (V.2 0, 6, .inl x_begun)), (a 6, .inl (V.2 1, 36, .inl x_known)), (a 7, .inr (1, [.ref (a 8), .ref (a 9), .ref (a 10), .ref (a 11)])), (a 8, .inl (V.2 0, 1024, .inl x_groups_groups)), (a 9, .inl (V.2 0, 1024, .inl x_groups_finer)), (a 10, .inl (V.2 0, 2048, .inl x_groups_buckets)), (a 11, .inl (V.2 0, 1024, .inl x_groups_chains)), (b 0, .inr (5, [.ref (b 1), .ref (b 2), .int y_firsts, .int y_loose])), (b 1, .inl (V.2 0, 10, .inl y_onward)), (b 2, .inl (V.2 0, 6, .inl y_takers))]) 0 rfl rfl hinX8 7 (by decide) f42 tyX8_ok nmX8 rfl rfl rfl (Nat.le_of_ble_eq_true rfl) rfl dX8_find_15 ?_
    refine ga_aload_n hR (pc := 18) 0 rfl rfl dX8_find_18 ?_
    refine ga_get hR (pc := 19) 0 rfl rfl hinX8 2 (by decide) f18 rfl dX8_find_19 ?_
    refine ga_bipush hR (pc := 22) (v := -4) (by decide) dX8_find_22 ?_
    refine ga_callS hR (pc := 24) (As := [.ref (a 3), .int (-4)]) (rest := []) (st0 := [.int (-4), .ref (a 3)]) 2 (c_J7_fill_53178 V (fun k => a (k + 3)) 1024 x_numberOf (-4) _ h) (ga_same_v fun _ => rfl) gX8_find_J7_fill_53178 rfl rfl rfl hd_J7_fill_53178S ⟨Nat.le_of_ble_eq_true rfl, Nat.le_of_ble_eq_true rfl⟩ rfl rfl (Nat.le_of_ble_eq_true rfl) ⟨Nat.zero_le _, Nat.zero_le _⟩ [3] rfl rfl dX8_find_24 ?_
    rintro _ _ ⟨x_numberOf_1, rfl, rfl, h⟩
    refine ga_to [(a 0, .inr (8, [.ref (a 1), .ref (a 2), .ref (a 3), .ref (a 4), .ref (a 5), .ref (a 6), .ref (a 7), .int (nI 0), .int x_unlikeNumber, .int x_knownNumber, .int (nI 1)])), (a 1, .inl (V.2 0, 1024, .inl x_stands)), (a 2, .inl (V.2 0, 1024, .inl x_fewest)), (a 3, .inl (V.2 0, 1024, .inl x_numberOf_1)), (a 4, .inl (V.2 0, 6144, .inl x_nexts)), (a 5, .inl (V.2 0, 6, .inl x_begun)), (a 6, .inl (V.2 1, 36, .inl x_known)), (a 7, .inr (1, [.ref (a 8), .ref (a 9), .ref (a 10), .ref (a 11)])), (a 8, .inl (V.2 0, 1024, .inl x_groups_groups)), (a 9, .inl (V.2 0, 1024, .inl x_groups_finer)), (a 10, .inl (V.2 0, 2048, .inl x_groups_buckets)), (a 11, .inl (V.2 0, 1024, .inl x_groups_chains)), (b 0, .inr (5, [.ref (b 1), .ref (b 2), .int y_firsts, .int y_loose])), (b 1, .inl (V.2 0, 10, .inl y_onward)), (b 2, .inl (V.2 0, 6, .inl y_takers))] [] rfl rfl ?_
    try dsimp only at h
    refine ga_iconst hR (pc := 27) (v := nI 0) (by decide) dX8_find_27 ?_
    refine ga_istore_n hR (pc := 28) (lv' := [(2, .int (nI 0)), (0, .ref (a 0)), (1, .ref (b 0))]) rfl (by decide) rfl dX8_find_28 ?_
    have hJ := h (fun (x_number_2 : Int32) (x_stands_3 : Nat → Int32) (x_fewest_4 : Nat → Int32) (x_numberOf_5 : Nat → Int32) (x_begun_6 : Nat → Int32) => G 0 0 [(a 0, .inr (8, [.ref (a 1), .ref (a 2), .ref (a 3), .ref (a 4), .ref (a 5), .ref (a 6), .ref (a 7), .int x_number_2, .int x_unlikeNumber, .int x_knownNumber, .int (nI 1)])), (a 1, .inl (V.2 0, 1024, .inl x_stands_3)), (a 2, .inl (V.2 0, 1024, .inl x_fewest_4)), (a 3, .inl (V.2 0, 1024, .inl x_numberOf_5)), (a 4, .inl (V.2 0, 6144, .inl x_nexts)), (a 5, .inl (V.2 0, 6, .inl x_begun_6)), (a 6, .inl (V.2 1, 36, .inl x_known)), (a 7, .inr (1, [.ref (a 8), .ref (a 9), .ref (a 10), .ref (a 11)])), (a 8, .inl (V.2 0, 1024, .inl x_groups_groups)), (a 9, .inl (V.2 0, 1024, .inl x_groups_finer)), (a 10, .inl (V.2 0, 2048, .inl x_groups_buckets)), (a 11, .inl (V.2 0, 1024, .inl x_groups_chains)), (b 0, .inr (5, [.ref (b 1), .ref (b 2), .int y_firsts, .int y_loose])), (b 1, .inl (V.2 0, 10, .inl y_onward)), (b 2, .inl (V.2 0, 6, .inl y_takers))] 57 [(0, .ref (a 0)), (1, .ref (b 0))] [])
    refine ga_bind hJ ?_ ?_
    · intro x_number_2 x_stands_3 x_fewest_4 x_numberOf_5 x_begun_6 h
      show G 0 0 [(a 0, .inr (8, [.ref (a 1), .ref (a 2), .ref (a 3), .ref (a 4), .ref (a 5), .ref (a 6), .ref (a 7), .int x_number_2, .int x_unlikeNumber, .int x_knownNumber, .int (nI 1)])), (a 1, .inl (V.2 0, 1024, .inl x_stands_3)), (a 2, .inl (V.2 0, 1024, .inl x_fewest_4)), (a 3, .inl (V.2 0, 1024, .inl x_numberOf_5)), (a 4, .inl (V.2 0, 6144, .inl x_nexts)), (a 5, .inl (V.2 0, 6, .inl x_begun_6)), (a 6, .inl (V.2 1, 36, .inl x_known)), (a 7, .inr (1, [.ref (a 8), .ref (a 9), .ref (a 10), .ref (a 11)])), (a 8, .inl (V.2 0, 1024, .inl x_groups_groups)), (a 9, .inl (V.2 0, 1024, .inl x_groups_finer)), (a 10, .inl (V.2 0, 2048, .inl x_groups_buckets)), (a 11, .inl (V.2 0, 1024, .inl x_groups_chains)), (b 0, .inr (5, [.ref (b 1), .ref (b 2), .int y_firsts, .int y_loose])), (b 1, .inl (V.2 0, 10, .inl y_onward)), (b 2, .inl (V.2 0, 6, .inl y_takers))] 57 [(0, .ref (a 0)), (1, .ref (b 0))] []
      refine ga_iconst hR (pc := 57) (v := nI 0) (by decide) dX8_find_57 ?_
      refine ga_istore_n hR (pc := 58) (lv' := [(2, .int (nI 0)), (0, .ref (a 0)), (1, .ref (b 0))]) rfl (by decide) rfl dX8_find_58 ?_
      have hJ := h (fun (x_number_8 : Int32) (x_stands_9 : Nat → Int32) (x_fewest_10 : Nat → Int32) (x_numberOf_11 : Nat → Int32) (x_nexts_12 : Nat → Int32) => G 0 0 [(a 0, .inr (8, [.ref (a 1), .ref (a 2), .ref (a 3), .ref (a 4), .ref (a 5), .ref (a 6), .ref (a 7), .int x_number_8, .int x_unlikeNumber, .int x_knownNumber, .int (nI 1)])), (a 1, .inl (V.2 0, 1024, .inl x_stands_9)), (a 2, .inl (V.2 0, 1024, .inl x_fewest_10)), (a 3, .inl (V.2 0, 1024, .inl x_numberOf_11)), (a 4, .inl (V.2 0, 6144, .inl x_nexts_12)), (a 5, .inl (V.2 0, 6, .inl x_begun_6)), (a 6, .inl (V.2 1, 36, .inl x_known)), (a 7, .inr (1, [.ref (a 8), .ref (a 9), .ref (a 10), .ref (a 11)])), (a 8, .inl (V.2 0, 1024, .inl x_groups_groups)), (a 9, .inl (V.2 0, 1024, .inl x_groups_finer)), (a 10, .inl (V.2 0, 2048, .inl x_groups_buckets)), (a 11, .inl (V.2 0, 1024, .inl x_groups_chains)), (b 0, .inr (5, [.ref (b 1), .ref (b 2), .int y_firsts, .int y_loose])), (b 1, .inl (V.2 0, 10, .inl y_onward)), (b 2, .inl (V.2 0, 6, .inl y_takers))] 141 [(0, .ref (a 0))] [])
      refine ga_bind hJ ?_ ?_
      · intro x_number_8 x_stands_9 x_fewest_10 x_numberOf_11 x_nexts_12 h
        show G 0 0 [(a 0, .inr (8, [.ref (a 1), .ref (a 2), .ref (a 3), .ref (a 4), .ref (a 5), .ref (a 6), .ref (a 7), .int x_number_8, .int x_unlikeNumber, .int x_knownNumber, .int (nI 1)])), (a 1, .inl (V.2 0, 1024, .inl x_stands_9)), (a 2, .inl (V.2 0, 1024, .inl x_fewest_10)), (a 3, .inl (V.2 0, 1024, .inl x_numberOf_11)), (a 4, .inl (V.2 0, 6144, .inl x_nexts_12)), (a 5, .inl (V.2 0, 6, .inl x_begun_6)), (a 6, .inl (V.2 1, 36, .inl x_known)), (a 7, .inr (1, [.ref (a 8), .ref (a 9), .ref (a 10), .ref (a 11)])), (a 8, .inl (V.2 0, 1024, .inl x_groups_groups)), (a 9, .inl (V.2 0, 1024, .inl x_groups_finer)), (a 10, .inl (V.2 0, 2048, .inl x_groups_buckets)), (a 11, .inl (V.2 0, 1024, .inl x_groups_chains)), (b 0, .inr (5, [.ref (b 1), .ref (b 2), .int y_firsts, .int y_loose])), (b 1, .inl (V.2 0, 10, .inl y_onward)), (b 2, .inl (V.2 0, 6, .inl y_takers))] 141 [(0, .ref (a 0))] []
        refine ga_aload_n hR (pc := 141) 0 rfl rfl dX8_find_141 ?_
        refine ga_aload_n hR (pc := 142) 0 rfl rfl dX8_find_142 ?_
        refine ga_get hR (pc := 143) 0 rfl rfl hinX8 6 (by decide) f34 rfl dX8_find_143 ?_
        refine ga_aload_n hR (pc := 146) 0 rfl rfl dX8_find_146 ?_
        refine ga_get hR (pc := 147) 0 rfl rfl hinX8 3 (by decide) f21 rfl dX8_find_147 ?_
        refine ga_aload_n hR (pc := 150) 0 rfl rfl dX8_find_150 ?_
        refine ga_get hR (pc := 151) 0 rfl rfl hinX8 7 (by decide) f42 rfl dX8_find_151 ?_
        refine ga_callV hR (pc := 154) (As := [.ref (a 4), .int x_number_8]) (rest := [.ref (a 0)]) (st0 := [.int x_number_8, .ref (a 4), .ref (a 7), .ref (a 0)]) (b := (a 7)) 2 (c_X1_part V (fun k => a (k + 7)) (fun k => a (k + 4)) 6144 x_groups_groups x_groups_finer x_groups_buckets x_groups_chains x_nexts_12 x_number_8 _ h) (ga_same_i fun _ => rfl) gX8_find_X1_part rfl rfl rfl hd_X1_part ⟨Nat.le_of_ble_eq_true rfl, Nat.le_of_ble_eq_true rfl⟩ rfl rfl (Nat.le_of_ble_eq_true rfl) ⟨Nat.zero_le _, Nat.zero_le _⟩ [7, 8, 9, 10, 11, 4] rfl rfl 7 rfl rfl dX8_find_154 ?_
        rintro _ _ ⟨r_18, ⟨x_groups_groups_14, x_groups_finer_15, x_groups_buckets_16, x_groups_chains_17⟩, rfl, rfl, h⟩
        refine ga_to [(a 0, .inr (8, [.ref (a 1), .ref (a 2), .ref (a 3), .ref (a 4), .ref (a 5), .ref (a 6), .ref (a 7), .int x_number_8, .int x_unlikeNumber, .int x_knownNumber, .int (nI 1)])), (a 1, .inl (V.2 0, 1024, .inl x_stands_9)), (a 2, .inl (V.2 0, 1024, .inl x_fewest_10)), (a 3, .inl (V.2 0, 1024, .inl x_numberOf_11)), (a 4, .inl (V.2 0, 6144, .inl x_nexts_12)), (a 5, .inl (V.2 0, 6, .inl x_begun_6)), (a 6, .inl (V.2 1, 36, .inl x_known)), (a 7, .inr (1, [.ref (a 8), .ref (a 9), .ref (a 10), .ref (a 11)])), (a 8, .inl (V.2 0, 1024, .inl x_groups_groups_14)), (a 9, .inl (V.2 0, 1024, .inl x_groups_finer_15)), (a 10, .inl (V.2 0, 2048, .inl x_groups_buckets_16)), (a 11, .inl (V.2 0, 1024, .inl x_groups_chains_17)), (b 0, .inr (5, [.ref (b 1), .ref (b 2), .int y_firsts, .int y_loose])), (b 1, .inl (V.2 0, 10, .inl y_onward)), (b 2, .inl (V.2 0, 6, .inl y_takers))] [.int r_18, .ref (a 0)] rfl rfl ?_
        try dsimp only at h
        refine ga_putf hR (pc := 157) (ws' := [(a 0, .inr (8, [.ref (a 1), .ref (a 2), .ref (a 3), .ref (a 4), .ref (a 5), .ref (a 6), .ref (a 7), .int x_number_8, .int r_18, .int x_knownNumber, .int (nI 1)])), (a 1, .inl (V.2 0, 1024, .inl x_stands_9)), (a 2, .inl (V.2 0, 1024, .inl x_fewest_10)), (a 3, .inl (V.2 0, 1024, .inl x_numberOf_11)), (a 4, .inl (V.2 0, 6144, .inl x_nexts_12)), (a 5, .inl (V.2 0, 6, .inl x_begun_6)), (a 6, .inl (V.2 1, 36, .inl x_known)), (a 7, .inr (1, [.ref (a 8), .ref (a 9), .ref (a 10), .ref (a 11)])), (a 8, .inl (V.2 0, 1024, .inl x_groups_groups_14)), (a 9, .inl (V.2 0, 1024, .inl x_groups_finer_15)), (a 10, .inl (V.2 0, 2048, .inl x_groups_buckets_16)), (a 11, .inl (V.2 0, 1024, .inl x_groups_chains_17)), (b 0, .inr (5, [.ref (b 1), .ref (b 2), .int y_firsts, .int y_loose])), (b 1, .inl (V.2 0, 10, .inl y_onward)), (b 2, .inl (V.2 0, 6, .inl y_takers))]) 0 rfl rfl hinX8 8 (by decide) f69 tyX8_ok nmX8 rfl rfl rfl (Nat.le_of_ble_eq_true rfl) rfl dX8_find_157 ?_
        refine ga_aload_n hR (pc := 160) 0 rfl rfl dX8_find_160 ?_
        refine ga_callV hR (pc := 161) (As := []) (rest := []) (st0 := [.ref (a 0)]) (b := (a 0)) 0 (c_X8_findKnown V a r_18 (nI 1) x_number_8 x_knownNumber x_nexts_12 x_begun_6 x_known _ h) (ga_same_v fun _ => rfl) gX8_find_X8_findKnown rfl rfl rfl hd_X8_findKnown ⟨Nat.le_of_ble_eq_true rfl, Nat.le_of_ble_eq_true rfl⟩ rfl rfl (Nat.le_of_ble_eq_true rfl) ⟨Nat.zero_le _, Nat.zero_le _⟩ [0, 4, 5, 6] rfl rfl 0 rfl rfl dX8_find_161 ?_
        rintro _ _ ⟨⟨x_knownNumber_19, x_known_20⟩, rfl, rfl, h⟩
        refine ga_to [(a 0, .inr (8, [.ref (a 1), .ref (a 2), .ref (a 3), .ref (a 4), .ref (a 5), .ref (a 6), .ref (a 7), .int x_number_8, .int r_18, .int x_knownNumber_19, .int (nI 1)])), (a 1, .inl (V.2 0, 1024, .inl x_stands_9)), (a 2, .inl (V.2 0, 1024, .inl x_fewest_10)), (a 3, .inl (V.2 0, 1024, .inl x_numberOf_11)), (a 4, .inl (V.2 0, 6144, .inl x_nexts_12)), (a 5, .inl (V.2 0, 6, .inl x_begun_6)), (a 6, .inl (V.2 1, 36, .inl x_known_20)), (a 7, .inr (1, [.ref (a 8), .ref (a 9), .ref (a 10), .ref (a 11)])), (a 8, .inl (V.2 0, 1024, .inl x_groups_groups_14)), (a 9, .inl (V.2 0, 1024, .inl x_groups_finer_15)), (a 10, .inl (V.2 0, 2048, .inl x_groups_buckets_16)), (a 11, .inl (V.2 0, 1024, .inl x_groups_chains_17)), (b 0, .inr (5, [.ref (b 1), .ref (b 2), .int y_firsts, .int y_loose])), (b 1, .inl (V.2 0, 10, .inl y_onward)), (b 2, .inl (V.2 0, 6, .inl y_takers))] [] rfl rfl ?_
        try dsimp only at h
        exact ga_vret hE dX8_find_164 (ga_rv (x_number_8, r_18, x_knownNumber_19, nI 1, x_stands_9, x_fewest_10, x_numberOf_11, x_nexts_12, x_begun_6, x_known_20, x_groups_groups_14, x_groups_finer_15, x_groups_buckets_16, x_groups_chains_17) rfl h)
      · intro h
        obtain ⟨n, h⟩ := h
        have L59 : ∀ (n : Nat) (v2_54 : Int32) (x_number_55 : Int32) (x_stands_56 : Nat → Int32) (x_fewest_57 : Nat → Int32) (x_numberOf_58 : Nat → Int32) (x_nexts_59 : Nat → Int32), lp_X8_find_59 y_loose y_onward y_takers (fun (x_number_8 : Int32) (x_stands_9 : Nat → Int32) (x_fewest_10 : Nat → Int32) (x_numberOf_11 : Nat → Int32) (x_nexts_12 : Nat → Int32) => G 0 0 [(a 0, .inr (8, [.ref (a 1), .ref (a 2), .ref (a 3), .ref (a 4), .ref (a 5), .ref (a 6), .ref (a 7), .int x_number_8, .int x_unlikeNumber, .int x_knownNumber, .int (nI 1)])), (a 1, .inl (V.2 0, 1024, .inl x_stands_9)), (a 2, .inl (V.2 0, 1024, .inl x_fewest_10)), (a 3, .inl (V.2 0, 1024, .inl x_numberOf_11)), (a 4, .inl (V.2 0, 6144, .inl x_nexts_12)), (a 5, .inl (V.2 0, 6, .inl x_begun_6)), (a 6, .inl (V.2 1, 36, .inl x_known)), (a 7, .inr (1, [.ref (a 8), .ref (a 9), .ref (a 10), .ref (a 11)])), (a 8, .inl (V.2 0, 1024, .inl x_groups_groups)), (a 9, .inl (V.2 0, 1024, .inl x_groups_finer)), (a 10, .inl (V.2 0, 2048, .inl x_groups_buckets)), (a 11, .inl (V.2 0, 1024, .inl x_groups_chains)), (b 0, .inr (5, [.ref (b 1), .ref (b 2), .int y_firsts, .int y_loose])), (b 1, .inl (V.2 0, 10, .inl y_onward)), (b 2, .inl (V.2 0, 6, .inl y_takers))] 141 [(0, .ref (a 0))] []) n v2_54 x_number_55 x_stands_56 x_fewest_57 x_numberOf_58 x_nexts_59 → G 0 0 [(a 0, .inr (8, [.ref (a 1), .ref (a 2), .ref (a 3), .ref (a 4), .ref (a 5), .ref (a 6), .ref (a 7), .int x_number_55, .int x_unlikeNumber, .int x_knownNumber, .int (nI 1)])), (a 1, .inl (V.2 0, 1024, .inl x_stands_56)), (a 2, .inl (V.2 0, 1024, .inl x_fewest_57)), (a 3, .inl (V.2 0, 1024, .inl x_numberOf_58)), (a 4, .inl (V.2 0, 6144, .inl x_nexts_59)), (a 5, .inl (V.2 0, 6, .inl x_begun_6)), (a 6, .inl (V.2 1, 36, .inl x_known)), (a 7, .inr (1, [.ref (a 8), .ref (a 9), .ref (a 10), .ref (a 11)])), (a 8, .inl (V.2 0, 1024, .inl x_groups_groups)), (a 9, .inl (V.2 0, 1024, .inl x_groups_finer)), (a 10, .inl (V.2 0, 2048, .inl x_groups_buckets)), (a 11, .inl (V.2 0, 1024, .inl x_groups_chains)), (b 0, .inr (5, [.ref (b 1), .ref (b 2), .int y_firsts, .int y_loose])), (b 1, .inl (V.2 0, 10, .inl y_onward)), (b 2, .inl (V.2 0, 6, .inl y_takers))] 59 [(0, .ref (a 0)), (1, .ref (b 0)), (2, .int v2_54)] [] := by
          intro n
          induction n with
          | zero => exact fun _ _ _ _ _ _ h => False.elim h
          | succ n ih =>
            intro v2_54 x_number_55 x_stands_56 x_fewest_57 x_numberOf_58 x_nexts_59 h
            rw [lp_X8_find_59] at h
            refine ga_iload_n hR (pc := 59) 2 rfl rfl dX8_find_59 ?_
            refine ga_aload_n hR (pc := 60) 0 rfl rfl dX8_find_60 ?_
            refine ga_get hR (pc := 61) 0 rfl rfl hinX8 7 (by decide) f42 rfl dX8_find_61 ?_
            refine ga_icmp_ge hR (pc := 64) 141 (by decide) dX8_find_64 (fun c64 => ?_) (fun c64 => ?_)
            · replace h := h.1 c64
              exact ga_lv hR [0] rfl h
            · replace h := h.2 c64
              refine ga_iload_n hR (pc := 67) 2 rfl rfl dX8_find_67 ?_
              refine ga_sipush hR (pc := 68) (v := nI 1024) (by decide) dX8_find_68 ?_
              refine ga_icmp_ge hR (pc := 71) 141 (by decide) dX8_find_71 (fun c71 => ?_) (fun c71 => ?_)
              · replace h := h.1 c71
                exact ga_lv hR [0] rfl h
              · replace h := h.2 c71
                refine ga_iconst hR (pc := 74) (v := nI 0) (by decide) dX8_find_74 ?_
                refine ga_istore_n hR (pc := 75) (lv' := [(3, .int (nI 0)), (0, .ref (a 0)), (1, .ref (b 0)), (2, .int v2_54)]) rfl (by decide) rfl dX8_find_75 ?_
                have hJ := h (fun (x_number_60 : Int32) (x_stands_61 : Nat → Int32) (x_fewest_62 : Nat → Int32) (x_numberOf_63 : Nat → Int32) (x_nexts_64 : Nat → Int32) => G 0 0 [(a 0, .inr (8, [.ref (a 1), .ref (a 2), .ref (a 3), .ref (a 4), .ref (a 5), .ref (a 6), .ref (a 7), .int x_number_60, .int x_unlikeNumber, .int x_knownNumber, .int (nI 1)])), (a 1, .inl (V.2 0, 1024, .inl x_stands_61)), (a 2, .inl (V.2 0, 1024, .inl x_fewest_62)), (a 3, .inl (V.2 0, 1024, .inl x_numberOf_63)), (a 4, .inl (V.2 0, 6144, .inl x_nexts_64)), (a 5, .inl (V.2 0, 6, .inl x_begun_6)), (a 6, .inl (V.2 1, 36, .inl x_known)), (a 7, .inr (1, [.ref (a 8), .ref (a 9), .ref (a 10), .ref (a 11)])), (a 8, .inl (V.2 0, 1024, .inl x_groups_groups)), (a 9, .inl (V.2 0, 1024, .inl x_groups_finer)), (a 10, .inl (V.2 0, 2048, .inl x_groups_buckets)), (a 11, .inl (V.2 0, 1024, .inl x_groups_chains)), (b 0, .inr (5, [.ref (b 1), .ref (b 2), .int y_firsts, .int y_loose])), (b 1, .inl (V.2 0, 10, .inl y_onward)), (b 2, .inl (V.2 0, 6, .inl y_takers))] 135 [(0, .ref (a 0)), (1, .ref (b 0)), (2, .int v2_54)] [])
                refine ga_bind hJ ?_ ?_
                · intro x_number_60 x_stands_61 x_fewest_62 x_numberOf_63 x_nexts_64 h
                  show G 0 0 [(a 0, .inr (8, [.ref (a 1), .ref (a 2), .ref (a 3), .ref (a 4), .ref (a 5), .ref (a 6), .ref (a 7), .int x_number_60, .int x_unlikeNumber, .int x_knownNumber, .int (nI 1)])), (a 1, .inl (V.2 0, 1024, .inl x_stands_61)), (a 2, .inl (V.2 0, 1024, .inl x_fewest_62)), (a 3, .inl (V.2 0, 1024, .inl x_numberOf_63)), (a 4, .inl (V.2 0, 6144, .inl x_nexts_64)), (a 5, .inl (V.2 0, 6, .inl x_begun_6)), (a 6, .inl (V.2 1, 36, .inl x_known)), (a 7, .inr (1, [.ref (a 8), .ref (a 9), .ref (a 10), .ref (a 11)])), (a 8, .inl (V.2 0, 1024, .inl x_groups_groups)), (a 9, .inl (V.2 0, 1024, .inl x_groups_finer)), (a 10, .inl (V.2 0, 2048, .inl x_groups_buckets)), (a 11, .inl (V.2 0, 1024, .inl x_groups_chains)), (b 0, .inr (5, [.ref (b 1), .ref (b 2), .int y_firsts, .int y_loose])), (b 1, .inl (V.2 0, 10, .inl y_onward)), (b 2, .inl (V.2 0, 6, .inl y_takers))] 135 [(0, .ref (a 0)), (1, .ref (b 0)), (2, .int v2_54)] []
                  obtain ⟨v2_66, ev2_66⟩ : ∃ v : Int32, v = v2_54 + (nI 1) := ⟨_, rfl⟩
                  replace h := h v2_66 ev2_66
                  refine ga_iinc hR (pc := 135) (lv' := [(2, .int v2_66), (0, .ref (a 0)), (1, .ref (b 0))]) 2 (by decide) rfl ev2_66 (by decide) rfl dX8_find_135 ?_
                  refine ga_goto hR (pc := 138) 59 (by decide) dX8_find_138 ?_
                  exact ga_lv hR [1, 2, 0] rfl (ih _ _ _ _ _ _ h)
                · intro h
                  obtain ⟨n, h⟩ := h
                  have L76 : ∀ (n : Nat) (v3_67 : Int32) (x_number_68 : Int32) (x_stands_69 : Nat → Int32) (x_fewest_70 : Nat → Int32) (x_numberOf_71 : Nat → Int32) (x_nexts_72 : Nat → Int32), lp_X8_find_76 y_loose y_onward y_takers v2_54 (fun (x_number_60 : Int32) (x_stands_61 : Nat → Int32) (x_fewest_62 : Nat → Int32) (x_numberOf_63 : Nat → Int32) (x_nexts_64 : Nat → Int32) => G 0 0 [(a 0, .inr (8, [.ref (a 1), .ref (a 2), .ref (a 3), .ref (a 4), .ref (a 5), .ref (a 6), .ref (a 7), .int x_number_60, .int x_unlikeNumber, .int x_knownNumber, .int (nI 1)])), (a 1, .inl (V.2 0, 1024, .inl x_stands_61)), (a 2, .inl (V.2 0, 1024, .inl x_fewest_62)), (a 3, .inl (V.2 0, 1024, .inl x_numberOf_63)), (a 4, .inl (V.2 0, 6144, .inl x_nexts_64)), (a 5, .inl (V.2 0, 6, .inl x_begun_6)), (a 6, .inl (V.2 1, 36, .inl x_known)), (a 7, .inr (1, [.ref (a 8), .ref (a 9), .ref (a 10), .ref (a 11)])), (a 8, .inl (V.2 0, 1024, .inl x_groups_groups)), (a 9, .inl (V.2 0, 1024, .inl x_groups_finer)), (a 10, .inl (V.2 0, 2048, .inl x_groups_buckets)), (a 11, .inl (V.2 0, 1024, .inl x_groups_chains)), (b 0, .inr (5, [.ref (b 1), .ref (b 2), .int y_firsts, .int y_loose])), (b 1, .inl (V.2 0, 10, .inl y_onward)), (b 2, .inl (V.2 0, 6, .inl y_takers))] 135 [(0, .ref (a 0)), (1, .ref (b 0)), (2, .int v2_54)] []) n v3_67 x_number_68 x_stands_69 x_fewest_70 x_numberOf_71 x_nexts_72 → G 0 0 [(a 0, .inr (8, [.ref (a 1), .ref (a 2), .ref (a 3), .ref (a 4), .ref (a 5), .ref (a 6), .ref (a 7), .int x_number_68, .int x_unlikeNumber, .int x_knownNumber, .int (nI 1)])), (a 1, .inl (V.2 0, 1024, .inl x_stands_69)), (a 2, .inl (V.2 0, 1024, .inl x_fewest_70)), (a 3, .inl (V.2 0, 1024, .inl x_numberOf_71)), (a 4, .inl (V.2 0, 6144, .inl x_nexts_72)), (a 5, .inl (V.2 0, 6, .inl x_begun_6)), (a 6, .inl (V.2 1, 36, .inl x_known)), (a 7, .inr (1, [.ref (a 8), .ref (a 9), .ref (a 10), .ref (a 11)])), (a 8, .inl (V.2 0, 1024, .inl x_groups_groups)), (a 9, .inl (V.2 0, 1024, .inl x_groups_finer)), (a 10, .inl (V.2 0, 2048, .inl x_groups_buckets)), (a 11, .inl (V.2 0, 1024, .inl x_groups_chains)), (b 0, .inr (5, [.ref (b 1), .ref (b 2), .int y_firsts, .int y_loose])), (b 1, .inl (V.2 0, 10, .inl y_onward)), (b 2, .inl (V.2 0, 6, .inl y_takers))] 76 [(0, .ref (a 0)), (1, .ref (b 0)), (2, .int v2_54), (3, .int v3_67)] [] := by
                    intro n
                    induction n with
                    | zero => exact fun _ _ _ _ _ _ h => False.elim h
                    | succ n ih =>
                      intro v3_67 x_number_68 x_stands_69 x_fewest_70 x_numberOf_71 x_nexts_72 h
                      rw [lp_X8_find_76] at h
                      refine ga_iload_n hR (pc := 76) 3 rfl rfl dX8_find_76 ?_
                      refine ga_bipush hR (pc := 77) (v := nI 6) (by decide) dX8_find_77 ?_
                      refine ga_icmp_ge hR (pc := 79) 135 (by decide) dX8_find_79 (fun c79 => ?_) (fun c79 => ?_)
                      · replace h := h.1 c79
                        exact ga_lv hR [0, 1, 2] rfl h
                      · replace h := h.2 c79
                        refine ga_aload_n hR (pc := 82) 1 rfl rfl dX8_find_82 ?_
                        refine ga_aload_n hR (pc := 83) 0 rfl rfl dX8_find_83 ?_
                        refine ga_get hR (pc := 84) 0 rfl rfl hinX8 0 (by decide) f9 rfl dX8_find_84 ?_
                        refine ga_iload_n hR (pc := 87) 2 rfl rfl dX8_find_87 ?_
                        refine ga_iald hR (pc := 88) 1 rfl h.1 dX8_find_88 ?_
                        replace h := h.2
                        refine ga_iload_n hR (pc := 89) 3 rfl rfl dX8_find_89 ?_
                        refine ga_callV hR (pc := 90) (As := [.int (x_stands_69 v2_54.toNatClampNeg), .int v3_67]) (rest := []) (st0 := [.int v3_67, .int (x_stands_69 v2_54.toNatClampNeg), .ref (b 0)]) (b := (b 0)) 2 (c_X5_goOn V b y_firsts y_loose y_onward y_takers (x_stands_69 v2_54.toNatClampNeg) v3_67 _ h) (ga_same_i fun _ => rfl) gX8_find_X5_goOn rfl rfl rfl hd_X5_goOn ⟨Nat.le_of_ble_eq_true rfl, Nat.le_of_ble_eq_true rfl⟩ rfl rfl (Nat.le_of_ble_eq_true rfl) ⟨Nat.zero_le _, Nat.zero_le _⟩ [12, 13, 14] rfl rfl 12 rfl rfl dX8_find_90 ?_
                        rintro _ _ ⟨r_73, ⟨⟩, rfl, rfl, h⟩
                        refine ga_to [(a 0, .inr (8, [.ref (a 1), .ref (a 2), .ref (a 3), .ref (a 4), .ref (a 5), .ref (a 6), .ref (a 7), .int x_number_68, .int x_unlikeNumber, .int x_knownNumber, .int (nI 1)])), (a 1, .inl (V.2 0, 1024, .inl x_stands_69)), (a 2, .inl (V.2 0, 1024, .inl x_fewest_70)), (a 3, .inl (V.2 0, 1024, .inl x_numberOf_71)), (a 4, .inl (V.2 0, 6144, .inl x_nexts_72)), (a 5, .inl (V.2 0, 6, .inl x_begun_6)), (a 6, .inl (V.2 1, 36, .inl x_known)), (a 7, .inr (1, [.ref (a 8), .ref (a 9), .ref (a 10), .ref (a 11)])), (a 8, .inl (V.2 0, 1024, .inl x_groups_groups)), (a 9, .inl (V.2 0, 1024, .inl x_groups_finer)), (a 10, .inl (V.2 0, 2048, .inl x_groups_buckets)), (a 11, .inl (V.2 0, 1024, .inl x_groups_chains)), (b 0, .inr (5, [.ref (b 1), .ref (b 2), .int y_firsts, .int y_loose])), (b 1, .inl (V.2 0, 10, .inl y_onward)), (b 2, .inl (V.2 0, 6, .inl y_takers))] [.int r_73] rfl rfl ?_
                        try dsimp only at h
                        refine ga_istore hR (pc := 93) (lv' := [(4, .int r_73), (0, .ref (a 0)), (1, .ref (b 0)), (2, .int v2_54), (3, .int v3_67)]) (by decide) rfl dX8_find_93 ?_
                        refine ga_aload_n hR (pc := 95) 1 rfl rfl dX8_find_95 ?_
                        refine ga_get hR (pc := 96) 0 rfl rfl hinX8 3 (by decide) f21 rfl dX8_find_96 ?_
                        refine ga_iload_n hR (pc := 99) 3 rfl rfl dX8_find_99 ?_
                        refine ga_bipush hR (pc := 100) (v := nI 6) (by decide) dX8_find_100 ?_
                        refine ga_imul hR (pc := 102) dX8_find_102 ?_
                        refine ga_iload_n hR (pc := 103) 4 rfl rfl dX8_find_103 ?_
                        refine ga_iadd hR (pc := 104) dX8_find_104 ?_
                        refine ga_iload hR (pc := 105) 0 rfl dX8_find_105 ?_
                        refine ga_if_ne hR (pc := 107) 114 (by decide) dX8_find_107 (fun c107 => ?_) (fun c107 => ?_)
                        · replace h := h.1 c107
                          refine ga_aload_n hR (pc := 114) 1 rfl rfl dX8_find_114 ?_
                          refine ga_iload hR (pc := 115) 0 rfl dX8_find_115 ?_
                          refine ga_aload_n hR (pc := 117) 1 rfl rfl dX8_find_117 ?_
                          refine ga_get hR (pc := 118) 0 rfl rfl hinX8 1 (by decide) f15 rfl dX8_find_118 ?_
                          refine ga_iload_n hR (pc := 121) 3 rfl rfl dX8_find_121 ?_
                          refine ga_iald hR (pc := 122) 2 rfl h.1 dX8_find_122 ?_
                          replace h := h.2
                          refine ga_iconst hR (pc := 123) (v := nI 1) (by decide) dX8_find_123 ?_
                          refine ga_iadd hR (pc := 124) dX8_find_124 ?_
                          refine ga_callV hR (pc := 125) (As := [.int r_73, .int ((x_fewest_70 v2_54.toNatClampNeg) + (nI 1))]) (rest := [.int ((v2_54 * (nI 6)) + v3_67), .ref (a 4)]) (st0 := [.int ((x_fewest_70 v2_54.toNatClampNeg) + (nI 1)), .int r_73, .ref (a 0), .int ((v2_54 * (nI 6)) + v3_67), .ref (a 4)]) (b := (a 0)) 2 (c_X8_numberFor V a x_unlikeNumber x_knownNumber (nI 1) x_number_68 x_stands_69 x_fewest_70 x_numberOf_71 r_73 ((x_fewest_70 v2_54.toNatClampNeg) + (nI 1)) _ h) (ga_same_i fun _ => rfl) gX8_find_X8_numberFor rfl rfl rfl hd_X8_numberFor ⟨Nat.le_of_ble_eq_true rfl, Nat.le_of_ble_eq_true rfl⟩ rfl rfl (Nat.le_of_ble_eq_true rfl) ⟨Nat.zero_le _, Nat.zero_le _⟩ [0, 1, 2, 3] rfl rfl 0 rfl rfl dX8_find_125 ?_
                          rintro _ _ ⟨r_78, ⟨x_number_74, x_stands_75, x_fewest_76, x_numberOf_77⟩, rfl, rfl, h⟩
                          refine ga_to [(a 0, .inr (8, [.ref (a 1), .ref (a 2), .ref (a 3), .ref (a 4), .ref (a 5), .ref (a 6), .ref (a 7), .int x_number_74, .int x_unlikeNumber, .int x_knownNumber, .int (nI 1)])), (a 1, .inl (V.2 0, 1024, .inl x_stands_75)), (a 2, .inl (V.2 0, 1024, .inl x_fewest_76)), (a 3, .inl (V.2 0, 1024, .inl x_numberOf_77)), (a 4, .inl (V.2 0, 6144, .inl x_nexts_72)), (a 5, .inl (V.2 0, 6, .inl x_begun_6)), (a 6, .inl (V.2 1, 36, .inl x_known)), (a 7, .inr (1, [.ref (a 8), .ref (a 9), .ref (a 10), .ref (a 11)])), (a 8, .inl (V.2 0, 1024, .inl x_groups_groups)), (a 9, .inl (V.2 0, 1024, .inl x_groups_finer)), (a 10, .inl (V.2 0, 2048, .inl x_groups_buckets)), (a 11, .inl (V.2 0, 1024, .inl x_groups_chains)), (b 0, .inr (5, [.ref (b 1), .ref (b 2), .int y_firsts, .int y_loose])), (b 1, .inl (V.2 0, 10, .inl y_onward)), (b 2, .inl (V.2 0, 6, .inl y_takers))] [.int r_78, .int ((v2_54 * (nI 6)) + v3_67), .ref (a 4)] rfl rfl ?_
                          try dsimp only at h
                          refine ga_iast hR (pc := 128) (ws' := [(a 0, .inr (8, [.ref (a 1), .ref (a 2), .ref (a 3), .ref (a 4), .ref (a 5), .ref (a 6), .ref (a 7), .int x_number_74, .int x_unlikeNumber, .int x_knownNumber, .int (nI 1)])), (a 1, .inl (V.2 0, 1024, .inl x_stands_75)), (a 2, .inl (V.2 0, 1024, .inl x_fewest_76)), (a 3, .inl (V.2 0, 1024, .inl x_numberOf_77)), (a 4, .inl (V.2 0, 6144, .inl ((upd x_nexts_72 ((v2_54 * (nI 6)) + v3_67).toNatClampNeg r_78)))), (a 5, .inl (V.2 0, 6, .inl x_begun_6)), (a 6, .inl (V.2 1, 36, .inl x_known)), (a 7, .inr (1, [.ref (a 8), .ref (a 9), .ref (a 10), .ref (a 11)])), (a 8, .inl (V.2 0, 1024, .inl x_groups_groups)), (a 9, .inl (V.2 0, 1024, .inl x_groups_finer)), (a 10, .inl (V.2 0, 2048, .inl x_groups_buckets)), (a 11, .inl (V.2 0, 1024, .inl x_groups_chains)), (b 0, .inr (5, [.ref (b 1), .ref (b 2), .int y_firsts, .int y_loose])), (b 1, .inl (V.2 0, 10, .inl y_onward)), (b 2, .inl (V.2 0, 6, .inl y_takers))]) 4 rfl h.1 rfl dX8_find_128 ?_
                          replace h := h.2
                          obtain ⟨x_nexts_79, ex_nexts_79⟩ : ∃ f : Nat → Int32, f = upd x_nexts_72 ((v2_54 * (nI 6)) + v3_67).toNatClampNeg r_78 := ⟨_, rfl⟩
                          refine ga_cast (ws' := [(a 0, .inr (8, [.ref (a 1), .ref (a 2), .ref (a 3), .ref (a 4), .ref (a 5), .ref (a 6), .ref (a 7), .int x_number_74, .int x_unlikeNumber, .int x_knownNumber, .int (nI 1)])), (a 1, .inl (V.2 0, 1024, .inl x_stands_75)), (a 2, .inl (V.2 0, 1024, .inl x_fewest_76)), (a 3, .inl (V.2 0, 1024, .inl x_numberOf_77)), (a 4, .inl (V.2 0, 6144, .inl x_nexts_79)), (a 5, .inl (V.2 0, 6, .inl x_begun_6)), (a 6, .inl (V.2 1, 36, .inl x_known)), (a 7, .inr (1, [.ref (a 8), .ref (a 9), .ref (a 10), .ref (a 11)])), (a 8, .inl (V.2 0, 1024, .inl x_groups_groups)), (a 9, .inl (V.2 0, 1024, .inl x_groups_finer)), (a 10, .inl (V.2 0, 2048, .inl x_groups_buckets)), (a 11, .inl (V.2 0, 1024, .inl x_groups_chains)), (b 0, .inr (5, [.ref (b 1), .ref (b 2), .int y_firsts, .int y_loose])), (b 1, .inl (V.2 0, 10, .inl y_onward)), (b 2, .inl (V.2 0, 6, .inl y_takers))]) (by rw [ex_nexts_79]) rfl ?_
                          replace h := h x_nexts_79 ex_nexts_79
                          obtain ⟨v3_80, ev3_80⟩ : ∃ v : Int32, v = v3_67 + (nI 1) := ⟨_, rfl⟩
                          replace h := h v3_80 ev3_80
                          refine ga_iinc hR (pc := 129) (lv' := [(3, .int v3_80), (4, .int r_73), (0, .ref (a 0)), (1, .ref (b 0)), (2, .int v2_54)]) 4 (by decide) rfl ev3_80 (by decide) rfl dX8_find_129 ?_
                          refine ga_goto hR (pc := 132) 76 (by decide) dX8_find_132 ?_
                          exact ga_lv hR [2, 3, 4, 0] rfl (ih _ _ _ _ _ _ h)
                        · replace h := h.2 c107
                          refine ga_iconst hR (pc := 110) (v := -1) (by decide) dX8_find_110 ?_
                          refine ga_goto hR (pc := 111) 128 (by decide) dX8_find_111 ?_
                          refine ga_iast hR (pc := 128) (ws' := [(a 0, .inr (8, [.ref (a 1), .ref (a 2), .ref (a 3), .ref (a 4), .ref (a 5), .ref (a 6), .ref (a 7), .int x_number_68, .int x_unlikeNumber, .int x_knownNumber, .int (nI 1)])), (a 1, .inl (V.2 0, 1024, .inl x_stands_69)), (a 2, .inl (V.2 0, 1024, .inl x_fewest_70)), (a 3, .inl (V.2 0, 1024, .inl x_numberOf_71)), (a 4, .inl (V.2 0, 6144, .inl ((upd x_nexts_72 ((v2_54 * (nI 6)) + v3_67).toNatClampNeg (-1))))), (a 5, .inl (V.2 0, 6, .inl x_begun_6)), (a 6, .inl (V.2 1, 36, .inl x_known)), (a 7, .inr (1, [.ref (a 8), .ref (a 9), .ref (a 10), .ref (a 11)])), (a 8, .inl (V.2 0, 1024, .inl x_groups_groups)), (a 9, .inl (V.2 0, 1024, .inl x_groups_finer)), (a 10, .inl (V.2 0, 2048, .inl x_groups_buckets)), (a 11, .inl (V.2 0, 1024, .inl x_groups_chains)), (b 0, .inr (5, [.ref (b 1), .ref (b 2), .int y_firsts, .int y_loose])), (b 1, .inl (V.2 0, 10, .inl y_onward)), (b 2, .inl (V.2 0, 6, .inl y_takers))]) 4 rfl h.1 rfl dX8_find_128 ?_
                          replace h := h.2
                          obtain ⟨x_nexts_81, ex_nexts_81⟩ : ∃ f : Nat → Int32, f = upd x_nexts_72 ((v2_54 * (nI 6)) + v3_67).toNatClampNeg (-1) := ⟨_, rfl⟩
                          refine ga_cast (ws' := [(a 0, .inr (8, [.ref (a 1), .ref (a 2), .ref (a 3), .ref (a 4), .ref (a 5), .ref (a 6), .ref (a 7), .int x_number_68, .int x_unlikeNumber, .int x_knownNumber, .int (nI 1)])), (a 1, .inl (V.2 0, 1024, .inl x_stands_69)), (a 2, .inl (V.2 0, 1024, .inl x_fewest_70)), (a 3, .inl (V.2 0, 1024, .inl x_numberOf_71)), (a 4, .inl (V.2 0, 6144, .inl x_nexts_81)), (a 5, .inl (V.2 0, 6, .inl x_begun_6)), (a 6, .inl (V.2 1, 36, .inl x_known)), (a 7, .inr (1, [.ref (a 8), .ref (a 9), .ref (a 10), .ref (a 11)])), (a 8, .inl (V.2 0, 1024, .inl x_groups_groups)), (a 9, .inl (V.2 0, 1024, .inl x_groups_finer)), (a 10, .inl (V.2 0, 2048, .inl x_groups_buckets)), (a 11, .inl (V.2 0, 1024, .inl x_groups_chains)), (b 0, .inr (5, [.ref (b 1), .ref (b 2), .int y_firsts, .int y_loose])), (b 1, .inl (V.2 0, 10, .inl y_onward)), (b 2, .inl (V.2 0, 6, .inl y_takers))]) (by rw [ex_nexts_81]) rfl ?_
                          replace h := h x_nexts_81 ex_nexts_81
                          obtain ⟨v3_82, ev3_82⟩ : ∃ v : Int32, v = v3_67 + (nI 1) := ⟨_, rfl⟩
                          replace h := h v3_82 ev3_82
                          refine ga_iinc hR (pc := 129) (lv' := [(3, .int v3_82), (4, .int r_73), (0, .ref (a 0)), (1, .ref (b 0)), (2, .int v2_54)]) 4 (by decide) rfl ev3_82 (by decide) rfl dX8_find_129 ?_
                          refine ga_goto hR (pc := 132) 76 (by decide) dX8_find_132 ?_
                          exact ga_lv hR [2, 3, 4, 0] rfl (ih _ _ _ _ _ _ h)
                  exact ga_lv hR [1, 2, 3, 0] rfl (L76 n _ _ _ _ _ _ h)
        exact ga_lv hR [1, 2, 0] rfl (L59 n _ _ _ _ _ _ h)
    · intro h
      obtain ⟨n, h⟩ := h
      have L29 : ∀ (n : Nat) (v2_91 : Int32) (x_number_92 : Int32) (x_stands_93 : Nat → Int32) (x_fewest_94 : Nat → Int32) (x_numberOf_95 : Nat → Int32) (x_begun_96 : Nat → Int32), lp_X8_find_29 y_firsts y_takers (fun (x_number_2 : Int32) (x_stands_3 : Nat → Int32) (x_fewest_4 : Nat → Int32) (x_numberOf_5 : Nat → Int32) (x_begun_6 : Nat → Int32) => G 0 0 [(a 0, .inr (8, [.ref (a 1), .ref (a 2), .ref (a 3), .ref (a 4), .ref (a 5), .ref (a 6), .ref (a 7), .int x_number_2, .int x_unlikeNumber, .int x_knownNumber, .int (nI 1)])), (a 1, .inl (V.2 0, 1024, .inl x_stands_3)), (a 2, .inl (V.2 0, 1024, .inl x_fewest_4)), (a 3, .inl (V.2 0, 1024, .inl x_numberOf_5)), (a 4, .inl (V.2 0, 6144, .inl x_nexts)), (a 5, .inl (V.2 0, 6, .inl x_begun_6)), (a 6, .inl (V.2 1, 36, .inl x_known)), (a 7, .inr (1, [.ref (a 8), .ref (a 9), .ref (a 10), .ref (a 11)])), (a 8, .inl (V.2 0, 1024, .inl x_groups_groups)), (a 9, .inl (V.2 0, 1024, .inl x_groups_finer)), (a 10, .inl (V.2 0, 2048, .inl x_groups_buckets)), (a 11, .inl (V.2 0, 1024, .inl x_groups_chains)), (b 0, .inr (5, [.ref (b 1), .ref (b 2), .int y_firsts, .int y_loose])), (b 1, .inl (V.2 0, 10, .inl y_onward)), (b 2, .inl (V.2 0, 6, .inl y_takers))] 57 [(0, .ref (a 0)), (1, .ref (b 0))] []) n v2_91 x_number_92 x_stands_93 x_fewest_94 x_numberOf_95 x_begun_96 → G 0 0 [(a 0, .inr (8, [.ref (a 1), .ref (a 2), .ref (a 3), .ref (a 4), .ref (a 5), .ref (a 6), .ref (a 7), .int x_number_92, .int x_unlikeNumber, .int x_knownNumber, .int (nI 1)])), (a 1, .inl (V.2 0, 1024, .inl x_stands_93)), (a 2, .inl (V.2 0, 1024, .inl x_fewest_94)), (a 3, .inl (V.2 0, 1024, .inl x_numberOf_95)), (a 4, .inl (V.2 0, 6144, .inl x_nexts)), (a 5, .inl (V.2 0, 6, .inl x_begun_96)), (a 6, .inl (V.2 1, 36, .inl x_known)), (a 7, .inr (1, [.ref (a 8), .ref (a 9), .ref (a 10), .ref (a 11)])), (a 8, .inl (V.2 0, 1024, .inl x_groups_groups)), (a 9, .inl (V.2 0, 1024, .inl x_groups_finer)), (a 10, .inl (V.2 0, 2048, .inl x_groups_buckets)), (a 11, .inl (V.2 0, 1024, .inl x_groups_chains)), (b 0, .inr (5, [.ref (b 1), .ref (b 2), .int y_firsts, .int y_loose])), (b 1, .inl (V.2 0, 10, .inl y_onward)), (b 2, .inl (V.2 0, 6, .inl y_takers))] 29 [(0, .ref (a 0)), (1, .ref (b 0)), (2, .int v2_91)] [] := by
        intro n
        induction n with
        | zero => exact fun _ _ _ _ _ _ h => False.elim h
        | succ n ih =>
          intro v2_91 x_number_92 x_stands_93 x_fewest_94 x_numberOf_95 x_begun_96 h
          rw [lp_X8_find_29] at h
          refine ga_iload_n hR (pc := 29) 2 rfl rfl dX8_find_29 ?_
          refine ga_bipush hR (pc := 30) (v := nI 6) (by decide) dX8_find_30 ?_
          refine ga_icmp_ge hR (pc := 32) 57 (by decide) dX8_find_32 (fun c32 => ?_) (fun c32 => ?_)
          · replace h := h.1 c32
            exact ga_lv hR [0, 1] rfl h
          · replace h := h.2 c32
            refine ga_aload_n hR (pc := 35) 0 rfl rfl dX8_find_35 ?_
            refine ga_get hR (pc := 36) 0 rfl rfl hinX8 4 (by decide) f24 rfl dX8_find_36 ?_
            refine ga_iload_n hR (pc := 39) 2 rfl rfl dX8_find_39 ?_
            refine ga_aload_n hR (pc := 40) 0 rfl rfl dX8_find_40 ?_
            refine ga_aload_n hR (pc := 41) 1 rfl rfl dX8_find_41 ?_
            refine ga_iload_n hR (pc := 42) 2 rfl rfl dX8_find_42 ?_
            refine ga_callV hR (pc := 43) (As := [.int v2_91]) (rest := [.ref (a 0), .int v2_91, .ref (a 5)]) (st0 := [.int v2_91, .ref (b 0), .ref (a 0), .int v2_91, .ref (a 5)]) (b := (b 0)) 1 (c_X5_begunBy V b y_loose y_firsts y_takers v2_91 _ h) (ga_same_i fun _ => rfl) gX8_find_X5_begunBy rfl rfl rfl hd_X5_begunBy ⟨Nat.le_of_ble_eq_true rfl, Nat.le_of_ble_eq_true rfl⟩ rfl rfl (Nat.le_of_ble_eq_true rfl) ⟨Nat.zero_le _, Nat.zero_le _⟩ [12, 14] rfl rfl 12 rfl rfl dX8_find_43 ?_
            rintro _ _ ⟨r_97, ⟨⟩, rfl, rfl, h⟩
            refine ga_to [(a 0, .inr (8, [.ref (a 1), .ref (a 2), .ref (a 3), .ref (a 4), .ref (a 5), .ref (a 6), .ref (a 7), .int x_number_92, .int x_unlikeNumber, .int x_knownNumber, .int (nI 1)])), (a 1, .inl (V.2 0, 1024, .inl x_stands_93)), (a 2, .inl (V.2 0, 1024, .inl x_fewest_94)), (a 3, .inl (V.2 0, 1024, .inl x_numberOf_95)), (a 4, .inl (V.2 0, 6144, .inl x_nexts)), (a 5, .inl (V.2 0, 6, .inl x_begun_96)), (a 6, .inl (V.2 1, 36, .inl x_known)), (a 7, .inr (1, [.ref (a 8), .ref (a 9), .ref (a 10), .ref (a 11)])), (a 8, .inl (V.2 0, 1024, .inl x_groups_groups)), (a 9, .inl (V.2 0, 1024, .inl x_groups_finer)), (a 10, .inl (V.2 0, 2048, .inl x_groups_buckets)), (a 11, .inl (V.2 0, 1024, .inl x_groups_chains)), (b 0, .inr (5, [.ref (b 1), .ref (b 2), .int y_firsts, .int y_loose])), (b 1, .inl (V.2 0, 10, .inl y_onward)), (b 2, .inl (V.2 0, 6, .inl y_takers))] [.int r_97, .ref (a 0), .int v2_91, .ref (a 5)] rfl rfl ?_
            try dsimp only at h
            refine ga_iconst hR (pc := 46) (v := nI 1) (by decide) dX8_find_46 ?_
            refine ga_callV hR (pc := 47) (As := [.int r_97, .int (nI 1)]) (rest := [.int v2_91, .ref (a 5)]) (st0 := [.int (nI 1), .int r_97, .ref (a 0), .int v2_91, .ref (a 5)]) (b := (a 0)) 2 (c_X8_numberFor V a x_unlikeNumber x_knownNumber (nI 1) x_number_92 x_stands_93 x_fewest_94 x_numberOf_95 r_97 (nI 1) _ h) (ga_same_i fun _ => rfl) gX8_find_X8_numberFor rfl rfl rfl hd_X8_numberFor ⟨Nat.le_of_ble_eq_true rfl, Nat.le_of_ble_eq_true rfl⟩ rfl rfl (Nat.le_of_ble_eq_true rfl) ⟨Nat.zero_le _, Nat.zero_le _⟩ [0, 1, 2, 3] rfl rfl 0 rfl rfl dX8_find_47 ?_
            rintro _ _ ⟨r_102, ⟨x_number_98, x_stands_99, x_fewest_100, x_numberOf_101⟩, rfl, rfl, h⟩
            refine ga_to [(a 0, .inr (8, [.ref (a 1), .ref (a 2), .ref (a 3), .ref (a 4), .ref (a 5), .ref (a 6), .ref (a 7), .int x_number_98, .int x_unlikeNumber, .int x_knownNumber, .int (nI 1)])), (a 1, .inl (V.2 0, 1024, .inl x_stands_99)), (a 2, .inl (V.2 0, 1024, .inl x_fewest_100)), (a 3, .inl (V.2 0, 1024, .inl x_numberOf_101)), (a 4, .inl (V.2 0, 6144, .inl x_nexts)), (a 5, .inl (V.2 0, 6, .inl x_begun_96)), (a 6, .inl (V.2 1, 36, .inl x_known)), (a 7, .inr (1, [.ref (a 8), .ref (a 9), .ref (a 10), .ref (a 11)])), (a 8, .inl (V.2 0, 1024, .inl x_groups_groups)), (a 9, .inl (V.2 0, 1024, .inl x_groups_finer)), (a 10, .inl (V.2 0, 2048, .inl x_groups_buckets)), (a 11, .inl (V.2 0, 1024, .inl x_groups_chains)), (b 0, .inr (5, [.ref (b 1), .ref (b 2), .int y_firsts, .int y_loose])), (b 1, .inl (V.2 0, 10, .inl y_onward)), (b 2, .inl (V.2 0, 6, .inl y_takers))] [.int r_102, .int v2_91, .ref (a 5)] rfl rfl ?_
            try dsimp only at h
            refine ga_iast hR (pc := 50) (ws' := [(a 0, .inr (8, [.ref (a 1), .ref (a 2), .ref (a 3), .ref (a 4), .ref (a 5), .ref (a 6), .ref (a 7), .int x_number_98, .int x_unlikeNumber, .int x_knownNumber, .int (nI 1)])), (a 1, .inl (V.2 0, 1024, .inl x_stands_99)), (a 2, .inl (V.2 0, 1024, .inl x_fewest_100)), (a 3, .inl (V.2 0, 1024, .inl x_numberOf_101)), (a 4, .inl (V.2 0, 6144, .inl x_nexts)), (a 5, .inl (V.2 0, 6, .inl ((upd x_begun_96 v2_91.toNatClampNeg r_102)))), (a 6, .inl (V.2 1, 36, .inl x_known)), (a 7, .inr (1, [.ref (a 8), .ref (a 9), .ref (a 10), .ref (a 11)])), (a 8, .inl (V.2 0, 1024, .inl x_groups_groups)), (a 9, .inl (V.2 0, 1024, .inl x_groups_finer)), (a 10, .inl (V.2 0, 2048, .inl x_groups_buckets)), (a 11, .inl (V.2 0, 1024, .inl x_groups_chains)), (b 0, .inr (5, [.ref (b 1), .ref (b 2), .int y_firsts, .int y_loose])), (b 1, .inl (V.2 0, 10, .inl y_onward)), (b 2, .inl (V.2 0, 6, .inl y_takers))]) 5 rfl h.1 rfl dX8_find_50 ?_
            replace h := h.2
            obtain ⟨x_begun_103, ex_begun_103⟩ : ∃ f : Nat → Int32, f = upd x_begun_96 v2_91.toNatClampNeg r_102 := ⟨_, rfl⟩
            refine ga_cast (ws' := [(a 0, .inr (8, [.ref (a 1), .ref (a 2), .ref (a 3), .ref (a 4), .ref (a 5), .ref (a 6), .ref (a 7), .int x_number_98, .int x_unlikeNumber, .int x_knownNumber, .int (nI 1)])), (a 1, .inl (V.2 0, 1024, .inl x_stands_99)), (a 2, .inl (V.2 0, 1024, .inl x_fewest_100)), (a 3, .inl (V.2 0, 1024, .inl x_numberOf_101)), (a 4, .inl (V.2 0, 6144, .inl x_nexts)), (a 5, .inl (V.2 0, 6, .inl x_begun_103)), (a 6, .inl (V.2 1, 36, .inl x_known)), (a 7, .inr (1, [.ref (a 8), .ref (a 9), .ref (a 10), .ref (a 11)])), (a 8, .inl (V.2 0, 1024, .inl x_groups_groups)), (a 9, .inl (V.2 0, 1024, .inl x_groups_finer)), (a 10, .inl (V.2 0, 2048, .inl x_groups_buckets)), (a 11, .inl (V.2 0, 1024, .inl x_groups_chains)), (b 0, .inr (5, [.ref (b 1), .ref (b 2), .int y_firsts, .int y_loose])), (b 1, .inl (V.2 0, 10, .inl y_onward)), (b 2, .inl (V.2 0, 6, .inl y_takers))]) (by rw [ex_begun_103]) rfl ?_
            replace h := h x_begun_103 ex_begun_103
            obtain ⟨v2_104, ev2_104⟩ : ∃ v : Int32, v = v2_91 + (nI 1) := ⟨_, rfl⟩
            replace h := h v2_104 ev2_104
            refine ga_iinc hR (pc := 51) (lv' := [(2, .int v2_104), (0, .ref (a 0)), (1, .ref (b 0))]) 2 (by decide) rfl ev2_104 (by decide) rfl dX8_find_51 ?_
            refine ga_goto hR (pc := 54) 29 (by decide) dX8_find_54 ?_
            exact ga_lv hR [1, 2, 0] rfl (ih _ _ _ _ _ _ h)
      exact ga_lv hR [1, 2, 0] rfl (L29 n _ _ _ _ _ _ h)
  · replace h := h.2 c4
    exact ga_vret hE dX8_find_7 (ga_rv (x_number, x_unlikeNumber, x_knownNumber, x_areFound, x_stands, x_fewest, x_numberOf, x_nexts, x_begun, x_known, x_groups_groups, x_groups_finer, x_groups_buckets, x_groups_chains) rfl h)

def rm_X8_isKnown : Room := { frames := 1, cells := 0, slots := 0, locals := 20 }
theorem hd_X8_isKnownS : yX8_isKnown.cls ≠ "java/lang/invoke/MethodHandle" ∧ yX8_isKnown.cls ≠ "java/lang/invoke/VarHandle" ∧ (parseMethodDescriptor yX8_isKnown.desc).map (fun d => d.parameters.length) = some 2 := by decide +kernel
theorem hd_X8_isKnown : yX8_isKnown.cls = RX8 ∧ yX8_isKnown.cls ≠ "java/lang/invoke/MethodHandle" ∧ yX8_isKnown.cls ≠ "java/lang/invoke/VarHandle" ∧ (parseMethodDescriptor yX8_isKnown.desc).map (fun d => d.parameters.length) = some 2 := ⟨rfl, hd_X8_isKnownS⟩
set_option maxHeartbeats 4000000 in
set_option maxRecDepth 100000 in
theorem c_X8_isKnown (V : ga_V) (a : Nat → Nat) (x_number : Int32) (x_unlikeNumber : Int32) (x_knownNumber : Int32) (x_areFound : Int32) (x_known : Nat → Int32) (p1 : Int32) (p2 : Int32) (K : Int32 → Prop) (h : wp_X8_isKnown x_known p1 p2 K) : ga_C V yX8_isKnown wsX8_isKnown rm_X8_isKnown [.ref (a 0), .int p1, .int p2] [(a 0, .inr (8, [.ref (a 1), .ref (a 2), .ref (a 3), .ref (a 4), .ref (a 5), .ref (a 6), .ref (a 7), .int x_number, .int x_unlikeNumber, .int x_knownNumber, .int x_areFound])), (a 6, .inl (V.2 1, 36, .inl x_known))] 0 0 (ga_Fi (fun (u : Unit) => [(a 0, .inr (8, [.ref (a 1), .ref (a 2), .ref (a 3), .ref (a 4), .ref (a 5), .ref (a 6), .ref (a 7), .int x_number, .int x_unlikeNumber, .int x_knownNumber, .int x_areFound])), (a 6, .inl (V.2 1, 36, .inl x_known))]) (fun r u => K r)) := by
  refine ga_met (cc := cX8_isKnown) (maxL := 3) (rt := (some .boolean)) (by decide) rfl [(0, .ref (a 0)), (1, .int p1), (2, .int p2)] rfl (Nat.le_of_ble_eq_true rfl) ?_
  intro G hR hE
  have hinX8 : ∀ w ∈ u_ws RX8 TX8 11, w ∈ wsX8_isKnown := by decide +kernel
  have f27 : Cond.fieldLink RX8 27 "BoundaryRules$Ways" "known" "[Z" ∈ wsX8_isKnown := by decide +kernel
  unfold wp_X8_isKnown at h
  refine ga_iload_n hR (pc := 0) 1 rfl rfl dX8_isKnown_0 ?_
  refine ga_callSN hR (pc := 1) (As := [.int p1]) (rest := []) (st0 := [.int p1]) 1 (c_X9_isClass V p1 _ h) (ga_same_i fun _ => rfl) gX8_isKnown_X9_isClass_n88 rfl rfl rfl hd_X9_isClassS ⟨Nat.le_of_ble_eq_true rfl, Nat.le_of_ble_eq_true rfl⟩ rfl rfl (Nat.le_of_ble_eq_true rfl) ⟨Nat.zero_le _, Nat.zero_le _⟩ [] rfl rfl (host := "BoundaryRules") (by decide +kernel) (by decide +kernel) (by decide +kernel) dX8_isKnown_1 ?_
  rintro _ _ ⟨r_1, ⟨⟩, rfl, rfl, h⟩
  refine ga_to [(a 0, .inr (8, [.ref (a 1), .ref (a 2), .ref (a 3), .ref (a 4), .ref (a 5), .ref (a 6), .ref (a 7), .int x_number, .int x_unlikeNumber, .int x_knownNumber, .int x_areFound])), (a 6, .inl (V.2 1, 36, .inl x_known))] [.int r_1] rfl rfl ?_
  try dsimp only at h
  refine ga_if_eq hR (pc := 4) 32 (by decide) dX8_isKnown_4 (fun c4 => ?_) (fun c4 => ?_)
  · replace h := h.1 c4
    refine ga_iconst hR (pc := 32) (v := nI 0) (by decide) dX8_isKnown_32 ?_
    exact ga_iret hE dX8_isKnown_33 (by decide) (ga_ri () rfl h)
  · replace h := h.2 c4
    refine ga_iload_n hR (pc := 7) 2 rfl rfl dX8_isKnown_7 ?_
    refine ga_callSN hR (pc := 8) (As := [.int p2]) (rest := []) (st0 := [.int p2]) 1 (c_X9_isClass V p2 _ h) (ga_same_i fun _ => rfl) gX8_isKnown_X9_isClass_n88 rfl rfl rfl hd_X9_isClassS ⟨Nat.le_of_ble_eq_true rfl, Nat.le_of_ble_eq_true rfl⟩ rfl rfl (Nat.le_of_ble_eq_true rfl) ⟨Nat.zero_le _, Nat.zero_le _⟩ [] rfl rfl (host := "BoundaryRules") (by decide +kernel) (by decide +kernel) (by decide +kernel) dX8_isKnown_8 ?_
    rintro _ _ ⟨r_2, ⟨⟩, rfl, rfl, h⟩
    refine ga_to [(a 0, .inr (8, [.ref (a 1), .ref (a 2), .ref (a 3), .ref (a 4), .ref (a 5), .ref (a 6), .ref (a 7), .int x_number, .int x_unlikeNumber, .int x_knownNumber, .int x_areFound])), (a 6, .inl (V.2 1, 36, .inl x_known))] [.int r_2] rfl rfl ?_
    try dsimp only at h
    refine ga_if_eq hR (pc := 11) 32 (by decide) dX8_isKnown_11 (fun c11 => ?_) (fun c11 => ?_)
    · replace h := h.1 c11
      refine ga_iconst hR (pc := 32) (v := nI 0) (by decide) dX8_isKnown_32 ?_
      exact ga_iret hE dX8_isKnown_33 (by decide) (ga_ri () rfl h)
    · replace h := h.2 c11
      refine ga_aload_n hR (pc := 14) 0 rfl rfl dX8_isKnown_14 ?_
      refine ga_get hR (pc := 15) 0 rfl rfl hinX8 5 (by decide) f27 rfl dX8_isKnown_15 ?_
      refine ga_iload_n hR (pc := 18) 1 rfl rfl dX8_isKnown_18 ?_
      refine ga_bipush hR (pc := 19) (v := nI 6) (by decide) dX8_isKnown_19 ?_
      refine ga_imul hR (pc := 21) dX8_isKnown_21 ?_
      refine ga_iload_n hR (pc := 22) 2 rfl rfl dX8_isKnown_22 ?_
      refine ga_iadd hR (pc := 23) dX8_isKnown_23 ?_
      refine ga_zald hR (pc := 24) 1 rfl h.1 dX8_isKnown_24 ?_
      replace h := h.2
      refine ga_if_eq hR (pc := 25) 32 (by decide) dX8_isKnown_25 (fun c25 => ?_) (fun c25 => ?_)
      · replace h := h.1 c25
        refine ga_iconst hR (pc := 32) (v := nI 0) (by decide) dX8_isKnown_32 ?_
        exact ga_iret hE dX8_isKnown_33 (by decide) (ga_ri () rfl h)
      · replace h := h.2 c25
        refine ga_iconst hR (pc := 28) (v := nI 1) (by decide) dX8_isKnown_28 ?_
        refine ga_goto hR (pc := 29) 33 (by decide) dX8_isKnown_29 ?_
        exact ga_iret hE dX8_isKnown_33 (by decide) (ga_ri () rfl h)

def rm_X6_fourFrom : Room := { frames := 0, cells := 0, slots := 0, locals := 0 }
theorem hd_X6_fourFromS : yX6_fourFrom.cls ≠ "java/lang/invoke/MethodHandle" ∧ yX6_fourFrom.cls ≠ "java/lang/invoke/VarHandle" ∧ (parseMethodDescriptor yX6_fourFrom.desc).map (fun d => d.parameters.length) = some 1 := by decide +kernel
theorem hd_X6_fourFrom : yX6_fourFrom.cls = RX6 ∧ yX6_fourFrom.cls ≠ "java/lang/invoke/MethodHandle" ∧ yX6_fourFrom.cls ≠ "java/lang/invoke/VarHandle" ∧ (parseMethodDescriptor yX6_fourFrom.desc).map (fun d => d.parameters.length) = some 1 := ⟨rfl, hd_X6_fourFromS⟩
set_option maxHeartbeats 4000000 in
set_option maxRecDepth 100000 in
theorem c_X6_fourFrom (V : ga_V) (a : Nat → Nat) (x_length : Int32) (x_classes : Nat → Int32) (p1 : Int32) (K : Int32 → Prop) (h : wp_X6_fourFrom x_classes p1 K) : ga_C V yX6_fourFrom wsX6_fourFrom rm_X6_fourFrom [.ref (a 0), .int p1] [(a 0, .inr (6, [.ref (a 1), .ref (a 2), .ref (a 3), .int x_length])), (a 1, .inl (V.2 0, 26, .inl x_classes))] 0 0 (ga_Fi (fun (u : Unit) => [(a 0, .inr (6, [.ref (a 1), .ref (a 2), .ref (a 3), .int x_length])), (a 1, .inl (V.2 0, 26, .inl x_classes))]) (fun r u => K r)) := by
  refine ga_met (cc := cX6_fourFrom) (maxL := 4) (rt := (some .int)) (by decide) rfl [(0, .ref (a 0)), (1, .int p1)] rfl (Nat.le_of_ble_eq_true rfl) ?_
  intro G hR hE
  have hinX6 : ∀ w ∈ u_ws RX6 TX6 4, w ∈ wsX6_fourFrom := by decide +kernel
  have f9 : Cond.fieldLink RX6 9 "BoundaryRules$Stock" "classes" "[I" ∈ wsX6_fourFrom := by decide +kernel
  unfold wp_X6_fourFrom at h
  refine ga_iconst hR (pc := 0) (v := nI 0) (by decide) dX6_fourFrom_0 ?_
  refine ga_istore_n hR (pc := 1) (lv' := [(2, .int (nI 0)), (0, .ref (a 0)), (1, .int p1)]) rfl (by decide) rfl dX6_fourFrom_1 ?_
  refine ga_iload_n hR (pc := 2) 2 rfl rfl dX6_fourFrom_2 ?_
  refine ga_istore_n hR (pc := 3) (lv' := [(3, .int p1), (2, .int (nI 0)), (0, .ref (a 0)), (1, .int p1)]) rfl (by decide) rfl dX6_fourFrom_3 ?_
  have hJ := h (fun (v2_1 : Int32) => G 0 0 [(a 0, .inr (6, [.ref (a 1), .ref (a 2), .ref (a 3), .int x_length])), (a 1, .inl (V.2 0, 26, .inl x_classes))] 39 [(2, .int v2_1)] [])
  refine ga_bind hJ ?_ ?_
  · intro v2_1 h
    show G 0 0 [(a 0, .inr (6, [.ref (a 1), .ref (a 2), .ref (a 3), .int x_length])), (a 1, .inl (V.2 0, 26, .inl x_classes))] 39 [(2, .int v2_1)] []
    refine ga_iload_n hR (pc := 39) 0 rfl rfl dX6_fourFrom_39 ?_
    exact ga_iret hE dX6_fourFrom_40 rfl (ga_ri () rfl h)
  · intro h
    obtain ⟨n, h⟩ := h
    have L4 : ∀ (n : Nat) (v2_7 : Int32) (v3_8 : Int32), lp_X6_fourFrom_4 x_classes p1 (fun (v2_1 : Int32) => G 0 0 [(a 0, .inr (6, [.ref (a 1), .ref (a 2), .ref (a 3), .int x_length])), (a 1, .inl (V.2 0, 26, .inl x_classes))] 39 [(2, .int v2_1)] []) n v2_7 v3_8 → G 0 0 [(a 0, .inr (6, [.ref (a 1), .ref (a 2), .ref (a 3), .int x_length])), (a 1, .inl (V.2 0, 26, .inl x_classes))] 4 [(0, .ref (a 0)), (1, .int p1), (2, .int v2_7), (3, .int v3_8)] [] := by
      intro n
      induction n with
      | zero => exact fun _ _ h => False.elim h
      | succ n ih =>
        intro v2_7 v3_8 h
        rw [lp_X6_fourFrom_4] at h
        refine ga_iload_n hR (pc := 4) 3 rfl rfl dX6_fourFrom_4 ?_
        refine ga_iload_n hR (pc := 5) 1 rfl rfl dX6_fourFrom_5 ?_
        refine ga_iconst hR (pc := 6) (v := nI 4) (by decide) dX6_fourFrom_6 ?_
        refine ga_iadd hR (pc := 7) dX6_fourFrom_7 ?_
        refine ga_icmp_ge hR (pc := 8) 39 (by decide) dX6_fourFrom_8 (fun c8 => ?_) (fun c8 => ?_)
        · replace h := h.1 c8
          exact ga_lv hR [2] rfl h
        · replace h := h.2 c8
          refine ga_iload_n hR (pc := 11) 2 rfl rfl dX6_fourFrom_11 ?_
          refine ga_bipush hR (pc := 12) (v := nI 6) (by decide) dX6_fourFrom_12 ?_
          refine ga_imul hR (pc := 14) dX6_fourFrom_14 ?_
          refine ga_iload_n hR (pc := 15) 3 rfl rfl dX6_fourFrom_15 ?_
          refine ga_bipush hR (pc := 16) (v := nI 26) (by decide) dX6_fourFrom_16 ?_
          refine ga_icmp_ge hR (pc := 18) 30 (by decide) dX6_fourFrom_18 (fun c18 => ?_) (fun c18 => ?_)
          · replace h := h.1 c18
            refine ga_iconst hR (pc := 30) (v := nI 0) (by decide) dX6_fourFrom_30 ?_
            refine ga_iadd hR (pc := 31) dX6_fourFrom_31 ?_
            refine ga_topi (fun v2_9 ev2_9 => ?_)
            replace h := h v2_9 ev2_9
            refine ga_istore_n hR (pc := 32) (lv' := [(2, .int v2_9), (0, .ref (a 0)), (1, .int p1), (3, .int v3_8)]) rfl (by decide) rfl dX6_fourFrom_32 ?_
            obtain ⟨v3_10, ev3_10⟩ : ∃ v : Int32, v = v3_8 + (nI 1) := ⟨_, rfl⟩
            replace h := h v3_10 ev3_10
            refine ga_iinc hR (pc := 33) (lv' := [(3, .int v3_10), (2, .int v2_9), (0, .ref (a 0)), (1, .int p1)]) 3 (by decide) rfl ev3_10 (by decide) rfl dX6_fourFrom_33 ?_
            refine ga_goto hR (pc := 36) 4 (by decide) dX6_fourFrom_36 ?_
            exact ga_lv hR [2, 3, 1, 0] rfl (ih _ _ h)
          · replace h := h.2 c18
            refine ga_aload_n hR (pc := 21) 0 rfl rfl dX6_fourFrom_21 ?_
            refine ga_get hR (pc := 22) 0 rfl rfl hinX6 0 (by decide) f9 rfl dX6_fourFrom_22 ?_
            refine ga_iload_n hR (pc := 25) 3 rfl rfl dX6_fourFrom_25 ?_
            refine ga_iald hR (pc := 26) 1 rfl h.1 dX6_fourFrom_26 ?_
            replace h := h.2
            refine ga_goto hR (pc := 27) 31 (by decide) dX6_fourFrom_27 ?_
            refine ga_iadd hR (pc := 31) dX6_fourFrom_31 ?_
            refine ga_topi (fun v2_11 ev2_11 => ?_)
            replace h := h v2_11 ev2_11
            refine ga_istore_n hR (pc := 32) (lv' := [(2, .int v2_11), (0, .ref (a 0)), (1, .int p1), (3, .int v3_8)]) rfl (by decide) rfl dX6_fourFrom_32 ?_
            obtain ⟨v3_12, ev3_12⟩ : ∃ v : Int32, v = v3_8 + (nI 1) := ⟨_, rfl⟩
            replace h := h v3_12 ev3_12
            refine ga_iinc hR (pc := 33) (lv' := [(3, .int v3_12), (2, .int v2_11), (0, .ref (a 0)), (1, .int p1)]) 3 (by decide) rfl ev3_12 (by decide) rfl dX6_fourFrom_33 ?_
            refine ga_goto hR (pc := 36) 4 (by decide) dX6_fourFrom_36 ?_
            exact ga_lv hR [2, 3, 1, 0] rfl (ih _ _ h)
    exact ga_lv hR [2, 3, 1, 0] rfl (L4 n _ _ h)

def rm_X6_unlikeFours : Room := { frames := 1, cells := 0, slots := 0, locals := 23 }
theorem hd_X6_unlikeFoursS : yX6_unlikeFours.cls ≠ "java/lang/invoke/MethodHandle" ∧ yX6_unlikeFours.cls ≠ "java/lang/invoke/VarHandle" ∧ (parseMethodDescriptor yX6_unlikeFours.desc).map (fun d => d.parameters.length) = some 0 := by decide +kernel
theorem hd_X6_unlikeFours : yX6_unlikeFours.cls = RX6 ∧ yX6_unlikeFours.cls ≠ "java/lang/invoke/MethodHandle" ∧ yX6_unlikeFours.cls ≠ "java/lang/invoke/VarHandle" ∧ (parseMethodDescriptor yX6_unlikeFours.desc).map (fun d => d.parameters.length) = some 0 := ⟨rfl, hd_X6_unlikeFoursS⟩
set_option maxHeartbeats 4000000 in
set_option maxRecDepth 100000 in
theorem c_X6_unlikeFours (V : ga_V) (a : Nat → Nat) (x_length : Int32) (x_classes : Nat → Int32) (K : Int32 → Prop) (h : wp_X6_unlikeFours x_classes K) : ga_C V yX6_unlikeFours wsX6_unlikeFours rm_X6_unlikeFours [.ref (a 0)] [(a 0, .inr (6, [.ref (a 1), .ref (a 2), .ref (a 3), .int x_length])), (a 1, .inl (V.2 0, 26, .inl x_classes))] 0 0 (ga_Fi (fun (u : Unit) => [(a 0, .inr (6, [.ref (a 1), .ref (a 2), .ref (a 3), .int x_length])), (a 1, .inl (V.2 0, 26, .inl x_classes))]) (fun r u => K r)) := by
  refine ga_met (cc := cX6_unlikeFours) (maxL := 5) (rt := (some .int)) (by decide) rfl [(0, .ref (a 0))] rfl (Nat.le_of_ble_eq_true rfl) ?_
  intro G hR hE
  unfold wp_X6_unlikeFours at h
  refine ga_iconst hR (pc := 0) (v := nI 0) (by decide) dX6_unlikeFours_0 ?_
  refine ga_istore_n hR (pc := 1) (lv' := [(1, .int (nI 0)), (0, .ref (a 0))]) rfl (by decide) rfl dX6_unlikeFours_1 ?_
  refine ga_iconst hR (pc := 2) (v := nI 0) (by decide) dX6_unlikeFours_2 ?_
  refine ga_istore_n hR (pc := 3) (lv' := [(2, .int (nI 0)), (1, .int (nI 0)), (0, .ref (a 0))]) rfl (by decide) rfl dX6_unlikeFours_3 ?_
  have hJ := h (fun (v1_1 : Int32) => G 0 0 [(a 0, .inr (6, [.ref (a 1), .ref (a 2), .ref (a 3), .int x_length])), (a 1, .inl (V.2 0, 26, .inl x_classes))] 67 [(1, .int v1_1)] [])
  refine ga_bind hJ ?_ ?_
  · intro v1_1 h
    show G 0 0 [(a 0, .inr (6, [.ref (a 1), .ref (a 2), .ref (a 3), .int x_length])), (a 1, .inl (V.2 0, 26, .inl x_classes))] 67 [(1, .int v1_1)] []
    refine ga_iload_n hR (pc := 67) 0 rfl rfl dX6_unlikeFours_67 ?_
    exact ga_iret hE dX6_unlikeFours_68 rfl (ga_ri () rfl h)
  · intro h
    obtain ⟨n, h⟩ := h
    have L4 : ∀ (n : Nat) (v1_23 : Int32) (v2_24 : Int32), lp_X6_unlikeFours_4 x_classes (fun (v1_1 : Int32) => G 0 0 [(a 0, .inr (6, [.ref (a 1), .ref (a 2), .ref (a 3), .int x_length])), (a 1, .inl (V.2 0, 26, .inl x_classes))] 67 [(1, .int v1_1)] []) n v1_23 v2_24 → G 0 0 [(a 0, .inr (6, [.ref (a 1), .ref (a 2), .ref (a 3), .int x_length])), (a 1, .inl (V.2 0, 26, .inl x_classes))] 4 [(0, .ref (a 0)), (1, .int v1_23), (2, .int v2_24)] [] := by
      intro n
      induction n with
      | zero => exact fun _ _ h => False.elim h
      | succ n ih =>
        intro v1_23 v2_24 h
        rw [lp_X6_unlikeFours_4] at h
        refine ga_iload_n hR (pc := 4) 2 rfl rfl dX6_unlikeFours_4 ?_
        refine ga_bipush hR (pc := 5) (v := nI 26) (by decide) dX6_unlikeFours_5 ?_
        refine ga_icmp_ge hR (pc := 7) 67 (by decide) dX6_unlikeFours_7 (fun c7 => ?_) (fun c7 => ?_)
        · replace h := h.1 c7
          exact ga_lv hR [1] rfl h
        · replace h := h.2 c7
          refine ga_iconst hR (pc := 10) (v := nI 1) (by decide) dX6_unlikeFours_10 ?_
          refine ga_istore_n hR (pc := 11) (lv' := [(3, .int (nI 1)), (0, .ref (a 0)), (1, .int v1_23), (2, .int v2_24)]) rfl (by decide) rfl dX6_unlikeFours_11 ?_
          refine ga_iconst hR (pc := 12) (v := nI 0) (by decide) dX6_unlikeFours_12 ?_
          refine ga_istore hR (pc := 13) (lv' := [(4, .int (nI 0)), (3, .int (nI 1)), (0, .ref (a 0)), (1, .int v1_23), (2, .int v2_24)]) (by decide) rfl dX6_unlikeFours_13 ?_
          have hJ := h (fun (v3_25 : Int32) => G 0 0 [(a 0, .inr (6, [.ref (a 1), .ref (a 2), .ref (a 3), .int x_length])), (a 1, .inl (V.2 0, 26, .inl x_classes))] 49 [(0, .ref (a 0)), (1, .int v1_23), (2, .int v2_24), (3, .int v3_25)] [])
          refine ga_bind hJ ?_ ?_
          · intro v3_25 h
            show G 0 0 [(a 0, .inr (6, [.ref (a 1), .ref (a 2), .ref (a 3), .int x_length])), (a 1, .inl (V.2 0, 26, .inl x_classes))] 49 [(0, .ref (a 0)), (1, .int v1_23), (2, .int v2_24), (3, .int v3_25)] []
            refine ga_iload_n hR (pc := 49) 1 rfl rfl dX6_unlikeFours_49 ?_
            refine ga_iload_n hR (pc := 50) 3 rfl rfl dX6_unlikeFours_50 ?_
            refine ga_if_eq hR (pc := 51) 58 (by decide) dX6_unlikeFours_51 (fun c51 => ?_) (fun c51 => ?_)
            · replace h := h.1 c51
              refine ga_iconst hR (pc := 58) (v := nI 0) (by decide) dX6_unlikeFours_58 ?_
              refine ga_iadd hR (pc := 59) dX6_unlikeFours_59 ?_
              refine ga_topi (fun v1_27 ev1_27 => ?_)
              replace h := h v1_27 ev1_27
              refine ga_istore_n hR (pc := 60) (lv' := [(1, .int v1_27), (0, .ref (a 0)), (2, .int v2_24), (3, .int v3_25)]) rfl (by decide) rfl dX6_unlikeFours_60 ?_
              obtain ⟨v2_28, ev2_28⟩ : ∃ v : Int32, v = v2_24 + (nI 4) := ⟨_, rfl⟩
              replace h := h v2_28 ev2_28
              refine ga_iinc hR (pc := 61) (lv' := [(2, .int v2_28), (1, .int v1_27), (0, .ref (a 0)), (3, .int v3_25)]) 2 (by decide) rfl ev2_28 (by decide) rfl dX6_unlikeFours_61 ?_
              refine ga_goto hR (pc := 64) 4 (by decide) dX6_unlikeFours_64 ?_
              exact ga_lv hR [2, 1, 0] rfl (ih _ _ h)
            · replace h := h.2 c51
              refine ga_iconst hR (pc := 54) (v := nI 1) (by decide) dX6_unlikeFours_54 ?_
              refine ga_goto hR (pc := 55) 59 (by decide) dX6_unlikeFours_55 ?_
              refine ga_iadd hR (pc := 59) dX6_unlikeFours_59 ?_
              refine ga_topi (fun v1_29 ev1_29 => ?_)
              replace h := h v1_29 ev1_29
              refine ga_istore_n hR (pc := 60) (lv' := [(1, .int v1_29), (0, .ref (a 0)), (2, .int v2_24), (3, .int v3_25)]) rfl (by decide) rfl dX6_unlikeFours_60 ?_
              obtain ⟨v2_30, ev2_30⟩ : ∃ v : Int32, v = v2_24 + (nI 4) := ⟨_, rfl⟩
              replace h := h v2_30 ev2_30
              refine ga_iinc hR (pc := 61) (lv' := [(2, .int v2_30), (1, .int v1_29), (0, .ref (a 0)), (3, .int v3_25)]) 2 (by decide) rfl ev2_30 (by decide) rfl dX6_unlikeFours_61 ?_
              refine ga_goto hR (pc := 64) 4 (by decide) dX6_unlikeFours_64 ?_
              exact ga_lv hR [2, 1, 0] rfl (ih _ _ h)
          · intro h
            obtain ⟨n, h⟩ := h
            have L15 : ∀ (n : Nat) (v3_31 : Int32) (v4_32 : Int32), lp_X6_unlikeFours_15 x_classes v2_24 (fun (v3_25 : Int32) => G 0 0 [(a 0, .inr (6, [.ref (a 1), .ref (a 2), .ref (a 3), .int x_length])), (a 1, .inl (V.2 0, 26, .inl x_classes))] 49 [(0, .ref (a 0)), (1, .int v1_23), (2, .int v2_24), (3, .int v3_25)] []) n v3_31 v4_32 → G 0 0 [(a 0, .inr (6, [.ref (a 1), .ref (a 2), .ref (a 3), .int x_length])), (a 1, .inl (V.2 0, 26, .inl x_classes))] 15 [(0, .ref (a 0)), (1, .int v1_23), (2, .int v2_24), (3, .int v3_31), (4, .int v4_32)] [] := by
              intro n
              induction n with
              | zero => exact fun _ _ h => False.elim h
              | succ n ih =>
                intro v3_31 v4_32 h
                rw [lp_X6_unlikeFours_15] at h
                refine ga_iload hR (pc := 15) 4 rfl dX6_unlikeFours_15 ?_
                refine ga_iload_n hR (pc := 17) 2 rfl rfl dX6_unlikeFours_17 ?_
                refine ga_icmp_ge hR (pc := 18) 49 (by decide) dX6_unlikeFours_18 (fun c18 => ?_) (fun c18 => ?_)
                · replace h := h.1 c18
                  exact ga_lv hR [0, 1, 2, 3] rfl h
                · replace h := h.2 c18
                  refine ga_iload_n hR (pc := 21) 3 rfl rfl dX6_unlikeFours_21 ?_
                  refine ga_aload_n hR (pc := 22) 0 rfl rfl dX6_unlikeFours_22 ?_
                  refine ga_iload_n hR (pc := 23) 2 rfl rfl dX6_unlikeFours_23 ?_
                  refine ga_callV hR (pc := 24) (As := [.int v2_24]) (rest := [.int v3_31]) (st0 := [.int v2_24, .ref (a 0), .int v3_31]) (b := (a 0)) 1 (c_X6_fourFrom V a x_length x_classes v2_24 _ h) (ga_same_i fun _ => rfl) gX6_unlikeFours_X6_fourFrom rfl rfl rfl hd_X6_fourFrom ⟨Nat.le_of_ble_eq_true rfl, Nat.le_of_ble_eq_true rfl⟩ rfl rfl (Nat.le_of_ble_eq_true rfl) ⟨Nat.zero_le _, Nat.zero_le _⟩ [0, 1] rfl rfl 0 rfl rfl dX6_unlikeFours_24 ?_
                  rintro _ _ ⟨r_33, ⟨⟩, rfl, rfl, h⟩
                  refine ga_to [(a 0, .inr (6, [.ref (a 1), .ref (a 2), .ref (a 3), .int x_length])), (a 1, .inl (V.2 0, 26, .inl x_classes))] [.int r_33, .int v3_31] rfl rfl ?_
                  try dsimp only at h
                  refine ga_aload_n hR (pc := 27) 0 rfl rfl dX6_unlikeFours_27 ?_
                  refine ga_iload hR (pc := 28) 4 rfl dX6_unlikeFours_28 ?_
                  refine ga_callV hR (pc := 30) (As := [.int v4_32]) (rest := [.int r_33, .int v3_31]) (st0 := [.int v4_32, .ref (a 0), .int r_33, .int v3_31]) (b := (a 0)) 1 (c_X6_fourFrom V a x_length x_classes v4_32 _ h) (ga_same_i fun _ => rfl) gX6_unlikeFours_X6_fourFrom rfl rfl rfl hd_X6_fourFrom ⟨Nat.le_of_ble_eq_true rfl, Nat.le_of_ble_eq_true rfl⟩ rfl rfl (Nat.le_of_ble_eq_true rfl) ⟨Nat.zero_le _, Nat.zero_le _⟩ [0, 1] rfl rfl 0 rfl rfl dX6_unlikeFours_30 ?_
                  rintro _ _ ⟨r_34, ⟨⟩, rfl, rfl, h⟩
                  refine ga_to [(a 0, .inr (6, [.ref (a 1), .ref (a 2), .ref (a 3), .int x_length])), (a 1, .inl (V.2 0, 26, .inl x_classes))] [.int r_34, .int r_33, .int v3_31] rfl rfl ?_
                  try dsimp only at h
                  refine ga_icmp_eq hR (pc := 33) 40 (by decide) dX6_unlikeFours_33 (fun c33 => ?_) (fun c33 => ?_)
                  · replace h := h.1 c33
                    refine ga_iconst hR (pc := 40) (v := nI 0) (by decide) dX6_unlikeFours_40 ?_
                    refine ga_iand hR (pc := 41) dX6_unlikeFours_41 ?_
                    refine ga_topi (fun v3_35 ev3_35 => ?_)
                    replace h := h v3_35 ev3_35
                    refine ga_istore_n hR (pc := 42) (lv' := [(3, .int v3_35), (0, .ref (a 0)), (1, .int v1_23), (2, .int v2_24), (4, .int v4_32)]) rfl (by decide) rfl dX6_unlikeFours_42 ?_
                    obtain ⟨v4_36, ev4_36⟩ : ∃ v : Int32, v = v4_32 + (nI 4) := ⟨_, rfl⟩
                    replace h := h v4_36 ev4_36
                    refine ga_iinc hR (pc := 43) (lv' := [(4, .int v4_36), (3, .int v3_35), (0, .ref (a 0)), (1, .int v1_23), (2, .int v2_24)]) 4 (by decide) rfl ev4_36 (by decide) rfl dX6_unlikeFours_43 ?_
                    refine ga_goto hR (pc := 46) 15 (by decide) dX6_unlikeFours_46 ?_
                    exact ga_lv hR [2, 3, 4, 1, 0] rfl (ih _ _ h)
                  · replace h := h.2 c33
                    refine ga_iconst hR (pc := 36) (v := nI 1) (by decide) dX6_unlikeFours_36 ?_
                    refine ga_goto hR (pc := 37) 41 (by decide) dX6_unlikeFours_37 ?_
                    refine ga_iand hR (pc := 41) dX6_unlikeFours_41 ?_
                    refine ga_topi (fun v3_37 ev3_37 => ?_)
                    replace h := h v3_37 ev3_37
                    refine ga_istore_n hR (pc := 42) (lv' := [(3, .int v3_37), (0, .ref (a 0)), (1, .int v1_23), (2, .int v2_24), (4, .int v4_32)]) rfl (by decide) rfl dX6_unlikeFours_42 ?_
                    obtain ⟨v4_38, ev4_38⟩ : ∃ v : Int32, v = v4_32 + (nI 4) := ⟨_, rfl⟩
                    replace h := h v4_38 ev4_38
                    refine ga_iinc hR (pc := 43) (lv' := [(4, .int v4_38), (3, .int v3_37), (0, .ref (a 0)), (1, .int v1_23), (2, .int v2_24)]) 4 (by decide) rfl ev4_38 (by decide) rfl dX6_unlikeFours_43 ?_
                    refine ga_goto hR (pc := 46) 15 (by decide) dX6_unlikeFours_46 ?_
                    exact ga_lv hR [2, 3, 4, 1, 0] rfl (ih _ _ h)
            exact ga_lv hR [2, 3, 4, 1, 0] rfl (L15 n _ _ h)
    exact ga_lv hR [2, 1, 0] rfl (L4 n _ _ h)

def rm_X8_knownNumber : Room := { frames := 0, cells := 0, slots := 0, locals := 0 }
theorem hd_X8_knownNumberS : yX8_knownNumber.cls ≠ "java/lang/invoke/MethodHandle" ∧ yX8_knownNumber.cls ≠ "java/lang/invoke/VarHandle" ∧ (parseMethodDescriptor yX8_knownNumber.desc).map (fun d => d.parameters.length) = some 0 := by decide +kernel
theorem hd_X8_knownNumber : yX8_knownNumber.cls = RX8 ∧ yX8_knownNumber.cls ≠ "java/lang/invoke/MethodHandle" ∧ yX8_knownNumber.cls ≠ "java/lang/invoke/VarHandle" ∧ (parseMethodDescriptor yX8_knownNumber.desc).map (fun d => d.parameters.length) = some 0 := ⟨rfl, hd_X8_knownNumberS⟩
set_option maxHeartbeats 4000000 in
set_option maxRecDepth 100000 in
theorem c_X8_knownNumber (V : ga_V) (a : Nat → Nat) (x_number : Int32) (x_unlikeNumber : Int32) (x_areFound : Int32) (x_knownNumber : Int32) (K : Int32 → Prop) (h : wp_X8_knownNumber x_knownNumber K) : ga_C V yX8_knownNumber wsX8_knownNumber rm_X8_knownNumber [.ref (a 0)] [(a 0, .inr (8, [.ref (a 1), .ref (a 2), .ref (a 3), .ref (a 4), .ref (a 5), .ref (a 6), .ref (a 7), .int x_number, .int x_unlikeNumber, .int x_knownNumber, .int x_areFound]))] 0 0 (ga_Fi (fun (u : Unit) => [(a 0, .inr (8, [.ref (a 1), .ref (a 2), .ref (a 3), .ref (a 4), .ref (a 5), .ref (a 6), .ref (a 7), .int x_number, .int x_unlikeNumber, .int x_knownNumber, .int x_areFound]))]) (fun r u => K r)) := by
  refine ga_met (cc := cX8_knownNumber) (maxL := 1) (rt := (some .int)) (by decide) rfl [(0, .ref (a 0))] rfl (Nat.le_of_ble_eq_true rfl) ?_
  intro G hR hE
  have hinX8 : ∀ w ∈ u_ws RX8 TX8 11, w ∈ wsX8_knownNumber := by decide +kernel
  have f75 : Cond.fieldLink RX8 75 "BoundaryRules$Ways" "knownNumber" "I" ∈ wsX8_knownNumber := by decide +kernel
  unfold wp_X8_knownNumber at h
  refine ga_aload_n hR (pc := 0) 0 rfl rfl dX8_knownNumber_0 ?_
  refine ga_get hR (pc := 1) 0 rfl rfl hinX8 9 (by decide) f75 rfl dX8_knownNumber_1 ?_
  exact ga_iret hE dX8_knownNumber_4 rfl (ga_ri () rfl h)

def rm_X8_unlikeNumber : Room := { frames := 0, cells := 0, slots := 0, locals := 0 }
theorem hd_X8_unlikeNumberS : yX8_unlikeNumber.cls ≠ "java/lang/invoke/MethodHandle" ∧ yX8_unlikeNumber.cls ≠ "java/lang/invoke/VarHandle" ∧ (parseMethodDescriptor yX8_unlikeNumber.desc).map (fun d => d.parameters.length) = some 0 := by decide +kernel
theorem hd_X8_unlikeNumber : yX8_unlikeNumber.cls = RX8 ∧ yX8_unlikeNumber.cls ≠ "java/lang/invoke/MethodHandle" ∧ yX8_unlikeNumber.cls ≠ "java/lang/invoke/VarHandle" ∧ (parseMethodDescriptor yX8_unlikeNumber.desc).map (fun d => d.parameters.length) = some 0 := ⟨rfl, hd_X8_unlikeNumberS⟩
set_option maxHeartbeats 4000000 in
set_option maxRecDepth 100000 in
theorem c_X8_unlikeNumber (V : ga_V) (a : Nat → Nat) (x_number : Int32) (x_knownNumber : Int32) (x_areFound : Int32) (x_unlikeNumber : Int32) (K : Int32 → Prop) (h : wp_X8_unlikeNumber x_unlikeNumber K) : ga_C V yX8_unlikeNumber wsX8_unlikeNumber rm_X8_unlikeNumber [.ref (a 0)] [(a 0, .inr (8, [.ref (a 1), .ref (a 2), .ref (a 3), .ref (a 4), .ref (a 5), .ref (a 6), .ref (a 7), .int x_number, .int x_unlikeNumber, .int x_knownNumber, .int x_areFound]))] 0 0 (ga_Fi (fun (u : Unit) => [(a 0, .inr (8, [.ref (a 1), .ref (a 2), .ref (a 3), .ref (a 4), .ref (a 5), .ref (a 6), .ref (a 7), .int x_number, .int x_unlikeNumber, .int x_knownNumber, .int x_areFound]))]) (fun r u => K r)) := by
  refine ga_met (cc := cX8_unlikeNumber) (maxL := 1) (rt := (some .int)) (by decide) rfl [(0, .ref (a 0))] rfl (Nat.le_of_ble_eq_true rfl) ?_
  intro G hR hE
  have hinX8 : ∀ w ∈ u_ws RX8 TX8 11, w ∈ wsX8_unlikeNumber := by decide +kernel
  have f69 : Cond.fieldLink RX8 69 "BoundaryRules$Ways" "unlikeNumber" "I" ∈ wsX8_unlikeNumber := by decide +kernel
  unfold wp_X8_unlikeNumber at h
  refine ga_aload_n hR (pc := 0) 0 rfl rfl dX8_unlikeNumber_0 ?_
  refine ga_get hR (pc := 1) 0 rfl rfl hinX8 8 (by decide) f69 rfl dX8_unlikeNumber_1 ?_
  exact ga_iret hE dX8_unlikeNumber_4 rfl (ga_ri () rfl h)

def rm_X8_number : Room := { frames := 0, cells := 0, slots := 0, locals := 0 }
theorem hd_X8_numberS : yX8_number.cls ≠ "java/lang/invoke/MethodHandle" ∧ yX8_number.cls ≠ "java/lang/invoke/VarHandle" ∧ (parseMethodDescriptor yX8_number.desc).map (fun d => d.parameters.length) = some 0 := by decide +kernel
theorem hd_X8_number : yX8_number.cls = RX8 ∧ yX8_number.cls ≠ "java/lang/invoke/MethodHandle" ∧ yX8_number.cls ≠ "java/lang/invoke/VarHandle" ∧ (parseMethodDescriptor yX8_number.desc).map (fun d => d.parameters.length) = some 0 := ⟨rfl, hd_X8_numberS⟩
set_option maxHeartbeats 4000000 in
set_option maxRecDepth 100000 in
theorem c_X8_number (V : ga_V) (a : Nat → Nat) (x_unlikeNumber : Int32) (x_knownNumber : Int32) (x_areFound : Int32) (x_number : Int32) (K : Int32 → Prop) (h : wp_X8_number x_number K) : ga_C V yX8_number wsX8_number rm_X8_number [.ref (a 0)] [(a 0, .inr (8, [.ref (a 1), .ref (a 2), .ref (a 3), .ref (a 4), .ref (a 5), .ref (a 6), .ref (a 7), .int x_number, .int x_unlikeNumber, .int x_knownNumber, .int x_areFound]))] 0 0 (ga_Fi (fun (u : Unit) => [(a 0, .inr (8, [.ref (a 1), .ref (a 2), .ref (a 3), .ref (a 4), .ref (a 5), .ref (a 6), .ref (a 7), .int x_number, .int x_unlikeNumber, .int x_knownNumber, .int x_areFound]))]) (fun r u => K r)) := by
  refine ga_met (cc := cX8_number) (maxL := 1) (rt := (some .int)) (by decide) rfl [(0, .ref (a 0))] rfl (Nat.le_of_ble_eq_true rfl) ?_
  intro G hR hE
  have hinX8 : ∀ w ∈ u_ws RX8 TX8 11, w ∈ wsX8_number := by decide +kernel
  have f42 : Cond.fieldLink RX8 42 "BoundaryRules$Ways" "number" "I" ∈ wsX8_number := by decide +kernel
  unfold wp_X8_number at h
  refine ga_aload_n hR (pc := 0) 0 rfl rfl dX8_number_0 ?_
  refine ga_get hR (pc := 1) 0 rfl rfl hinX8 7 (by decide) f42 rfl dX8_number_1 ?_
  exact ga_iret hE dX8_number_4 rfl (ga_ri () rfl h)

def rm_X8_areAlike : Room := { frames := 2, cells := 0, slots := 0, locals := 42 }
theorem hd_X8_areAlikeS : yX8_areAlike.cls ≠ "java/lang/invoke/MethodHandle" ∧ yX8_areAlike.cls ≠ "java/lang/invoke/VarHandle" ∧ (parseMethodDescriptor yX8_areAlike.desc).map (fun d => d.parameters.length) = some 2 := by decide +kernel
theorem hd_X8_areAlike : yX8_areAlike.cls = RX8 ∧ yX8_areAlike.cls ≠ "java/lang/invoke/MethodHandle" ∧ yX8_areAlike.cls ≠ "java/lang/invoke/VarHandle" ∧ (parseMethodDescriptor yX8_areAlike.desc).map (fun d => d.parameters.length) = some 2 := ⟨rfl, hd_X8_areAlikeS⟩
set_option maxHeartbeats 4000000 in
set_option maxRecDepth 100000 in
theorem c_X8_areAlike (V : ga_V) (a : Nat → Nat) (x_unlikeNumber : Int32) (x_knownNumber : Int32) (x_areFound : Int32) (x_number : Int32) (x_nexts : Nat → Int32) (x_begun : Nat → Int32) (p1 : Int32) (p2 : Int32) (K : Int32 → Prop) (h : wp_X8_areAlike x_number x_nexts x_begun p1 p2 K) : ga_C V yX8_areAlike wsX8_areAlike rm_X8_areAlike [.ref (a 0), .int p1, .int p2] [(a 0, .inr (8, [.ref (a 1), .ref (a 2), .ref (a 3), .ref (a 4), .ref (a 5), .ref (a 6), .ref (a 7), .int x_number, .int x_unlikeNumber, .int x_knownNumber, .int x_areFound])), (a 4, .inl (V.2 0, 6144, .inl x_nexts)), (a 5, .inl (V.2 0, 6, .inl x_begun))] 0 0 (ga_Fi (fun (u : Unit) => [(a 0, .inr (8, [.ref (a 1), .ref (a 2), .ref (a 3), .ref (a 4), .ref (a 5), .ref (a 6), .ref (a 7), .int x_number, .int x_unlikeNumber, .int x_knownNumber, .int x_areFound])), (a 4, .inl (V.2 0, 6144, .inl x_nexts)), (a 5, .inl (V.2 0, 6, .inl x_begun))]) (fun r u => K r)) := by
  refine ga_met (cc := cX8_areAlike) (maxL := 4) (rt := (some .boolean)) (by decide) rfl [(0, .ref (a 0)), (1, .int p1), (2, .int p2)] rfl (Nat.le_of_ble_eq_true rfl) ?_
  intro G hR hE
  have hinX8 : ∀ w ∈ u_ws RX8 TX8 11, w ∈ wsX8_areAlike := by decide +kernel
  have f24 : Cond.fieldLink RX8 24 "BoundaryRules$Ways" "begun" "[I" ∈ wsX8_areAlike := by decide +kernel
  have f42 : Cond.fieldLink RX8 42 "BoundaryRules$Ways" "number" "I" ∈ wsX8_areAlike := by decide +kernel
  unfold wp_X8_areAlike at h
  refine ga_iload_n hR (pc := 0) 1 rfl rfl dX8_areAlike_0 ?_
  refine ga_callSN hR (pc := 1) (As := [.int p1]) (rest := []) (st0 := [.int p1]) 1 (c_X9_isClass V p1 _ h) (ga_same_i fun _ => rfl) gX8_areAlike_X9_isClass_n88 rfl rfl rfl hd_X9_isClassS ⟨Nat.le_of_ble_eq_true rfl, Nat.le_of_ble_eq_true rfl⟩ rfl rfl (Nat.le_of_ble_eq_true rfl) ⟨Nat.zero_le _, Nat.zero_le _⟩ [] rfl rfl (host := "BoundaryRules") (by decide +kernel) (by decide +kernel) (by decide +kernel) dX8_areAlike_1 ?_
  rintro _ _ ⟨r_1, ⟨⟩, rfl, rfl, h⟩
  refine ga_to [(a 0, .inr (8, [.ref (a 1), .ref (a 2), .ref (a 3), .ref (a 4), .ref (a 5), .ref (a 6), .ref (a 7), .int x_number, .int x_unlikeNumber, .int x_knownNumber, .int x_areFound])), (a 4, .inl (V.2 0, 6144, .inl x_nexts)), (a 5, .inl (V.2 0, 6, .inl x_begun))] [.int r_1] rfl rfl ?_
  try dsimp only at h
  refine ga_if_eq hR (pc := 4) 29 (by decide) dX8_areAlike_4 (fun c4 => ?_) (fun c4 => ?_)
  · replace h := h.1 c4
    refine ga_iconst hR (pc := 29) (v := nI 0) (by decide) dX8_areAlike_29 ?_
    exact ga_iret hE dX8_areAlike_30 (by decide) (ga_ri () rfl h)
  · replace h := h.2 c4
    refine ga_iload_n hR (pc := 7) 2 rfl rfl dX8_areAlike_7 ?_
    refine ga_callSN hR (pc := 8) (As := [.int p2]) (rest := []) (st0 := [.int p2]) 1 (c_X9_isClass V p2 _ h) (ga_same_i fun _ => rfl) gX8_areAlike_X9_isClass_n88 rfl rfl rfl hd_X9_isClassS ⟨Nat.le_of_ble_eq_true rfl, Nat.le_of_ble_eq_true rfl⟩ rfl rfl (Nat.le_of_ble_eq_true rfl) ⟨Nat.zero_le _, Nat.zero_le _⟩ [] rfl rfl (host := "BoundaryRules") (by decide +kernel) (by decide +kernel) (by decide +kernel) dX8_areAlike_8 ?_
    rintro _ _ ⟨r_2, ⟨⟩, rfl, rfl, h⟩
    refine ga_to [(a 0, .inr (8, [.ref (a 1), .ref (a 2), .ref (a 3), .ref (a 4), .ref (a 5), .ref (a 6), .ref (a 7), .int x_number, .int x_unlikeNumber, .int x_knownNumber, .int x_areFound])), (a 4, .inl (V.2 0, 6144, .inl x_nexts)), (a 5, .inl (V.2 0, 6, .inl x_begun))] [.int r_2] rfl rfl ?_
    try dsimp only at h
    refine ga_if_eq hR (pc := 11) 29 (by decide) dX8_areAlike_11 (fun c11 => ?_) (fun c11 => ?_)
    · replace h := h.1 c11
      refine ga_iconst hR (pc := 29) (v := nI 0) (by decide) dX8_areAlike_29 ?_
      exact ga_iret hE dX8_areAlike_30 (by decide) (ga_ri () rfl h)
    · replace h := h.2 c11
      refine ga_aload_n hR (pc := 14) 0 rfl rfl dX8_areAlike_14 ?_
      refine ga_get hR (pc := 15) 0 rfl rfl hinX8 4 (by decide) f24 rfl dX8_areAlike_15 ?_
      refine ga_iload_n hR (pc := 18) 1 rfl rfl dX8_areAlike_18 ?_
      refine ga_iald hR (pc := 19) 2 rfl h.1 dX8_areAlike_19 ?_
      replace h := h.2
      refine ga_aload_n hR (pc := 20) 0 rfl rfl dX8_areAlike_20 ?_
      refine ga_get hR (pc := 21) 0 rfl rfl hinX8 4 (by decide) f24 rfl dX8_areAlike_21 ?_
      refine ga_iload_n hR (pc := 24) 2 rfl rfl dX8_areAlike_24 ?_
      refine ga_iald hR (pc := 25) 2 rfl h.1 dX8_areAlike_25 ?_
      replace h := h.2
      refine ga_icmp_eq hR (pc := 26) 31 (by decide) dX8_areAlike_26 (fun c26 => ?_) (fun c26 => ?_)
      · replace h := h.1 c26
        refine ga_iconst hR (pc := 31) (v := nI 0) (by decide) dX8_areAlike_31 ?_
        refine ga_istore_n hR (pc := 32) (lv' := [(3, .int (nI 0)), (0, .ref (a 0)), (1, .int p1), (2, .int p2)]) rfl (by decide) rfl dX8_areAlike_32 ?_
        have hJ := h (G 0 0 [(a 0, .inr (8, [.ref (a 1), .ref (a 2), .ref (a 3), .ref (a 4), .ref (a 5), .ref (a 6), .ref (a 7), .int x_number, .int x_unlikeNumber, .int x_knownNumber, .int x_areFound])), (a 4, .inl (V.2 0, 6144, .inl x_nexts)), (a 5, .inl (V.2 0, 6, .inl x_begun))] 56 [] [])
        refine ga_bind hJ ?_ ?_
        · intro h
          show G 0 0 [(a 0, .inr (8, [.ref (a 1), .ref (a 2), .ref (a 3), .ref (a 4), .ref (a 5), .ref (a 6), .ref (a 7), .int x_number, .int x_unlikeNumber, .int x_knownNumber, .int x_areFound])), (a 4, .inl (V.2 0, 6144, .inl x_nexts)), (a 5, .inl (V.2 0, 6, .inl x_begun))] 56 [] []
          refine ga_iconst hR (pc := 56) (v := nI 0) (by decide) dX8_areAlike_56 ?_
          exact ga_iret hE dX8_areAlike_57 (by decide) (ga_ri () rfl h)
        · intro h
          have hJ := h (G 0 0 [(a 0, .inr (8, [.ref (a 1), .ref (a 2), .ref (a 3), .ref (a 4), .ref (a 5), .ref (a 6), .ref (a 7), .int x_number, .int x_unlikeNumber, .int x_knownNumber, .int x_areFound])), (a 4, .inl (V.2 0, 6144, .inl x_nexts)), (a 5, .inl (V.2 0, 6, .inl x_begun))] 64 [] [])
          refine ga_bind hJ ?_ ?_
          · intro h
            show G 0 0 [(a 0, .inr (8, [.ref (a 1), .ref (a 2), .ref (a 3), .ref (a 4), .ref (a 5), .ref (a 6), .ref (a 7), .int x_number, .int x_unlikeNumber, .int x_knownNumber, .int x_areFound])), (a 4, .inl (V.2 0, 6144, .inl x_nexts)), (a 5, .inl (V.2 0, 6, .inl x_begun))] 64 [] []
            refine ga_iconst hR (pc := 64) (v := nI 1) (by decide) dX8_areAlike_64 ?_
            exact ga_iret hE dX8_areAlike_65 (by decide) (ga_ri () rfl h)
          · intro h
            obtain ⟨n, h⟩ := h
            have L33 : ∀ (n : Nat) (v3_8 : Int32), lp_X8_areAlike_33 x_number x_nexts p1 p2 (G 0 0 [(a 0, .inr (8, [.ref (a 1), .ref (a 2), .ref (a 3), .ref (a 4), .ref (a 5), .ref (a 6), .ref (a 7), .int x_number, .int x_unlikeNumber, .int x_knownNumber, .int x_areFound])), (a 4, .inl (V.2 0, 6144, .inl x_nexts)), (a 5, .inl (V.2 0, 6, .inl x_begun))] 56 [] []) (G 0 0 [(a 0, .inr (8, [.ref (a 1), .ref (a 2), .ref (a 3), .ref (a 4), .ref (a 5), .ref (a 6), .ref (a 7), .int x_number, .int x_unlikeNumber, .int x_knownNumber, .int x_areFound])), (a 4, .inl (V.2 0, 6144, .inl x_nexts)), (a 5, .inl (V.2 0, 6, .inl x_begun))] 64 [] []) n v3_8 → G 0 0 [(a 0, .inr (8, [.ref (a 1), .ref (a 2), .ref (a 3), .ref (a 4), .ref (a 5), .ref (a 6), .ref (a 7), .int x_number, .int x_unlikeNumber, .int x_knownNumber, .int x_areFound])), (a 4, .inl (V.2 0, 6144, .inl x_nexts)), (a 5, .inl (V.2 0, 6, .inl x_begun))] 33 [(0, .ref (a 0)), (1, .int p1), (2, .int p2), (3, .int v3_8)] [] := by
              intro n
              induction n with
              | zero => exact fun _ h => False.elim h
              | succ n ih =>
                intro v3_8 h
                rw [lp_X8_areAlike_33] at h
                refine ga_iload_n hR (pc := 33) 3 rfl rfl dX8_areAlike_33 ?_
                refine ga_aload_n hR (pc := 34) 0 rfl rfl dX8_areAlike_34 ?_
                refine ga_get hR (pc := 35) 0 rfl rfl hinX8 7 (by decide) f42 rfl dX8_areAlike_35 ?_
                refine ga_icmp_ge hR (pc := 38) 64 (by decide) dX8_areAlike_38 (fun c38 => ?_) (fun c38 => ?_)
                · replace h := h.1 c38
                  exact ga_lv hR [] rfl h
                · replace h := h.2 c38
                  refine ga_aload_n hR (pc := 41) 0 rfl rfl dX8_areAlike_41 ?_
                  refine ga_iload_n hR (pc := 42) 3 rfl rfl dX8_areAlike_42 ?_
                  refine ga_iload_n hR (pc := 43) 1 rfl rfl dX8_areAlike_43 ?_
                  refine ga_callV hR (pc := 44) (As := [.int v3_8, .int p1]) (rest := []) (st0 := [.int p1, .int v3_8, .ref (a 0)]) (b := (a 0)) 2 (c_X8_within V a x_unlikeNumber x_knownNumber x_areFound x_number x_nexts v3_8 p1 _ h) (ga_same_i fun _ => rfl) gX8_areAlike_X8_within rfl rfl rfl hd_X8_within ⟨Nat.le_of_ble_eq_true rfl, Nat.le_of_ble_eq_true rfl⟩ rfl rfl (Nat.le_of_ble_eq_true rfl) ⟨Nat.zero_le _, Nat.zero_le _⟩ [0, 1] rfl rfl 0 rfl rfl dX8_areAlike_44 ?_
                  rintro _ _ ⟨r_9, ⟨⟩, rfl, rfl, h⟩
                  refine ga_to [(a 0, .inr (8, [.ref (a 1), .ref (a 2), .ref (a 3), .ref (a 4), .ref (a 5), .ref (a 6), .ref (a 7), .int x_number, .int x_unlikeNumber, .int x_knownNumber, .int x_areFound])), (a 4, .inl (V.2 0, 6144, .inl x_nexts)), (a 5, .inl (V.2 0, 6, .inl x_begun))] [.int r_9] rfl rfl ?_
                  try dsimp only at h
                  refine ga_aload_n hR (pc := 47) 0 rfl rfl dX8_areAlike_47 ?_
                  refine ga_iload_n hR (pc := 48) 3 rfl rfl dX8_areAlike_48 ?_
                  refine ga_iload_n hR (pc := 49) 2 rfl rfl dX8_areAlike_49 ?_
                  refine ga_callV hR (pc := 50) (As := [.int v3_8, .int p2]) (rest := [.int r_9]) (st0 := [.int p2, .int v3_8, .ref (a 0), .int r_9]) (b := (a 0)) 2 (c_X8_within V a x_unlikeNumber x_knownNumber x_areFound x_number x_nexts v3_8 p2 _ h) (ga_same_i fun _ => rfl) gX8_areAlike_X8_within rfl rfl rfl hd_X8_within ⟨Nat.le_of_ble_eq_true rfl, Nat.le_of_ble_eq_true rfl⟩ rfl rfl (Nat.le_of_ble_eq_true rfl) ⟨Nat.zero_le _, Nat.zero_le _⟩ [0, 1] rfl rfl 0 rfl rfl dX8_areAlike_50 ?_
                  rintro _ _ ⟨r_10, ⟨⟩, rfl, rfl, h⟩
                  refine ga_to [(a 0, .inr (8, [.ref (a 1), .ref (a 2), .ref (a 3), .ref (a 4), .ref (a 5), .ref (a 6), .ref (a 7), .int x_number, .int x_unlikeNumber, .int x_knownNumber, .int x_areFound])), (a 4, .inl (V.2 0, 6144, .inl x_nexts)), (a 5, .inl (V.2 0, 6, .inl x_begun))] [.int r_10, .int r_9] rfl rfl ?_
                  try dsimp only at h
                  refine ga_icmp_eq hR (pc := 53) 58 (by decide) dX8_areAlike_53 (fun c53 => ?_) (fun c53 => ?_)
                  · replace h := h.1 c53
                    obtain ⟨v3_11, ev3_11⟩ : ∃ v : Int32, v = v3_8 + (nI 1) := ⟨_, rfl⟩
                    replace h := h v3_11 ev3_11
                    refine ga_iinc hR (pc := 58) (lv' := [(3, .int v3_11), (0, .ref (a 0)), (1, .int p1), (2, .int p2)]) 3 (by decide) rfl ev3_11 (by decide) rfl dX8_areAlike_58 ?_
                    refine ga_goto hR (pc := 61) 33 (by decide) dX8_areAlike_61 ?_
                    exact ga_lv hR [1, 2, 3, 0] rfl (ih _ h)
                  · replace h := h.2 c53
                    exact ga_lv hR [] rfl h
            exact ga_lv hR [1, 2, 3, 0] rfl (L33 n _ h)
      · replace h := h.2 c26
        refine ga_iconst hR (pc := 29) (v := nI 0) (by decide) dX8_areAlike_29 ?_
        exact ga_iret hE dX8_areAlike_30 (by decide) (ga_ri () rfl h)

def rm_X3_bounds : Room := { frames := 0, cells := 0, slots := 0, locals := 0 }
theorem hd_X3_boundsS : yX3_bounds.cls ≠ "java/lang/invoke/MethodHandle" ∧ yX3_bounds.cls ≠ "java/lang/invoke/VarHandle" ∧ (parseMethodDescriptor yX3_bounds.desc).map (fun d => d.parameters.length) = some 0 := by decide +kernel
theorem hd_X3_bounds : yX3_bounds.cls = RX3 ∧ yX3_bounds.cls ≠ "java/lang/invoke/MethodHandle" ∧ yX3_bounds.cls ≠ "java/lang/invoke/VarHandle" ∧ (parseMethodDescriptor yX3_bounds.desc).map (fun d => d.parameters.length) = some 0 := ⟨rfl, hd_X3_boundsS⟩
set_option maxHeartbeats 4000000 in
set_option maxRecDepth 100000 in
theorem c_X3_bounds (V : ga_V) (a : Nat → Nat) (x_length : Int32) (x_bounds : Int32) (K : Int32 → Prop) (h : wp_X3_bounds x_bounds K) : ga_C V yX3_bounds wsX3_bounds rm_X3_bounds [.ref (a 0)] [(a 0, .inr (3, [.ref (a 1), .int x_length, .int x_bounds]))] 0 0 (ga_Fi (fun (u : Unit) => [(a 0, .inr (3, [.ref (a 1), .int x_length, .int x_bounds]))]) (fun r u => K r)) := by
  refine ga_met (cc := cX3_bounds) (maxL := 1) (rt := (some .int)) (by decide) rfl [(0, .ref (a 0))] rfl (Nat.le_of_ble_eq_true rfl) ?_
  intro G hR hE
  have hinX3 : ∀ w ∈ u_ws RX3 TX3 3, w ∈ wsX3_bounds := by decide +kernel
  have f24 : Cond.fieldLink RX3 24 "BoundaryRules$Pieces" "bounds" "I" ∈ wsX3_bounds := by decide +kernel
  unfold wp_X3_bounds at h
  refine ga_aload_n hR (pc := 0) 0 rfl rfl dX3_bounds_0 ?_
  refine ga_get hR (pc := 1) 0 rfl rfl hinX3 2 (by decide) f24 rfl dX3_bounds_1 ?_
  exact ga_iret hE dX3_bounds_4 rfl (ga_ri () rfl h)

def rm_X8_fewestLettersTo : Room := { frames := 0, cells := 0, slots := 0, locals := 0 }
theorem hd_X8_fewestLettersToS : yX8_fewestLettersTo.cls ≠ "java/lang/invoke/MethodHandle" ∧ yX8_fewestLettersTo.cls ≠ "java/lang/invoke/VarHandle" ∧ (parseMethodDescriptor yX8_fewestLettersTo.desc).map (fun d => d.parameters.length) = some 1 := by decide +kernel
theorem hd_X8_fewestLettersTo : yX8_fewestLettersTo.cls = RX8 ∧ yX8_fewestLettersTo.cls ≠ "java/lang/invoke/MethodHandle" ∧ yX8_fewestLettersTo.cls ≠ "java/lang/invoke/VarHandle" ∧ (parseMethodDescriptor yX8_fewestLettersTo.desc).map (fun d => d.parameters.length) = some 1 := ⟨rfl, hd_X8_fewestLettersToS⟩
set_option maxHeartbeats 4000000 in
set_option maxRecDepth 100000 in
theorem c_X8_fewestLettersTo (V : ga_V) (a : Nat → Nat) (x_unlikeNumber : Int32) (x_knownNumber : Int32) (x_areFound : Int32) (x_number : Int32) (x_stands : Nat → Int32) (x_fewest : Nat → Int32) (p1 : Int32) (K : Int32 → Prop) (h : wp_X8_fewestLettersTo x_number x_stands x_fewest p1 K) : ga_C V yX8_fewestLettersTo wsX8_fewestLettersTo rm_X8_fewestLettersTo [.ref (a 0), .int p1] [(a 0, .inr (8, [.ref (a 1), .ref (a 2), .ref (a 3), .ref (a 4), .ref (a 5), .ref (a 6), .ref (a 7), .int x_number, .int x_unlikeNumber, .int x_knownNumber, .int x_areFound])), (a 1, .inl (V.2 0, 1024, .inl x_stands)), (a 2, .inl (V.2 0, 1024, .inl x_fewest))] 0 0 (ga_Fi (fun (u : Unit) => [(a 0, .inr (8, [.ref (a 1), .ref (a 2), .ref (a 3), .ref (a 4), .ref (a 5), .ref (a 6), .ref (a 7), .int x_number, .int x_unlikeNumber, .int x_knownNumber, .int x_areFound])), (a 1, .inl (V.2 0, 1024, .inl x_stands)), (a 2, .inl (V.2 0, 1024, .inl x_fewest))]) (fun r u => K r)) := by
  refine ga_met (cc := cX8_fewestLettersTo) (maxL := 3) (rt := (some .int)) (by decide) rfl [(0, .ref (a 0)), (1, .int p1)] rfl (Nat.le_of_ble_eq_true rfl) ?_
  intro G hR hE
  have hinX8 : ∀ w ∈ u_ws RX8 TX8 11, w ∈ wsX8_fewestLettersTo := by decide +kernel
  have f15 : Cond.fieldLink RX8 15 "BoundaryRules$Ways" "fewest" "[I" ∈ wsX8_fewestLettersTo := by decide +kernel
  have f42 : Cond.fieldLink RX8 42 "BoundaryRules$Ways" "number" "I" ∈ wsX8_fewestLettersTo := by decide +kernel
  have f9 : Cond.fieldLink RX8 9 "BoundaryRules$Ways" "stands" "[I" ∈ wsX8_fewestLettersTo := by decide +kernel
  unfold wp_X8_fewestLettersTo at h
  refine ga_iconst hR (pc := 0) (v := nI 0) (by decide) dX8_fewestLettersTo_0 ?_
  refine ga_istore_n hR (pc := 1) (lv' := [(2, .int (nI 0)), (0, .ref (a 0)), (1, .int p1)]) rfl (by decide) rfl dX8_fewestLettersTo_1 ?_
  have hJ := h (fun (v2_1 : Int32) => G 0 0 [(a 0, .inr (8, [.ref (a 1), .ref (a 2), .ref (a 3), .ref (a 4), .ref (a 5), .ref (a 6), .ref (a 7), .int x_number, .int x_unlikeNumber, .int x_knownNumber, .int x_areFound])), (a 1, .inl (V.2 0, 1024, .inl x_stands)), (a 2, .inl (V.2 0, 1024, .inl x_fewest))] 21 [(0, .ref (a 0)), (2, .int v2_1)] [])
  refine ga_bind hJ ?_ ?_
  · intro v2_1 h
    show G 0 0 [(a 0, .inr (8, [.ref (a 1), .ref (a 2), .ref (a 3), .ref (a 4), .ref (a 5), .ref (a 6), .ref (a 7), .int x_number, .int x_unlikeNumber, .int x_knownNumber, .int x_areFound])), (a 1, .inl (V.2 0, 1024, .inl x_stands)), (a 2, .inl (V.2 0, 1024, .inl x_fewest))] 21 [(0, .ref (a 0)), (2, .int v2_1)] []
    refine ga_aload_n hR (pc := 21) 0 rfl rfl dX8_fewestLettersTo_21 ?_
    refine ga_get hR (pc := 22) 0 rfl rfl hinX8 1 (by decide) f15 rfl dX8_fewestLettersTo_22 ?_
    refine ga_iload_n hR (pc := 25) 1 rfl rfl dX8_fewestLettersTo_25 ?_
    refine ga_iald hR (pc := 26) 2 rfl h.1 dX8_fewestLettersTo_26 ?_
    replace h := h.2
    exact ga_iret hE dX8_fewestLettersTo_27 rfl (ga_ri () rfl h)
  · intro h
    have hJ := h (G 0 0 [(a 0, .inr (8, [.ref (a 1), .ref (a 2), .ref (a 3), .ref (a 4), .ref (a 5), .ref (a 6), .ref (a 7), .int x_number, .int x_unlikeNumber, .int x_knownNumber, .int x_areFound])), (a 1, .inl (V.2 0, 1024, .inl x_stands)), (a 2, .inl (V.2 0, 1024, .inl x_fewest))] 34 [] [])
    refine ga_bind hJ ?_ ?_
    · intro h
      show G 0 0 [(a 0, .inr (8, [.ref (a 1), .ref (a 2), .ref (a 3), .ref (a 4), .ref (a 5), .ref (a 6), .ref (a 7), .int x_number, .int x_unlikeNumber, .int x_knownNumber, .int x_areFound])), (a 1, .inl (V.2 0, 1024, .inl x_stands)), (a 2, .inl (V.2 0, 1024, .inl x_fewest))] 34 [] []
      refine ga_bipush hR (pc := 34) (v := -4) (by decide) dX8_fewestLettersTo_34 ?_
      exact ga_iret hE dX8_fewestLettersTo_36 rfl (ga_ri () rfl h)
    · intro h
      obtain ⟨n, h⟩ := h
      have L2 : ∀ (n : Nat) (v2_5 : Int32), lp_X8_fewestLettersTo_2 x_number x_stands p1 (fun (v2_1 : Int32) => G 0 0 [(a 0, .inr (8, [.ref (a 1), .ref (a 2), .ref (a 3), .ref (a 4), .ref (a 5), .ref (a 6), .ref (a 7), .int x_number, .int x_unlikeNumber, .int x_knownNumber, .int x_areFound])), (a 1, .inl (V.2 0, 1024, .inl x_stands)), (a 2, .inl (V.2 0, 1024, .inl x_fewest))] 21 [(0, .ref (a 0)), (2, .int v2_1)] []) (G 0 0 [(a 0, .inr (8, [.ref (a 1), .ref (a 2), .ref (a 3), .ref (a 4), .ref (a 5), .ref (a 6), .ref (a 7), .int x_number, .int x_unlikeNumber, .int x_knownNumber, .int x_areFound])), (a 1, .inl (V.2 0, 1024, .inl x_stands)), (a 2, .inl (V.2 0, 1024, .inl x_fewest))] 34 [] []) n v2_5 → G 0 0 [(a 0, .inr (8, [.ref (a 1), .ref (a 2), .ref (a 3), .ref (a 4), .ref (a 5), .ref (a 6), .ref (a 7), .int x_number, .int x_unlikeNumber, .int x_knownNumber, .int x_areFound])), (a 1, .inl (V.2 0, 1024, .inl x_stands)), (a 2, .inl (V.2 0, 1024, .inl x_fewest))] 2 [(0, .ref (a 0)), (1, .int p1), (2, .int v2_5)] [] := by
        intro n
        induction n with
        | zero => exact fun _ h => False.elim h
        | succ n ih =>
          intro v2_5 h
          rw [lp_X8_fewestLettersTo_2] at h
          refine ga_iload_n hR (pc := 2) 2 rfl rfl dX8_fewestLettersTo_2 ?_
          refine ga_aload_n hR (pc := 3) 0 rfl rfl dX8_fewestLettersTo_3 ?_
          refine ga_get hR (pc := 4) 0 rfl rfl hinX8 7 (by decide) f42 rfl dX8_fewestLettersTo_4 ?_
          refine ga_icmp_ge hR (pc := 7) 34 (by decide) dX8_fewestLettersTo_7 (fun c7 => ?_) (fun c7 => ?_)
          · replace h := h.1 c7
            exact ga_lv hR [] rfl h
          · replace h := h.2 c7
            refine ga_aload_n hR (pc := 10) 0 rfl rfl dX8_fewestLettersTo_10 ?_
            refine ga_get hR (pc := 11) 0 rfl rfl hinX8 0 (by decide) f9 rfl dX8_fewestLettersTo_11 ?_
            refine ga_iload_n hR (pc := 14) 2 rfl rfl dX8_fewestLettersTo_14 ?_
            refine ga_iald hR (pc := 15) 1 rfl h.1 dX8_fewestLettersTo_15 ?_
            replace h := h.2
            refine ga_iload_n hR (pc := 16) 1 rfl rfl dX8_fewestLettersTo_16 ?_
            refine ga_iand hR (pc := 17) dX8_fewestLettersTo_17 ?_
            refine ga_if_eq hR (pc := 18) 28 (by decide) dX8_fewestLettersTo_18 (fun c18 => ?_) (fun c18 => ?_)
            · replace h := h.1 c18
              obtain ⟨v2_6, ev2_6⟩ : ∃ v : Int32, v = v2_5 + (nI 1) := ⟨_, rfl⟩
              replace h := h v2_6 ev2_6
              refine ga_iinc hR (pc := 28) (lv' := [(2, .int v2_6), (0, .ref (a 0)), (1, .int p1)]) 2 (by decide) rfl ev2_6 (by decide) rfl dX8_fewestLettersTo_28 ?_
              refine ga_goto hR (pc := 31) 2 (by decide) dX8_fewestLettersTo_31 ?_
              exact ga_lv hR [1, 2, 0] rfl (ih _ h)
            · replace h := h.2 c18
              exact ga_lv hR [0, 2] rfl h
      exact ga_lv hR [1, 2, 0] rfl (L2 n _ h)

def rm_X6_become : Room := { frames := 1, cells := 0, slots := 0, locals := 35 }
theorem hd_X6_becomeS : yX6_become.cls ≠ "java/lang/invoke/MethodHandle" ∧ yX6_become.cls ≠ "java/lang/invoke/VarHandle" ∧ (parseMethodDescriptor yX6_become.desc).map (fun d => d.parameters.length) = some 1 := by decide +kernel
theorem hd_X6_become : yX6_become.cls = RX6 ∧ yX6_become.cls ≠ "java/lang/invoke/MethodHandle" ∧ yX6_become.cls ≠ "java/lang/invoke/VarHandle" ∧ (parseMethodDescriptor yX6_become.desc).map (fun d => d.parameters.length) = some 1 := ⟨rfl, hd_X6_becomeS⟩
set_option maxHeartbeats 4000000 in
set_option maxRecDepth 100000 in
theorem c_X6_become (V : ga_V) (a : Nat → Nat) (b : Nat → Nat) (x_length : Int32) (x_classes : Nat → Int32) (x_kinds : Nat → Int32) (x_line : Nat → Int32) (y_length : Int32) (y_classes : Nat → Int32) (y_kinds : Nat → Int32) (y_line : Nat → Int32) (K : Int32 → (Nat → Int32) → (Nat → Int32) → (Nat → Int32) → Prop) (h : wp_X6_become x_length x_classes x_kinds x_line y_length y_classes y_kinds y_line K) : ga_C V yX6_become wsX6_become rm_X6_become [.ref (a 0), .ref (b 0)] [(a 0, .inr (6, [.ref (a 1), .ref (a 2), .ref (a 3), .int x_length])), (a 1, .inl (V.2 0, 26, .inl x_classes)), (a 2, .inl (V.2 0, 4, .inl x_kinds)), (a 3, .inl (V.2 0, 30, .inl x_line)), (b 0, .inr (6, [.ref (b 1), .ref (b 2), .ref (b 3), .int y_length])), (b 1, .inl (V.2 0, 26, .inl y_classes)), (b 2, .inl (V.2 0, 4, .inl y_kinds)), (b 3, .inl (V.2 0, 30, .inl y_line))] 0 0 (ga_Fv (fun (u : Int32 × (Nat → Int32) × (Nat → Int32) × (Nat → Int32)) => [(a 0, .inr (6, [.ref (a 1), .ref (a 2), .ref (a 3), .int u.1])), (a 1, .inl (V.2 0, 26, .inl u.2.1)), (a 2, .inl (V.2 0, 4, .inl u.2.2.1)), (a 3, .inl (V.2 0, 30, .inl u.2.2.2)), (b 0, .inr (6, [.ref (b 1), .ref (b 2), .ref (b 3), .int y_length])), (b 1, .inl (V.2 0, 26, .inl y_classes)), (b 2, .inl (V.2 0, 4, .inl y_kinds)), (b 3, .inl (V.2 0, 30, .inl y_line))]) (fun u => K u.1 u.2.1 u.2.2.1 u.2.2.2)) := by
  refine ga_met (cc := cX6_become) (maxL := 2) (rt := none) (by decide) rfl [(0, .ref (a 0)), (1, .ref (b 0))] rfl (Nat.le_of_ble_eq_true rfl) ?_
  intro G hR hE
  have hinX6 : ∀ w ∈ u_ws RX6 TX6 4, w ∈ wsX6_become := by decide +kernel
  have f9 : Cond.fieldLink RX6 9 "BoundaryRules$Stock" "classes" "[I" ∈ wsX6_become := by decide +kernel
  have f15 : Cond.fieldLink RX6 15 "BoundaryRules$Stock" "kinds" "[I" ∈ wsX6_become := by decide +kernel
  have f18 : Cond.fieldLink RX6 18 "BoundaryRules$Stock" "line" "[I" ∈ wsX6_become := by decide +kernel
  have f21 : Cond.fieldLink RX6 21 "BoundaryRules$Stock" "length" "I" ∈ wsX6_become := by decide +kernel
  unfold wp_X6_become at h
  refine ga_aload_n hR (pc := 0) 1 rfl rfl dX6_become_0 ?_
  refine ga_get hR (pc := 1) 4 rfl rfl hinX6 0 (by decide) f9 rfl dX6_become_1 ?_
  refine ga_iconst hR (pc := 4) (v := nI 0) (by decide) dX6_become_4 ?_
  refine ga_aload_n hR (pc := 5) 0 rfl rfl dX6_become_5 ?_
  refine ga_get hR (pc := 6) 0 rfl rfl hinX6 0 (by decide) f9 rfl dX6_become_6 ?_
  refine ga_iconst hR (pc := 9) (v := nI 0) (by decide) dX6_become_9 ?_
  refine ga_bipush hR (pc := 10) (v := nI 26) (by decide) dX6_become_10 ?_
  refine ga_copyi hR (pc := 12) (ws' := [(a 0, .inr (6, [.ref (a 1), .ref (a 2), .ref (a 3), .int x_length])), (a 1, .inl (V.2 0, 26, .inl ((va_cpy y_classes x_classes (nI 0).toNatClampNeg (nI 0).toNatClampNeg (nI 26).toNatClampNeg)))), (a 2, .inl (V.2 0, 4, .inl x_kinds)), (a 3, .inl (V.2 0, 30, .inl x_line)), (b 0, .inr (6, [.ref (b 1), .ref (b 2), .ref (b 3), .int y_length])), (b 1, .inl (V.2 0, 26, .inl y_classes)), (b 2, .inl (V.2 0, 4, .inl y_kinds)), (b 3, .inl (V.2 0, 30, .inl y_line))]) 5 1 rfl rfl h.1 h.2.1 h.2.2.1 h.2.2.2.1 h.2.2.2.2.1 (by decide +kernel) (by decide +kernel) (by decide +kernel) (by decide +kernel) (Nat.le_of_ble_eq_true rfl) (Nat.le_of_ble_eq_true rfl) rfl dX6_become_12 ?_
  replace h := h.2.2.2.2.2
  obtain ⟨x_classes_1, ex_classes_1⟩ : ∃ f : Nat → Int32, f = va_cpy y_classes x_classes (nI 0).toNatClampNeg (nI 0).toNatClampNeg (nI 26).toNatClampNeg := ⟨_, rfl⟩
  refine ga_cast (ws' := [(a 0, .inr (6, [.ref (a 1), .ref (a 2), .ref (a 3), .int x_length])), (a 1, .inl (V.2 0, 26, .inl x_classes_1)), (a 2, .inl (V.2 0, 4, .inl x_kinds)), (a 3, .inl (V.2 0, 30, .inl x_line)), (b 0, .inr (6, [.ref (b 1), .ref (b 2), .ref (b 3), .int y_length])), (b 1, .inl (V.2 0, 26, .inl y_classes)), (b 2, .inl (V.2 0, 4, .inl y_kinds)), (b 3, .inl (V.2 0, 30, .inl y_line))]) (by rw [ex_classes_1]) rfl ?_
  replace h := h x_classes_1 ex_classes_1
  refine ga_aload_n hR (pc := 15) 1 rfl rfl dX6_become_15 ?_
  refine ga_get hR (pc := 16) 4 rfl rfl hinX6 1 (by decide) f15 rfl dX6_become_16 ?_
  refine ga_iconst hR (pc := 19) (v := nI 0) (by decide) dX6_become_19 ?_
  refine ga_aload_n hR (pc := 20) 0 rfl rfl dX6_become_20 ?_
  refine ga_get hR (pc := 21) 0 rfl rfl hinX6 1 (by decide) f15 rfl dX6_become_21 ?_
  refine ga_iconst hR (pc := 24) (v := nI 0) (by decide) dX6_become_24 ?_
  refine ga_iconst hR (pc := 25) (v := nI 4) (by decide) dX6_become_25 ?_
  refine ga_copyi hR (pc := 26) (ws' := [(a 0, .inr (6, [.ref (a 1), .ref (a 2), .ref (a 3), .int x_length])), (a 1, .inl (V.2 0, 26, .inl x_classes_1)), (a 2, .inl (V.2 0, 4, .inl ((va_cpy y_kinds x_kinds (nI 0).toNatClampNeg (nI 0).toNatClampNeg (nI 4).toNatClampNeg)))), (a 3, .inl (V.2 0, 30, .inl x_line)), (b 0, .inr (6, [.ref (b 1), .ref (b 2), .ref (b 3), .int y_length])), (b 1, .inl (V.2 0, 26, .inl y_classes)), (b 2, .inl (V.2 0, 4, .inl y_kinds)), (b 3, .inl (V.2 0, 30, .inl y_line))]) 6 2 rfl rfl h.1 h.2.1 h.2.2.1 h.2.2.2.1 h.2.2.2.2.1 (by decide +kernel) (by decide +kernel) (by decide +kernel) (by decide +kernel) (Nat.le_of_ble_eq_true rfl) (Nat.le_of_ble_eq_true rfl) rfl dX6_become_26 ?_
  replace h := h.2.2.2.2.2
  obtain ⟨x_kinds_2, ex_kinds_2⟩ : ∃ f : Nat → Int32, f = va_cpy y_kinds x_kinds (nI 0).toNatClampNeg (nI 0).toNatClampNeg (nI 4).toNatClampNeg := ⟨_, rfl⟩
  refine ga_cast (ws' := [(a 0, .inr (6, [.ref (a 1), .ref (a 2), .ref (a 3), .int x_length])), (a 1, .inl (V.2 0, 26, .inl x_classes_1)), (a 2, .inl (V.2 0, 4, .inl x_kinds_2)), (a 3, .inl (V.2 0, 30, .inl x_line)), (b 0, .inr (6, [.ref (b 1), .ref (b 2), .ref (b 3), .int y_length])), (b 1, .inl (V.2 0, 26, .inl y_classes)), (b 2, .inl (V.2 0, 4, .inl y_kinds)), (b 3, .inl (V.2 0, 30, .inl y_line))]) (by rw [ex_kinds_2]) rfl ?_
  replace h := h x_kinds_2 ex_kinds_2
  refine ga_aload_n hR (pc := 29) 1 rfl rfl dX6_become_29 ?_
  refine ga_get hR (pc := 30) 4 rfl rfl hinX6 2 (by decide) f18 rfl dX6_become_30 ?_
  refine ga_iconst hR (pc := 33) (v := nI 0) (by decide) dX6_become_33 ?_
  refine ga_aload_n hR (pc := 34) 0 rfl rfl dX6_become_34 ?_
  refine ga_get hR (pc := 35) 0 rfl rfl hinX6 2 (by decide) f18 rfl dX6_become_35 ?_
  refine ga_iconst hR (pc := 38) (v := nI 0) (by decide) dX6_become_38 ?_
  refine ga_bipush hR (pc := 39) (v := nI 30) (by decide) dX6_become_39 ?_
  refine ga_copyi hR (pc := 41) (ws' := [(a 0, .inr (6, [.ref (a 1), .ref (a 2), .ref (a 3), .int x_length])), (a 1, .inl (V.2 0, 26, .inl x_classes_1)), (a 2, .inl (V.2 0, 4, .inl x_kinds_2)), (a 3, .inl (V.2 0, 30, .inl ((va_cpy y_line x_line (nI 0).toNatClampNeg (nI 0).toNatClampNeg (nI 30).toNatClampNeg)))), (b 0, .inr (6, [.ref (b 1), .ref (b 2), .ref (b 3), .int y_length])), (b 1, .inl (V.2 0, 26, .inl y_classes)), (b 2, .inl (V.2 0, 4, .inl y_kinds)), (b 3, .inl (V.2 0, 30, .inl y_line))]) 7 3 rfl rfl h.1 h.2.1 h.2.2.1 h.2.2.2.1 h.2.2.2.2.1 (by decide +kernel) (by decide +kernel) (by decide +kernel) (by decide +kernel) (Nat.le_of_ble_eq_true rfl) (Nat.le_of_ble_eq_true rfl) rfl dX6_become_41 ?_
  replace h := h.2.2.2.2.2
  obtain ⟨x_line_3, ex_line_3⟩ : ∃ f : Nat → Int32, f = va_cpy y_line x_line (nI 0).toNatClampNeg (nI 0).toNatClampNeg (nI 30).toNatClampNeg := ⟨_, rfl⟩
  refine ga_cast (ws' := [(a 0, .inr (6, [.ref (a 1), .ref (a 2), .ref (a 3), .int x_length])), (a 1, .inl (V.2 0, 26, .inl x_classes_1)), (a 2, .inl (V.2 0, 4, .inl x_kinds_2)), (a 3, .inl (V.2 0, 30, .inl x_line_3)), (b 0, .inr (6, [.ref (b 1), .ref (b 2), .ref (b 3), .int y_length])), (b 1, .inl (V.2 0, 26, .inl y_classes)), (b 2, .inl (V.2 0, 4, .inl y_kinds)), (b 3, .inl (V.2 0, 30, .inl y_line))]) (by rw [ex_line_3]) rfl ?_
  replace h := h x_line_3 ex_line_3
  refine ga_aload_n hR (pc := 44) 0 rfl rfl dX6_become_44 ?_
  refine ga_aload_n hR (pc := 45) 1 rfl rfl dX6_become_45 ?_
  refine ga_get hR (pc := 46) 4 rfl rfl hinX6 3 (by decide) f21 rfl dX6_become_46 ?_
  refine ga_putf hR (pc := 49) (ws' := [(a 0, .inr (6, [.ref (a 1), .ref (a 2), .ref (a 3), .int y_length])), (a 1, .inl (V.2 0, 26, .inl x_classes_1)), (a 2, .inl (V.2 0, 4, .inl x_kinds_2)), (a 3, .inl (V.2 0, 30, .inl x_line_3)), (b 0, .inr (6, [.ref (b 1), .ref (b 2), .ref (b 3), .int y_length])), (b 1, .inl (V.2 0, 26, .inl y_classes)), (b 2, .inl (V.2 0, 4, .inl y_kinds)), (b 3, .inl (V.2 0, 30, .inl y_line))]) 0 rfl rfl hinX6 3 (by decide) f21 tyX6_ok nmX6 rfl rfl rfl (Nat.le_of_ble_eq_true rfl) rfl dX6_become_49 ?_
  exact ga_vret hE dX6_become_52 (ga_rv (y_length, x_classes_1, x_kinds_2, x_line_3) rfl h)

def rm_X9_draw : Room := { frames := 0, cells := 0, slots := 0, locals := 0 }
theorem hd_X9_drawS : yX9_draw.cls ≠ "java/lang/invoke/MethodHandle" ∧ yX9_draw.cls ≠ "java/lang/invoke/VarHandle" ∧ (parseMethodDescriptor yX9_draw.desc).map (fun d => d.parameters.length) = some 2 := by decide +kernel
set_option maxHeartbeats 4000000 in
set_option maxRecDepth 100000 in
theorem c_X9_draw (V : ga_V) (p0 : Int32) (p1 : Int32) (K : Int32 → Prop) (h : wp_X9_draw p0 p1 K) : ga_C V yX9_draw wsX9_draw rm_X9_draw [.int p0, .int p1] [] 0 0 (ga_Fi (fun (u : Unit) => []) (fun r u => K r)) := by
  refine ga_met (cc := cX9_draw) (maxL := 4) (rt := (some .int)) (by decide) rfl [(0, .int p0), (1, .int p1)] rfl (Nat.le_of_ble_eq_true rfl) ?_
  intro G hR hE
  unfold wp_X9_draw at h
  refine ga_ldc2 hR (pc := 0) (v := lN 7919) (by decide +kernel) dX9_draw_0 ?_
  refine ga_iload_n hR (pc := 3) 0 rfl rfl dX9_draw_3 ?_
  refine ga_i2l hR (pc := 4) dX9_draw_4 ?_
  refine ga_lmul hR (pc := 5) dX9_draw_5 ?_
  refine ga_ldc2 hR (pc := 6) (v := lN 6151) (by decide +kernel) dX9_draw_6 ?_
  refine ga_iload_n hR (pc := 9) 1 rfl rfl dX9_draw_9 ?_
  refine ga_i2l hR (pc := 10) dX9_draw_10 ?_
  refine ga_lmul hR (pc := 11) dX9_draw_11 ?_
  refine ga_ladd hR (pc := 12) dX9_draw_12 ?_
  refine ga_lconst hR (pc := 13) (v := lN 1) (by decide) dX9_draw_13 ?_
  refine ga_ladd hR (pc := 14) dX9_draw_14 ?_
  refine ga_topl (fun v2_1 ev2_1 => ?_)
  replace h := h v2_1 ev2_1
  refine ga_lstore_n hR (pc := 15) (lv' := [(2, .long v2_1), (0, .int p0), (1, .int p1)]) rfl (by decide) rfl dX9_draw_15 ?_
  refine ga_lload_n hR (pc := 16) 0 rfl rfl dX9_draw_16 ?_
  refine ga_lload_n hR (pc := 17) 0 rfl rfl dX9_draw_17 ?_
  refine ga_lmul hR (pc := 18) dX9_draw_18 ?_
  refine ga_ldc2 hR (pc := 19) (v := lN 65521) (by decide +kernel) dX9_draw_19 ?_
  refine ga_lrem hR (pc := 22) (by decide) dX9_draw_22 ?_
  refine ga_l2i hR (pc := 23) dX9_draw_23 ?_
  exact ga_iret hE dX9_draw_24 rfl (ga_ri () rfl h)

def rm_X6_goOnBy : Room := { frames := 2, cells := 0, slots := 0, locals := 42 }
theorem hd_X6_goOnByS : yX6_goOnBy.cls ≠ "java/lang/invoke/MethodHandle" ∧ yX6_goOnBy.cls ≠ "java/lang/invoke/VarHandle" ∧ (parseMethodDescriptor yX6_goOnBy.desc).map (fun d => d.parameters.length) = some 1 := by decide +kernel
theorem hd_X6_goOnBy : yX6_goOnBy.cls = RX6 ∧ yX6_goOnBy.cls ≠ "java/lang/invoke/MethodHandle" ∧ yX6_goOnBy.cls ≠ "java/lang/invoke/VarHandle" ∧ (parseMethodDescriptor yX6_goOnBy.desc).map (fun d => d.parameters.length) = some 1 := ⟨rfl, hd_X6_goOnByS⟩
set_option maxHeartbeats 4000000 in
set_option maxRecDepth 100000 in
theorem c_X6_goOnBy (V : ga_V) (a : Nat → Nat) (x_length : Int32) (x_classes : Nat → Int32) (x_line : Nat → Int32) (p1 : Int32) (K : Int32 → (Nat → Int32) → (Nat → Int32) → Prop) (h : wp_X6_goOnBy x_length x_classes x_line p1 K) : ga_C V yX6_goOnBy wsX6_goOnBy rm_X6_goOnBy [.ref (a 0), .int p1] [(a 0, .inr (6, [.ref (a 1), .ref (a 2), .ref (a 3), .int x_length])), (a 1, .inl (V.2 0, 26, .inl x_classes)), (a 3, .inl (V.2 0, 30, .inl x_line))] 0 0 (ga_Fv (fun (u : Int32 × (Nat → Int32) × (Nat → Int32)) => [(a 0, .inr (6, [.ref (a 1), .ref (a 2), .ref (a 3), .int u.1])), (a 1, .inl (V.2 0, 26, .inl u.2.1)), (a 3, .inl (V.2 0, 30, .inl u.2.2))]) (fun u => K u.1 u.2.1 u.2.2)) := by
  refine ga_met (cc := cX6_goOnBy) (maxL := 4) (rt := none) (by decide) rfl [(0, .ref (a 0)), (1, .int p1)] rfl (Nat.le_of_ble_eq_true rfl) ?_
  intro G hR hE
  have hinX6 : ∀ w ∈ u_ws RX6 TX6 4, w ∈ wsX6_goOnBy := by decide +kernel
  have f21 : Cond.fieldLink RX6 21 "BoundaryRules$Stock" "length" "I" ∈ wsX6_goOnBy := by decide +kernel
  unfold wp_X6_goOnBy at h
  refine ga_iload_n hR (pc := 0) 1 rfl rfl dX6_goOnBy_0 ?_
  refine ga_bipush hR (pc := 1) (v := nI 8) (by decide) dX6_goOnBy_1 ?_
  refine ga_idiv hR (pc := 3) (by decide) dX6_goOnBy_3 ?_
  refine ga_bipush hR (pc := 4) (v := nI 26) (by decide) dX6_goOnBy_4 ?_
  refine ga_irem hR (pc := 6) (by decide) dX6_goOnBy_6 ?_
  refine ga_topi (fun v2_1 ev2_1 => ?_)
  replace h := h v2_1 ev2_1
  refine ga_istore_n hR (pc := 7) (lv' := [(2, .int v2_1), (0, .ref (a 0)), (1, .int p1)]) rfl (by decide) rfl dX6_goOnBy_7 ?_
  refine ga_iload_n hR (pc := 8) 2 rfl rfl dX6_goOnBy_8 ?_
  refine ga_sipush hR (pc := 9) (v := nI 256) (by decide) dX6_goOnBy_9 ?_
  refine ga_idiv hR (pc := 12) (by decide) dX6_goOnBy_12 ?_
  refine ga_topi (fun v3_2 ev3_2 => ?_)
  replace h := h v3_2 ev3_2
  refine ga_istore_n hR (pc := 13) (lv' := [(3, .int v3_2), (2, .int v2_1), (0, .ref (a 0)), (1, .int p1)]) rfl (by decide) rfl dX6_goOnBy_13 ?_
  refine ga_iload_n hR (pc := 14) 3 rfl rfl dX6_goOnBy_14 ?_
  refine ga_iconst hR (pc := 15) (v := nI 4) (by decide) dX6_goOnBy_15 ?_
  refine ga_irem hR (pc := 16) (by decide) dX6_goOnBy_16 ?_
  refine ga_topi (fun sw_3 esw_3 => ?_)
  replace h := h sw_3 esw_3
  rcases ga_em (sw_3 = (nI 2)) with q17_0 | q17_0
  · replace h := h.1 q17_0
    refine ga_look hR (pc := 17) 44 (by decide) (off := 27) (by rw [q17_0]; rfl) (by decide) dX6_goOnBy_17 ?_
    refine ga_aload_n hR (pc := 44) 2 rfl rfl dX6_goOnBy_44 ?_
    refine ga_get hR (pc := 45) 0 rfl rfl hinX6 3 (by decide) f21 rfl dX6_goOnBy_45 ?_
    refine ga_if_le hR (pc := 48) 89 (by decide) dX6_goOnBy_48 (fun c48 => ?_) (fun c48 => ?_)
    · replace h := h.1 c48
      exact ga_vret hE dX6_goOnBy_89 (ga_rv (x_length, x_classes, x_line) rfl h)
    · replace h := h.2 c48
      refine ga_aload_n hR (pc := 51) 2 rfl rfl dX6_goOnBy_51 ?_
      refine ga_iload_n hR (pc := 52) 0 rfl rfl dX6_goOnBy_52 ?_
      refine ga_aload_n hR (pc := 53) 2 rfl rfl dX6_goOnBy_53 ?_
      refine ga_get hR (pc := 54) 0 rfl rfl hinX6 3 (by decide) f21 rfl dX6_goOnBy_54 ?_
      refine ga_irem hR (pc := 57) h.1 dX6_goOnBy_57 ?_
      replace h := h.2
      refine ga_callV hR (pc := 58) (As := [.int (v3_2 - v3_2 / x_length * x_length)]) (rest := []) (st0 := [.int (v3_2 - v3_2 / x_length * x_length), .ref (a 0)]) (b := (a 0)) 1 (c_X6_takeOut V a x_length x_line (v3_2 - v3_2 / x_length * x_length) _ h) (ga_same_v fun _ => rfl) gX6_goOnBy_X6_takeOut rfl rfl rfl hd_X6_takeOut ⟨Nat.le_of_ble_eq_true rfl, Nat.le_of_ble_eq_true rfl⟩ rfl rfl (Nat.le_of_ble_eq_true rfl) ⟨Nat.zero_le _, Nat.zero_le _⟩ [0, 2] rfl rfl 0 rfl rfl dX6_goOnBy_58 ?_
      rintro _ _ ⟨⟨x_length_4, x_line_5⟩, rfl, rfl, h⟩
      refine ga_to [(a 0, .inr (6, [.ref (a 1), .ref (a 2), .ref (a 3), .int x_length_4])), (a 1, .inl (V.2 0, 26, .inl x_classes)), (a 3, .inl (V.2 0, 30, .inl x_line_5))] [] rfl rfl ?_
      try dsimp only at h
      refine ga_goto hR (pc := 61) 89 (by decide) dX6_goOnBy_61 ?_
      exact ga_vret hE dX6_goOnBy_89 (ga_rv (x_length_4, x_classes, x_line_5) rfl h)
  · replace h := h.2 q17_0
    rcases ga_em (sw_3 = (nI 3)) with q17_1 | q17_1
    · replace h := h.1 q17_1
      refine ga_look hR (pc := 17) 64 (by decide) (off := 47) (by rw [q17_1]; rfl) (by decide) dX6_goOnBy_17 ?_
      refine ga_aload_n hR (pc := 64) 2 rfl rfl dX6_goOnBy_64 ?_
      refine ga_iload_n hR (pc := 65) 1 rfl rfl dX6_goOnBy_65 ?_
      refine ga_iload_n hR (pc := 66) 0 rfl rfl dX6_goOnBy_66 ?_
      refine ga_bipush hR (pc := 67) (v := nI 6) (by decide) dX6_goOnBy_67 ?_
      refine ga_irem hR (pc := 69) (by decide) dX6_goOnBy_69 ?_
      refine ga_callV hR (pc := 70) (As := [.int v2_1, .int (v3_2 - v3_2 / (nI 6) * (nI 6))]) (rest := []) (st0 := [.int (v3_2 - v3_2 / (nI 6) * (nI 6)), .int v2_1, .ref (a 0)]) (b := (a 0)) 2 (c_X6_setClass V a x_length x_classes v2_1 (v3_2 - v3_2 / (nI 6) * (nI 6)) _ h) (ga_same_v fun _ => rfl) gX6_goOnBy_X6_setClass rfl rfl rfl hd_X6_setClass ⟨Nat.le_of_ble_eq_true rfl, Nat.le_of_ble_eq_true rfl⟩ rfl rfl (Nat.le_of_ble_eq_true rfl) ⟨Nat.zero_le _, Nat.zero_le _⟩ [0, 1] rfl rfl 0 rfl rfl dX6_goOnBy_70 ?_
      rintro _ _ ⟨x_classes_6, rfl, rfl, h⟩
      refine ga_to [(a 0, .inr (6, [.ref (a 1), .ref (a 2), .ref (a 3), .int x_length])), (a 1, .inl (V.2 0, 26, .inl x_classes_6)), (a 3, .inl (V.2 0, 30, .inl x_line))] [] rfl rfl ?_
      try dsimp only at h
      refine ga_goto hR (pc := 73) 89 (by decide) dX6_goOnBy_73 ?_
      exact ga_vret hE dX6_goOnBy_89 (ga_rv (x_length, x_classes_6, x_line) rfl h)
    · replace h := h.2 q17_1
      refine ga_look hR (pc := 17) 76 (by decide) (off := 59) (by simp only [List.toList_toArray]; rw [lv_osw q17_0 (by decide : Int32.toInt (nI 2) = 2), lv_osw q17_1 (by decide : Int32.toInt (nI 3) = 3)]; rfl) (by decide) dX6_goOnBy_17 ?_
      refine ga_aload_n hR (pc := 76) 2 rfl rfl dX6_goOnBy_76 ?_
      refine ga_iload_n hR (pc := 77) 0 rfl rfl dX6_goOnBy_77 ?_
      refine ga_aload_n hR (pc := 78) 2 rfl rfl dX6_goOnBy_78 ?_
      refine ga_get hR (pc := 79) 0 rfl rfl hinX6 3 (by decide) f21 rfl dX6_goOnBy_79 ?_
      refine ga_iconst hR (pc := 82) (v := nI 1) (by decide) dX6_goOnBy_82 ?_
      refine ga_iadd hR (pc := 83) dX6_goOnBy_83 ?_
      refine ga_irem hR (pc := 84) h.1 dX6_goOnBy_84 ?_
      replace h := h.2
      refine ga_iload_n hR (pc := 85) 1 rfl rfl dX6_goOnBy_85 ?_
      refine ga_callV hR (pc := 86) (As := [.int (v3_2 - v3_2 / (x_length + (nI 1)) * (x_length + (nI 1))), .int v2_1]) (rest := []) (st0 := [.int v2_1, .int (v3_2 - v3_2 / (x_length + (nI 1)) * (x_length + (nI 1))), .ref (a 0)]) (b := (a 0)) 2 (c_X6_putIn V a x_length x_line (v3_2 - v3_2 / (x_length + (nI 1)) * (x_length + (nI 1))) v2_1 _ h) (ga_same_v fun _ => rfl) gX6_goOnBy_X6_putIn rfl rfl rfl hd_X6_putIn ⟨Nat.le_of_ble_eq_true rfl, Nat.le_of_ble_eq_true rfl⟩ rfl rfl (Nat.le_of_ble_eq_true rfl) ⟨Nat.zero_le _, Nat.zero_le _⟩ [0, 2] rfl rfl 0 rfl rfl dX6_goOnBy_86 ?_
      rintro _ _ ⟨⟨x_length_7, x_line_8⟩, rfl, rfl, h⟩
      refine ga_to [(a 0, .inr (6, [.ref (a 1), .ref (a 2), .ref (a 3), .int x_length_7])), (a 1, .inl (V.2 0, 26, .inl x_classes)), (a 3, .inl (V.2 0, 30, .inl x_line_8))] [] rfl rfl ?_
      try dsimp only at h
      exact ga_vret hE dX6_goOnBy_89 (ga_rv (x_length_7, x_classes, x_line_8) rfl h)

def rm_X3_longest : Room := { frames := 2, cells := 0, slots := 0, locals := 43 }
theorem hd_X3_longestS : yX3_longest.cls ≠ "java/lang/invoke/MethodHandle" ∧ yX3_longest.cls ≠ "java/lang/invoke/VarHandle" ∧ (parseMethodDescriptor yX3_longest.desc).map (fun d => d.parameters.length) = some 0 := by decide +kernel
theorem hd_X3_longest : yX3_longest.cls = RX3 ∧ yX3_longest.cls ≠ "java/lang/invoke/MethodHandle" ∧ yX3_longest.cls ≠ "java/lang/invoke/VarHandle" ∧ (parseMethodDescriptor yX3_longest.desc).map (fun d => d.parameters.length) = some 0 := ⟨rfl, hd_X3_longestS⟩
set_option maxHeartbeats 4000000 in
set_option maxRecDepth 100000 in
theorem c_X3_longest (V : ga_V) (a : Nat → Nat) (x_length : Int32) (x_bounds : Int32) (K : Int32 → Prop) (h : wp_X3_longest x_length x_bounds K) : ga_C V yX3_longest wsX3_longest rm_X3_longest [.ref (a 0)] [(a 0, .inr (3, [.ref (a 1), .int x_length, .int x_bounds]))] 0 0 (ga_Fi (fun (u : Unit) => [(a 0, .inr (3, [.ref (a 1), .int x_length, .int x_bounds]))]) (fun r u => K r)) := by
  refine ga_met (cc := cX3_longest) (maxL := 5) (rt := (some .int)) (by decide) rfl [(0, .ref (a 0))] rfl (Nat.le_of_ble_eq_true rfl) ?_
  intro G hR hE
  unfold wp_X3_longest at h
  refine ga_iconst hR (pc := 0) (v := nI 0) (by decide) dX3_longest_0 ?_
  refine ga_istore_n hR (pc := 1) (lv' := [(1, .int (nI 0)), (0, .ref (a 0))]) rfl (by decide) rfl dX3_longest_1 ?_
  refine ga_iconst hR (pc := 2) (v := nI 0) (by decide) dX3_longest_2 ?_
  refine ga_istore_n hR (pc := 3) (lv' := [(2, .int (nI 0)), (1, .int (nI 0)), (0, .ref (a 0))]) rfl (by decide) rfl dX3_longest_3 ?_
  refine ga_iconst hR (pc := 4) (v := nI 0) (by decide) dX3_longest_4 ?_
  refine ga_istore_n hR (pc := 5) (lv' := [(3, .int (nI 0)), (2, .int (nI 0)), (1, .int (nI 0)), (0, .ref (a 0))]) rfl (by decide) rfl dX3_longest_5 ?_
  have hJ := h (fun (v1_1 : Int32) => G 0 0 [(a 0, .inr (3, [.ref (a 1), .int x_length, .int x_bounds]))] 39 [(1, .int v1_1)] [])
  refine ga_bind hJ ?_ ?_
  · intro v1_1 h
    show G 0 0 [(a 0, .inr (3, [.ref (a 1), .int x_length, .int x_bounds]))] 39 [(1, .int v1_1)] []
    refine ga_iload_n hR (pc := 39) 0 rfl rfl dX3_longest_39 ?_
    exact ga_iret hE dX3_longest_40 rfl (ga_ri () rfl h)
  · intro h
    obtain ⟨n, h⟩ := h
    have L6 : ∀ (n : Nat) (v1_7 : Int32) (v2_8 : Int32) (v3_9 : Int32), lp_X3_longest_6 x_length x_bounds (fun (v1_1 : Int32) => G 0 0 [(a 0, .inr (3, [.ref (a 1), .int x_length, .int x_bounds]))] 39 [(1, .int v1_1)] []) n v1_7 v2_8 v3_9 → G 0 0 [(a 0, .inr (3, [.ref (a 1), .int x_length, .int x_bounds]))] 6 [(0, .ref (a 0)), (1, .int v1_7), (2, .int v2_8), (3, .int v3_9)] [] := by
      intro n
      induction n with
      | zero => exact fun _ _ _ h => False.elim h
      | succ n ih =>
        intro v1_7 v2_8 v3_9 h
        rw [lp_X3_longest_6] at h
        refine ga_iload_n hR (pc := 6) 3 rfl rfl dX3_longest_6 ?_
        refine ga_aload_n hR (pc := 7) 0 rfl rfl dX3_longest_7 ?_
        refine ga_callV hR (pc := 8) (As := []) (rest := [.int v3_9]) (st0 := [.ref (a 0), .int v3_9]) (b := (a 0)) 0 (c_X3_number V a x_length x_bounds _ h) (ga_same_i fun _ => rfl) gX3_longest_X3_number rfl rfl rfl hd_X3_number ⟨Nat.le_of_ble_eq_true rfl, Nat.le_of_ble_eq_true rfl⟩ rfl rfl (Nat.le_of_ble_eq_true rfl) ⟨Nat.zero_le _, Nat.zero_le _⟩ [0] rfl rfl 0 rfl rfl dX3_longest_8 ?_
        rintro _ _ ⟨r_10, ⟨⟩, rfl, rfl, h⟩
        refine ga_to [(a 0, .inr (3, [.ref (a 1), .int x_length, .int x_bounds]))] [.int r_10, .int v3_9] rfl rfl ?_
        try dsimp only at h
        refine ga_icmp_ge hR (pc := 11) 39 (by decide) dX3_longest_11 (fun c11 => ?_) (fun c11 => ?_)
        · replace h := h.1 c11
          exact ga_lv hR [1] rfl h
        · replace h := h.2 c11
          refine ga_aload_n hR (pc := 14) 0 rfl rfl dX3_longest_14 ?_
          refine ga_iload_n hR (pc := 15) 2 rfl rfl dX3_longest_15 ?_
          refine ga_callV hR (pc := 16) (As := [.int v2_8]) (rest := []) (st0 := [.int v2_8, .ref (a 0)]) (b := (a 0)) 1 (c_X3_boundBehind V a x_length x_bounds v2_8 _ h) (ga_same_i fun _ => rfl) gX3_longest_X3_boundBehind rfl rfl rfl hd_X3_boundBehind ⟨Nat.le_of_ble_eq_true rfl, Nat.le_of_ble_eq_true rfl⟩ rfl rfl (Nat.le_of_ble_eq_true rfl) ⟨Nat.zero_le _, Nat.zero_le _⟩ [0] rfl rfl 0 rfl rfl dX3_longest_16 ?_
          rintro _ _ ⟨r_11, ⟨⟩, rfl, rfl, h⟩
          refine ga_to [(a 0, .inr (3, [.ref (a 1), .int x_length, .int x_bounds]))] [.int r_11] rfl rfl ?_
          try dsimp only at h
          refine ga_istore hR (pc := 19) (lv' := [(4, .int r_11), (0, .ref (a 0)), (1, .int v1_7), (2, .int v2_8), (3, .int v3_9)]) (by decide) rfl dX3_longest_19 ?_
          refine ga_iload_n hR (pc := 21) 2 rfl rfl dX3_longest_21 ?_
          refine ga_iload hR (pc := 22) 0 rfl dX3_longest_22 ?_
          refine ga_iload_n hR (pc := 24) 3 rfl rfl dX3_longest_24 ?_
          refine ga_isub hR (pc := 25) dX3_longest_25 ?_
          refine ga_mmax hR (pc := 26) (by decide +kernel) (by decide +kernel) (by decide +kernel) (by decide +kernel) (Nat.le_of_ble_eq_true rfl) (Nat.le_of_ble_eq_true rfl) (Nat.zero_le _) (Nat.zero_le _) dX3_longest_26 ?_
          refine ga_topi (fun v1_12 ev1_12 => ?_)
          replace h := h v1_12 ev1_12
          refine ga_istore_n hR (pc := 29) (lv' := [(1, .int v1_12), (4, .int r_11), (0, .ref (a 0)), (2, .int v2_8), (3, .int v3_9)]) rfl (by decide) rfl dX3_longest_29 ?_
          refine ga_iload hR (pc := 30) 1 rfl dX3_longest_30 ?_
          refine ga_istore_n hR (pc := 32) (lv' := [(2, .int r_11), (1, .int v1_12), (4, .int r_11), (0, .ref (a 0)), (3, .int v3_9)]) rfl (by decide) rfl dX3_longest_32 ?_
          obtain ⟨v3_13, ev3_13⟩ : ∃ v : Int32, v = v3_9 + (nI 1) := ⟨_, rfl⟩
          replace h := h v3_13 ev3_13
          refine ga_iinc hR (pc := 33) (lv' := [(3, .int v3_13), (2, .int r_11), (1, .int v1_12), (4, .int r_11), (0, .ref (a 0))]) 4 (by decide) rfl ev3_13 (by decide) rfl dX3_longest_33 ?_
          refine ga_goto hR (pc := 36) 6 (by decide) dX3_longest_36 ?_
          exact ga_lv hR [4, 2, 1, 0] rfl (ih _ _ _ h)
    exact ga_lv hR [3, 2, 1, 0] rfl (L6 n _ _ _ h)

def rm_X9_keptAt : Room := { frames := 0, cells := 0, slots := 0, locals := 0 }
theorem hd_X9_keptAtS : yX9_keptAt.cls ≠ "java/lang/invoke/MethodHandle" ∧ yX9_keptAt.cls ≠ "java/lang/invoke/VarHandle" ∧ (parseMethodDescriptor yX9_keptAt.desc).map (fun d => d.parameters.length) = some 1 := by decide +kernel
theorem hd_X9_keptAt : yX9_keptAt.cls = RX9 ∧ yX9_keptAt.cls ≠ "java/lang/invoke/MethodHandle" ∧ yX9_keptAt.cls ≠ "java/lang/invoke/VarHandle" ∧ (parseMethodDescriptor yX9_keptAt.desc).map (fun d => d.parameters.length) = some 1 := ⟨rfl, hd_X9_keptAtS⟩
set_option maxHeartbeats 4000000 in
set_option maxRecDepth 100000 in
theorem c_X9_keptAt (V : ga_V) (a : Nat → Nat) (x_keptNumber : Int32) (p1 : Int32) (K : Nat → Prop) (h : wp_X9_keptAt p1 K) : ga_C V yX9_keptAt wsX9_keptAt rm_X9_keptAt [.ref (a 0), .int p1] [(a 0, .inr (9, [.ref (a 1), .ref (a 3), .ref (a 13), .ref (a 17), .ref (a 21), .ref (a 25), .ref (a 29), .ref (a 32), .ref (a 34), .ref (a 46), .ref (a 50), .int x_keptNumber]))] 0 0 (ga_Fr (fun (u : Unit) => [(a 0, .inr (9, [.ref (a 1), .ref (a 3), .ref (a 13), .ref (a 17), .ref (a 21), .ref (a 25), .ref (a 29), .ref (a 32), .ref (a 34), .ref (a 46), .ref (a 50), .int x_keptNumber]))]) (fun r u => (r = a 17 ∧ K 0) ∨ (r = a 21 ∧ K 1))) := by
  refine ga_met (cc := cX9_keptAt) (maxL := 2) (rt := (some (.object "BoundaryRules$Stock"))) (by decide) rfl [(0, .ref (a 0)), (1, .int p1)] rfl (Nat.le_of_ble_eq_true rfl) ?_
  intro G hR hE
  have hinX9 : ∀ w ∈ u_ws RX9 TX9 12, w ∈ wsX9_keptAt := by decide +kernel
  have f33 : Cond.fieldLink RX9 33 "BoundaryRules" "upperKept" "LBoundaryRules$Stock;" ∈ wsX9_keptAt := by decide +kernel
  have f30 : Cond.fieldLink RX9 30 "BoundaryRules" "lowerKept" "LBoundaryRules$Stock;" ∈ wsX9_keptAt := by decide +kernel
  unfold wp_X9_keptAt at h
  refine ga_iload_n hR (pc := 0) 1 rfl rfl dX9_keptAt_0 ?_
  refine ga_if_ne hR (pc := 1) 11 (by decide) dX9_keptAt_1 (fun c1 => ?_) (fun c1 => ?_)
  · replace h := h.1 c1
    refine ga_aload_n hR (pc := 11) 0 rfl rfl dX9_keptAt_11 ?_
    refine ga_get hR (pc := 12) 0 rfl rfl hinX9 4 (by decide) f33 rfl dX9_keptAt_12 ?_
    exact ga_aret hE dX9_keptAt_15 (ga_rr () rfl (Or.inr (⟨rfl, h⟩)))
  · replace h := h.2 c1
    refine ga_aload_n hR (pc := 4) 0 rfl rfl dX9_keptAt_4 ?_
    refine ga_get hR (pc := 5) 0 rfl rfl hinX9 3 (by decide) f30 rfl dX9_keptAt_5 ?_
    refine ga_goto hR (pc := 8) 15 (by decide) dX9_keptAt_8 ?_
    exact ga_aret hE dX9_keptAt_15 (ga_rr () rfl (Or.inl ⟨rfl, h⟩))
