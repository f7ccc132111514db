def rm_X0_forget : Room := { frames := 0, cells := 0, slots := 0, locals := 0 }
theorem hd_X0_forgetS : yX0_forget.cls ≠ "java/lang/invoke/MethodHandle" ∧ yX0_forget.cls ≠ "java/lang/invoke/VarHandle" ∧ (parseMethodDescriptor yX0_forget.desc).map (fun d => d.parameters.length) = some 0 := by decide +kernel
theorem hd_X0_forget : yX0_forget.cls = RX0 ∧ yX0_forget.cls ≠ "java/lang/invoke/MethodHandle" ∧ yX0_forget.cls ≠ "java/lang/invoke/VarHandle" ∧ (parseMethodDescriptor yX0_forget.desc).map (fun d => d.parameters.length) = some 0 := ⟨rfl, hd_X0_forgetS⟩
set_option maxHeartbeats 4000000 in
set_option maxRecDepth 100000 in
theorem c_X0_forget (V : ga_V) (a : Nat → Nat) (x_number : Int32) (K : Int32 → Prop) (h : wp_X0_forget x_number K) : ga_C V yX0_forget wsX0_forget rm_X0_forget [.ref (a 0)] [(a 0, .inr (0, [.ref (a 1), .ref (a 2), .ref (a 3), .int x_number]))] 0 0 (ga_Fv (fun (u : Int32) => [(a 0, .inr (0, [.ref (a 1), .ref (a 2), .ref (a 3), .int u]))]) (fun u => K u)) := by
  refine ga_met (cc := cX0_forget) (maxL := 1) (rt := none) (by decide) rfl [(0, .ref (a 0))] rfl (Nat.le_of_ble_eq_true rfl) ?_
  intro G hR hE
  have hinX0 : ∀ w ∈ u_ws RX0 TX0 4, w ∈ wsX0_forget := by decide +kernel
  have f21 : Cond.fieldLink RX0 21 "BoundaryRules$Acts" "number" "I" ∈ wsX0_forget := by decide +kernel
  unfold wp_X0_forget at h
  refine ga_aload_n hR (pc := 0) 0 rfl rfl dX0_forget_0 ?_
  refine ga_iconst hR (pc := 1) (v := nI 0) (by decide) dX0_forget_1 ?_
  refine ga_putf hR (pc := 2) (ws' := [(a 0, .inr (0, [.ref (a 1), .ref (a 2), .ref (a 3), .int (nI 0)]))]) 0 rfl rfl hinX0 3 (by decide) f21 tyX0_ok nmX0 rfl rfl rfl (Nat.le_of_ble_eq_true rfl) rfl dX0_forget_2 ?_
  exact ga_vret hE dX0_forget_5 (ga_rv (nI 0) rfl h)

def rm_X4_placeNumber : Room := { frames := 0, cells := 0, slots := 0, locals := 0 }
theorem hd_X4_placeNumberS : yX4_placeNumber.cls ≠ "java/lang/invoke/MethodHandle" ∧ yX4_placeNumber.cls ≠ "java/lang/invoke/VarHandle" ∧ (parseMethodDescriptor yX4_placeNumber.desc).map (fun d => d.parameters.length) = some 0 := by decide +kernel
theorem hd_X4_placeNumber : yX4_placeNumber.cls = RX4 ∧ yX4_placeNumber.cls ≠ "java/lang/invoke/MethodHandle" ∧ yX4_placeNumber.cls ≠ "java/lang/invoke/VarHandle" ∧ (parseMethodDescriptor yX4_placeNumber.desc).map (fun d => d.parameters.length) = some 0 := ⟨rfl, hd_X4_placeNumberS⟩
set_option maxHeartbeats 4000000 in
set_option maxRecDepth 100000 in
theorem c_X4_placeNumber (V : ga_V) (a : Nat → Nat) (x_number : Int32) (x_placeNumber : Int32) (K : Int32 → Prop) (h : wp_X4_placeNumber x_placeNumber K) : ga_C V yX4_placeNumber wsX4_placeNumber rm_X4_placeNumber [.ref (a 0)] [(a 0, .inr (4, [.ref (a 1), .ref (a 2), .ref (a 3), .ref (a 4), .ref (a 5), .ref (a 6), .int x_number, .int x_placeNumber]))] 0 0 (ga_Fi (fun (u : Unit) => [(a 0, .inr (4, [.ref (a 1), .ref (a 2), .ref (a 3), .ref (a 4), .ref (a 5), .ref (a 6), .int x_number, .int x_placeNumber]))]) (fun r u => K r)) := by
  refine ga_met (cc := cX4_placeNumber) (maxL := 1) (rt := (some .int)) (by decide) rfl [(0, .ref (a 0))] rfl (Nat.le_of_ble_eq_true rfl) ?_
  intro G hR hE
  have hinX4 : ∀ w ∈ u_ws RX4 TX4 8, w ∈ wsX4_placeNumber := by decide +kernel
  have f38 : Cond.fieldLink RX4 38 "BoundaryRules$Rules" "placeNumber" "I" ∈ wsX4_placeNumber := by decide +kernel
  unfold wp_X4_placeNumber at h
  refine ga_aload_n hR (pc := 0) 0 rfl rfl dX4_placeNumber_0 ?_
  refine ga_get hR (pc := 1) 0 rfl rfl hinX4 7 (by decide) f38 rfl dX4_placeNumber_1 ?_
  exact ga_iret hE dX4_placeNumber_4 rfl (ga_ri () rfl h)

def rm_X4_hasPlace : Room := { frames := 0, cells := 0, slots := 0, locals := 0 }
theorem hd_X4_hasPlaceS : yX4_hasPlace.cls ≠ "java/lang/invoke/MethodHandle" ∧ yX4_hasPlace.cls ≠ "java/lang/invoke/VarHandle" ∧ (parseMethodDescriptor yX4_hasPlace.desc).map (fun d => d.parameters.length) = some 1 := by decide +kernel
theorem hd_X4_hasPlace : yX4_hasPlace.cls = RX4 ∧ yX4_hasPlace.cls ≠ "java/lang/invoke/MethodHandle" ∧ yX4_hasPlace.cls ≠ "java/lang/invoke/VarHandle" ∧ (parseMethodDescriptor yX4_hasPlace.desc).map (fun d => d.parameters.length) = some 1 := ⟨rfl, hd_X4_hasPlaceS⟩
set_option maxHeartbeats 4000000 in
set_option maxRecDepth 100000 in
theorem c_X4_hasPlace (V : ga_V) (a : Nat → Nat) (x_number : Int32) (x_placeNumber : Int32) (p1 : Int32) (K : Int32 → Prop) (h : wp_X4_hasPlace x_placeNumber p1 K) : ga_C V yX4_hasPlace wsX4_hasPlace rm_X4_hasPlace [.ref (a 0), .int p1] [(a 0, .inr (4, [.ref (a 1), .ref (a 2), .ref (a 3), .ref (a 4), .ref (a 5), .ref (a 6), .int x_number, .int x_placeNumber]))] 0 0 (ga_Fi (fun (u : Unit) => [(a 0, .inr (4, [.ref (a 1), .ref (a 2), .ref (a 3), .ref (a 4), .ref (a 5), .ref (a 6), .int x_number, .int x_placeNumber]))]) (fun r u => K r)) := by
  refine ga_met (cc := cX4_hasPlace) (maxL := 2) (rt := (some .boolean)) (by decide) rfl [(0, .ref (a 0)), (1, .int p1)] rfl (Nat.le_of_ble_eq_true rfl) ?_
  intro G hR hE
  have hinX4 : ∀ w ∈ u_ws RX4 TX4 8, w ∈ wsX4_hasPlace := by decide +kernel
  have f38 : Cond.fieldLink RX4 38 "BoundaryRules$Rules" "placeNumber" "I" ∈ wsX4_hasPlace := by decide +kernel
  unfold wp_X4_hasPlace at h
  refine ga_iload_n hR (pc := 0) 1 rfl rfl dX4_hasPlace_0 ?_
  refine ga_if_lt hR (pc := 1) 16 (by decide) dX4_hasPlace_1 (fun c1 => ?_) (fun c1 => ?_)
  · replace h := h.1 c1
    refine ga_iconst hR (pc := 16) (v := nI 0) (by decide) dX4_hasPlace_16 ?_
    exact ga_iret hE dX4_hasPlace_17 (by decide) (ga_ri () rfl h)
  · replace h := h.2 c1
    refine ga_iload_n hR (pc := 4) 1 rfl rfl dX4_hasPlace_4 ?_
    refine ga_aload_n hR (pc := 5) 0 rfl rfl dX4_hasPlace_5 ?_
    refine ga_get hR (pc := 6) 0 rfl rfl hinX4 7 (by decide) f38 rfl dX4_hasPlace_6 ?_
    refine ga_icmp_ge hR (pc := 9) 16 (by decide) dX4_hasPlace_9 (fun c9 => ?_) (fun c9 => ?_)
    · replace h := h.1 c9
      refine ga_iconst hR (pc := 16) (v := nI 0) (by decide) dX4_hasPlace_16 ?_
      exact ga_iret hE dX4_hasPlace_17 (by decide) (ga_ri () rfl h)
    · replace h := h.2 c9
      refine ga_iconst hR (pc := 12) (v := nI 1) (by decide) dX4_hasPlace_12 ?_
      refine ga_goto hR (pc := 13) 17 (by decide) dX4_hasPlace_13 ?_
      exact ga_iret hE dX4_hasPlace_17 (by decide) (ga_ri () rfl h)

def rm_X4_takenAt : Room := { frames := 1, cells := 0, slots := 0, locals := 21 }
theorem hd_X4_takenAtS : yX4_takenAt.cls ≠ "java/lang/invoke/MethodHandle" ∧ yX4_takenAt.cls ≠ "java/lang/invoke/VarHandle" ∧ (parseMethodDescriptor yX4_takenAt.desc).map (fun d => d.parameters.length) = some 1 := by decide +kernel
theorem hd_X4_takenAt : yX4_takenAt.cls = RX4 ∧ yX4_takenAt.cls ≠ "java/lang/invoke/MethodHandle" ∧ yX4_takenAt.cls ≠ "java/lang/invoke/VarHandle" ∧ (parseMethodDescriptor yX4_takenAt.desc).map (fun d => d.parameters.length) = some 1 := ⟨rfl, hd_X4_takenAtS⟩
set_option maxHeartbeats 4000000 in
set_option maxRecDepth 100000 in
theorem c_X4_takenAt (V : ga_V) (a : Nat → Nat) (x_number : Int32) (x_placeNumber : Int32) (x_taken : Nat → Int32) (p1 : Int32) (K : Int32 → Prop) (h : wp_X4_takenAt x_placeNumber x_taken p1 K) : ga_C V yX4_takenAt wsX4_takenAt rm_X4_takenAt [.ref (a 0), .int p1] [(a 0, .inr (4, [.ref (a 1), .ref (a 2), .ref (a 3), .ref (a 4), .ref (a 5), .ref (a 6), .int x_number, .int x_placeNumber])), (a 4, .inl (V.2 0, 10, .inl x_taken))] 0 0 (ga_Fi (fun (u : Unit) => [(a 0, .inr (4, [.ref (a 1), .ref (a 2), .ref (a 3), .ref (a 4), .ref (a 5), .ref (a 6), .int x_number, .int x_placeNumber])), (a 4, .inl (V.2 0, 10, .inl x_taken))]) (fun r u => K r)) := by
  refine ga_met (cc := cX4_takenAt) (maxL := 2) (rt := (some .int)) (by decide) rfl [(0, .ref (a 0)), (1, .int p1)] rfl (Nat.le_of_ble_eq_true rfl) ?_
  intro G hR hE
  have hinX4 : ∀ w ∈ u_ws RX4 TX4 8, w ∈ wsX4_takenAt := by decide +kernel
  have f21 : Cond.fieldLink RX4 21 "BoundaryRules$Rules" "taken" "[I" ∈ wsX4_takenAt := by decide +kernel
  unfold wp_X4_takenAt at h
  refine ga_aload_n hR (pc := 0) 0 rfl rfl dX4_takenAt_0 ?_
  refine ga_iload_n hR (pc := 1) 1 rfl rfl dX4_takenAt_1 ?_
  refine ga_callV hR (pc := 2) (As := [.int p1]) (rest := []) (st0 := [.int p1, .ref (a 0)]) (b := (a 0)) 1 (c_X4_hasPlace V a x_number x_placeNumber p1 _ h) (ga_same_i fun _ => rfl) gX4_takenAt_X4_hasPlace rfl rfl rfl hd_X4_hasPlace ⟨Nat.le_of_ble_eq_true rfl, Nat.le_of_ble_eq_true rfl⟩ rfl rfl (Nat.le_of_ble_eq_true rfl) ⟨Nat.zero_le _, Nat.zero_le _⟩ [0] rfl rfl 0 rfl rfl dX4_takenAt_2 ?_
  rintro _ _ ⟨r_1, ⟨⟩, rfl, rfl, h⟩
  refine ga_to [(a 0, .inr (4, [.ref (a 1), .ref (a 2), .ref (a 3), .ref (a 4), .ref (a 5), .ref (a 6), .int x_number, .int x_placeNumber])), (a 4, .inl (V.2 0, 10, .inl x_taken))] [.int r_1] rfl rfl ?_
  try dsimp only at h
  refine ga_if_eq hR (pc := 5) 17 (by decide) dX4_takenAt_5 (fun c5 => ?_) (fun c5 => ?_)
  · replace h := h.1 c5
    refine ga_bipush hR (pc := 17) (v := nI 6) (by decide) dX4_takenAt_17 ?_
    exact ga_iret hE dX4_takenAt_19 rfl (ga_ri () rfl h)
  · replace h := h.2 c5
    refine ga_aload_n hR (pc := 8) 0 rfl rfl dX4_takenAt_8 ?_
    refine ga_get hR (pc := 9) 0 rfl rfl hinX4 3 (by decide) f21 rfl dX4_takenAt_9 ?_
    refine ga_iload_n hR (pc := 12) 1 rfl rfl dX4_takenAt_12 ?_
    refine ga_iald hR (pc := 13) 1 rfl h.1 dX4_takenAt_13 ?_
    replace h := h.2
    refine ga_goto hR (pc := 14) 19 (by decide) dX4_takenAt_14 ?_
    exact ga_iret hE dX4_takenAt_19 rfl (ga_ri () rfl h)

def rm_X5_makeTakers : Room := { frames := 2, cells := 0, slots := 0, locals := 42 }
theorem hd_X5_makeTakersS : yX5_makeTakers.cls ≠ "java/lang/invoke/MethodHandle" ∧ yX5_makeTakers.cls ≠ "java/lang/invoke/VarHandle" ∧ (parseMethodDescriptor yX5_makeTakers.desc).map (fun d => d.parameters.length) = some 1 := by decide +kernel
theorem hd_X5_makeTakers : yX5_makeTakers.cls = RX5 ∧ yX5_makeTakers.cls ≠ "java/lang/invoke/MethodHandle" ∧ yX5_makeTakers.cls ≠ "java/lang/invoke/VarHandle" ∧ (parseMethodDescriptor yX5_makeTakers.desc).map (fun d => d.parameters.length) = some 1 := ⟨rfl, hd_X5_makeTakersS⟩
set_option maxHeartbeats 4000000 in
set_option maxRecDepth 100000 in
theorem c_X5_makeTakers (V : ga_V) (a : Nat → Nat) (b : Nat → Nat) (x_firsts : Int32) (x_loose : Int32) (y_number : Int32) (x_takers : Nat → Int32) (y_placeNumber : Int32) (y_taken : Nat → Int32) (K : (Nat → Int32) → Prop) (h : wp_X5_makeTakers x_takers y_placeNumber y_taken K) : ga_C V yX5_makeTakers wsX5_makeTakers rm_X5_makeTakers [.ref (a 0), .ref (b 0)] [(a 0, .inr (5, [.ref (a 1), .ref (a 2), .int x_firsts, .int x_loose])), (a 2, .inl (V.2 0, 6, .inl x_takers)), (b 0, .inr (4, [.ref (b 1), .ref (b 2), .ref (b 3), .ref (b 4), .ref (b 5), .ref (b 6), .int y_number, .int y_placeNumber])), (b 4, .inl (V.2 0, 10, .inl y_taken))] 0 0 (ga_Fv (fun (u : (Nat → Int32)) => [(a 0, .inr (5, [.ref (a 1), .ref (a 2), .int x_firsts, .int x_loose])), (a 2, .inl (V.2 0, 6, .inl u)), (b 0, .inr (4, [.ref (b 1), .ref (b 2), .ref (b 3), .ref (b 4), .ref (b 5), .ref (b 6), .int y_number, .int y_placeNumber])), (b 4, .inl (V.2 0, 10, .inl y_taken))]) (fun u => K u)) := by
  refine ga_met (cc := cX5_makeTakers) (maxL := 4) (rt := none) (by decide) rfl [(0, .ref (a 0)), (1, .ref (b 0))] rfl (Nat.le_of_ble_eq_true rfl) ?_
  intro G hR hE
  have hinX5 : ∀ w ∈ u_ws RX5 TX5 4, w ∈ wsX5_makeTakers := by decide +kernel
  have f15 : Cond.fieldLink RX5 15 "BoundaryRules$Steps" "takers" "[I" ∈ wsX5_makeTakers := by decide +kernel
  unfold wp_X5_makeTakers at h
  refine ga_aload_n hR (pc := 0) 0 rfl rfl dX5_makeTakers_0 ?_
  refine ga_get hR (pc := 1) 0 rfl rfl hinX5 1 (by decide) f15 rfl dX5_makeTakers_1 ?_
  refine ga_iconst hR (pc := 4) (v := nI 0) (by decide) dX5_makeTakers_4 ?_
  refine ga_callS hR (pc := 5) (As := [.ref (a 2), .int (nI 0)]) (rest := []) (st0 := [.int (nI 0), .ref (a 2)]) 2 (c_J7_fill_53178 V (fun k => a (k + 2)) 6 x_takers (nI 0) _ h) (ga_same_v fun _ => rfl) gX5_makeTakers_J7_fill_53178 rfl rfl rfl hd_J7_fill_53178S ⟨Nat.le_of_ble_eq_true rfl, Nat.le_of_ble_eq_true rfl⟩ rfl rfl (Nat.le_of_ble_eq_true rfl) ⟨Nat.zero_le _, Nat.zero_le _⟩ [1] rfl rfl dX5_makeTakers_5 ?_
  rintro _ _ ⟨x_takers_1, rfl, rfl, h⟩
  refine ga_to [(a 0, .inr (5, [.ref (a 1), .ref (a 2), .int x_firsts, .int x_loose])), (a 2, .inl (V.2 0, 6, .inl x_takers_1)), (b 0, .inr (4, [.ref (b 1), .ref (b 2), .ref (b 3), .ref (b 4), .ref (b 5), .ref (b 6), .int y_number, .int y_placeNumber])), (b 4, .inl (V.2 0, 10, .inl y_taken))] [] rfl rfl ?_
  try dsimp only at h
  refine ga_iconst hR (pc := 8) (v := nI 0) (by decide) dX5_makeTakers_8 ?_
  refine ga_istore_n hR (pc := 9) (lv' := [(2, .int (nI 0)), (0, .ref (a 0)), (1, .ref (b 0))]) rfl (by decide) rfl dX5_makeTakers_9 ?_
  have hJ := h (fun (x_takers_2 : Nat → Int32) => G 0 0 [(a 0, .inr (5, [.ref (a 1), .ref (a 2), .int x_firsts, .int x_loose])), (a 2, .inl (V.2 0, 6, .inl x_takers_2)), (b 0, .inr (4, [.ref (b 1), .ref (b 2), .ref (b 3), .ref (b 4), .ref (b 5), .ref (b 6), .int y_number, .int y_placeNumber])), (b 4, .inl (V.2 0, 10, .inl y_taken))] 69 [] [])
  refine ga_bind hJ ?_ ?_
  · intro x_takers_2 h
    show G 0 0 [(a 0, .inr (5, [.ref (a 1), .ref (a 2), .int x_firsts, .int x_loose])), (a 2, .inl (V.2 0, 6, .inl x_takers_2)), (b 0, .inr (4, [.ref (b 1), .ref (b 2), .ref (b 3), .ref (b 4), .ref (b 5), .ref (b 6), .int y_number, .int y_placeNumber])), (b 4, .inl (V.2 0, 10, .inl y_taken))] 69 [] []
    exact ga_vret hE dX5_makeTakers_69 (ga_rv x_takers_2 rfl h)
  · intro h
    obtain ⟨n, h⟩ := h
    have L10 : ∀ (n : Nat) (v2_24 : Int32) (x_takers_25 : Nat → Int32), lp_X5_makeTakers_10 y_placeNumber y_taken (fun (x_takers_2 : Nat → Int32) => G 0 0 [(a 0, .inr (5, [.ref (a 1), .ref (a 2), .int x_firsts, .int x_loose])), (a 2, .inl (V.2 0, 6, .inl x_takers_2)), (b 0, .inr (4, [.ref (b 1), .ref (b 2), .ref (b 3), .ref (b 4), .ref (b 5), .ref (b 6), .int y_number, .int y_placeNumber])), (b 4, .inl (V.2 0, 10, .inl y_taken))] 69 [] []) n v2_24 x_takers_25 → G 0 0 [(a 0, .inr (5, [.ref (a 1), .ref (a 2), .int x_firsts, .int x_loose])), (a 2, .inl (V.2 0, 6, .inl x_takers_25)), (b 0, .inr (4, [.ref (b 1), .ref (b 2), .ref (b 3), .ref (b 4), .ref (b 5), .ref (b 6), .int y_number, .int y_placeNumber])), (b 4, .inl (V.2 0, 10, .inl y_taken))] 10 [(0, .ref (a 0)), (1, .ref (b 0)), (2, .int v2_24)] [] := by
      intro n
      induction n with
      | zero => exact fun _ _ h => False.elim h
      | succ n ih =>
        intro v2_24 x_takers_25 h
        rw [lp_X5_makeTakers_10] at h
        refine ga_iload_n hR (pc := 10) 2 rfl rfl dX5_makeTakers_10 ?_
        refine ga_aload_n hR (pc := 11) 1 rfl rfl dX5_makeTakers_11 ?_
        refine ga_callV hR (pc := 12) (As := []) (rest := [.int v2_24]) (st0 := [.ref (b 0), .int v2_24]) (b := (b 0)) 0 (c_X4_placeNumber V b y_number y_placeNumber _ h) (ga_same_i fun _ => rfl) gX5_makeTakers_X4_placeNumber rfl rfl rfl hd_X4_placeNumber ⟨Nat.le_of_ble_eq_true rfl, Nat.le_of_ble_eq_true rfl⟩ rfl rfl (Nat.le_of_ble_eq_true rfl) ⟨Nat.zero_le _, Nat.zero_le _⟩ [2] rfl rfl 2 rfl rfl dX5_makeTakers_12 ?_
        rintro _ _ ⟨r_26, ⟨⟩, rfl, rfl, h⟩
        refine ga_to [(a 0, .inr (5, [.ref (a 1), .ref (a 2), .int x_firsts, .int x_loose])), (a 2, .inl (V.2 0, 6, .inl x_takers_25)), (b 0, .inr (4, [.ref (b 1), .ref (b 2), .ref (b 3), .ref (b 4), .ref (b 5), .ref (b 6), .int y_number, .int y_placeNumber])), (b 4, .inl (V.2 0, 10, .inl y_taken))] [.int r_26, .int v2_24] rfl rfl ?_
        try dsimp only at h
        refine ga_icmp_ge hR (pc := 15) 69 (by decide) dX5_makeTakers_15 (fun c15 => ?_) (fun c15 => ?_)
        · replace h := h.1 c15
          exact ga_lv hR [] rfl h
        · replace h := h.2 c15
          refine ga_iconst hR (pc := 18) (v := nI 0) (by decide) dX5_makeTakers_18 ?_
          refine ga_istore_n hR (pc := 19) (lv' := [(3, .int (nI 0)), (0, .ref (a 0)), (1, .ref (b 0)), (2, .int v2_24)]) rfl (by decide) rfl dX5_makeTakers_19 ?_
          have hJ := h (fun (x_takers_27 : Nat → Int32) => G 0 0 [(a 0, .inr (5, [.ref (a 1), .ref (a 2), .int x_firsts, .int x_loose])), (a 2, .inl (V.2 0, 6, .inl x_takers_27)), (b 0, .inr (4, [.ref (b 1), .ref (b 2), .ref (b 3), .ref (b 4), .ref (b 5), .ref (b 6), .int y_number, .int y_placeNumber])), (b 4, .inl (V.2 0, 10, .inl y_taken))] 63 [(0, .ref (a 0)), (1, .ref (b 0)), (2, .int v2_24)] [])
          refine ga_bind hJ ?_ ?_
          · intro x_takers_27 h
            show G 0 0 [(a 0, .inr (5, [.ref (a 1), .ref (a 2), .int x_firsts, .int x_loose])), (a 2, .inl (V.2 0, 6, .inl x_takers_27)), (b 0, .inr (4, [.ref (b 1), .ref (b 2), .ref (b 3), .ref (b 4), .ref (b 5), .ref (b 6), .int y_number, .int y_placeNumber])), (b 4, .inl (V.2 0, 10, .inl y_taken))] 63 [(0, .ref (a 0)), (1, .ref (b 0)), (2, .int v2_24)] []
            obtain ⟨v2_29, ev2_29⟩ : ∃ v : Int32, v = v2_24 + (nI 1) := ⟨_, rfl⟩
            replace h := h v2_29 ev2_29
            refine ga_iinc hR (pc := 63) (lv' := [(2, .int v2_29), (0, .ref (a 0)), (1, .ref (b 0))]) 2 (by decide) rfl ev2_29 (by decide) rfl dX5_makeTakers_63 ?_
            refine ga_goto hR (pc := 66) 10 (by decide) dX5_makeTakers_66 ?_
            exact ga_lv hR [1, 2, 0] rfl (ih _ _ h)
          · intro h
            obtain ⟨n, h⟩ := h
            have L20 : ∀ (n : Nat) (v3_30 : Int32) (x_takers_31 : Nat → Int32), lp_X5_makeTakers_20 y_placeNumber y_taken v2_24 (fun (x_takers_27 : Nat → Int32) => G 0 0 [(a 0, .inr (5, [.ref (a 1), .ref (a 2), .int x_firsts, .int x_loose])), (a 2, .inl (V.2 0, 6, .inl x_takers_27)), (b 0, .inr (4, [.ref (b 1), .ref (b 2), .ref (b 3), .ref (b 4), .ref (b 5), .ref (b 6), .int y_number, .int y_placeNumber])), (b 4, .inl (V.2 0, 10, .inl y_taken))] 63 [(0, .ref (a 0)), (1, .ref (b 0)), (2, .int v2_24)] []) n v3_30 x_takers_31 → G 0 0 [(a 0, .inr (5, [.ref (a 1), .ref (a 2), .int x_firsts, .int x_loose])), (a 2, .inl (V.2 0, 6, .inl x_takers_31)), (b 0, .inr (4, [.ref (b 1), .ref (b 2), .ref (b 3), .ref (b 4), .ref (b 5), .ref (b 6), .int y_number, .int y_placeNumber])), (b 4, .inl (V.2 0, 10, .inl y_taken))] 20 [(0, .ref (a 0)), (1, .ref (b 0)), (2, .int v2_24), (3, .int v3_30)] [] := by
              intro n
              induction n with
              | zero => exact fun _ _ h => False.elim h
              | succ n ih =>
                intro v3_30 x_takers_31 h
                rw [lp_X5_makeTakers_20] at h
                refine ga_iload_n hR (pc := 20) 3 rfl rfl dX5_makeTakers_20 ?_
                refine ga_bipush hR (pc := 21) (v := nI 6) (by decide) dX5_makeTakers_21 ?_
                refine ga_icmp_ge hR (pc := 23) 63 (by decide) dX5_makeTakers_23 (fun c23 => ?_) (fun c23 => ?_)
                · replace h := h.1 c23
                  exact ga_lv hR [0, 1, 2] rfl h
                · replace h := h.2 c23
                  refine ga_aload_n hR (pc := 26) 1 rfl rfl dX5_makeTakers_26 ?_
                  refine ga_iload_n hR (pc := 27) 2 rfl rfl dX5_makeTakers_27 ?_
                  refine ga_callV hR (pc := 28) (As := [.int v2_24]) (rest := []) (st0 := [.int v2_24, .ref (b 0)]) (b := (b 0)) 1 (c_X4_takenAt V b y_number y_placeNumber y_taken v2_24 _ h) (ga_same_i fun _ => rfl) gX5_makeTakers_X4_takenAt rfl rfl rfl hd_X4_takenAt ⟨Nat.le_of_ble_eq_true rfl, Nat.le_of_ble_eq_true rfl⟩ rfl rfl (Nat.le_of_ble_eq_true rfl) ⟨Nat.zero_le _, Nat.zero_le _⟩ [2, 3] rfl rfl 2 rfl rfl dX5_makeTakers_28 ?_
                  rintro _ _ ⟨r_32, ⟨⟩, rfl, rfl, h⟩
                  refine ga_to [(a 0, .inr (5, [.ref (a 1), .ref (a 2), .int x_firsts, .int x_loose])), (a 2, .inl (V.2 0, 6, .inl x_takers_31)), (b 0, .inr (4, [.ref (b 1), .ref (b 2), .ref (b 3), .ref (b 4), .ref (b 5), .ref (b 6), .int y_number, .int y_placeNumber])), (b 4, .inl (V.2 0, 10, .inl y_taken))] [.int r_32] rfl rfl ?_
                  try dsimp only at h
                  refine ga_iload_n hR (pc := 31) 3 rfl rfl dX5_makeTakers_31 ?_
                  have hJ := h (G 0 0 [(a 0, .inr (5, [.ref (a 1), .ref (a 2), .int x_firsts, .int x_loose])), (a 2, .inl (V.2 0, 6, .inl x_takers_31)), (b 0, .inr (4, [.ref (b 1), .ref (b 2), .ref (b 3), .ref (b 4), .ref (b 5), .ref (b 6), .int y_number, .int y_placeNumber])), (b 4, .inl (V.2 0, 10, .inl y_taken))] 45 [(0, .ref (a 0)), (1, .ref (b 0)), (2, .int v2_24), (3, .int v3_30)] [])
                  refine ga_bind hJ ?_ ?_
                  · intro h
                    show G 0 0 [(a 0, .inr (5, [.ref (a 1), .ref (a 2), .int x_firsts, .int x_loose])), (a 2, .inl (V.2 0, 6, .inl x_takers_31)), (b 0, .inr (4, [.ref (b 1), .ref (b 2), .ref (b 3), .ref (b 4), .ref (b 5), .ref (b 6), .int y_number, .int y_placeNumber])), (b 4, .inl (V.2 0, 10, .inl y_taken))] 45 [(0, .ref (a 0)), (1, .ref (b 0)), (2, .int v2_24), (3, .int v3_30)] []
                    refine ga_aload_n hR (pc := 45) 0 rfl rfl dX5_makeTakers_45 ?_
                    refine ga_get hR (pc := 46) 0 rfl rfl hinX5 1 (by decide) f15 rfl dX5_makeTakers_46 ?_
                    refine ga_iload_n hR (pc := 49) 3 rfl rfl dX5_makeTakers_49 ?_
                    refine ga_dup2 hR (pc := 50) rfl rfl dX5_makeTakers_50 ?_
                    refine ga_iald hR (pc := 51) 1 rfl h.1 dX5_makeTakers_51 ?_
                    replace h := h.2
                    refine ga_iconst hR (pc := 52) (v := nI 1) (by decide) dX5_makeTakers_52 ?_
                    refine ga_iload_n hR (pc := 53) 2 rfl rfl dX5_makeTakers_53 ?_
                    refine ga_ishl hR (pc := 54) dX5_makeTakers_54 ?_
                    refine ga_ior hR (pc := 55) dX5_makeTakers_55 ?_
                    refine ga_topi (fun t_34 et_34 => ?_)
                    replace h := h t_34 et_34
                    refine ga_iast hR (pc := 56) (ws' := [(a 0, .inr (5, [.ref (a 1), .ref (a 2), .int x_firsts, .int x_loose])), (a 2, .inl (V.2 0, 6, .inl ((upd x_takers_31 v3_30.toNatClampNeg t_34)))), (b 0, .inr (4, [.ref (b 1), .ref (b 2), .ref (b 3), .ref (b 4), .ref (b 5), .ref (b 6), .int y_number, .int y_placeNumber])), (b 4, .inl (V.2 0, 10, .inl y_taken))]) 1 rfl h.1 rfl dX5_makeTakers_56 ?_
                    replace h := h.2
                    obtain ⟨x_takers_35, ex_takers_35⟩ : ∃ f : Nat → Int32, f = upd x_takers_31 v3_30.toNatClampNeg t_34 := ⟨_, rfl⟩
                    refine ga_cast (ws' := [(a 0, .inr (5, [.ref (a 1), .ref (a 2), .int x_firsts, .int x_loose])), (a 2, .inl (V.2 0, 6, .inl x_takers_35)), (b 0, .inr (4, [.ref (b 1), .ref (b 2), .ref (b 3), .ref (b 4), .ref (b 5), .ref (b 6), .int y_number, .int y_placeNumber])), (b 4, .inl (V.2 0, 10, .inl y_taken))]) (by rw [ex_takers_35]) rfl ?_
                    replace h := h x_takers_35 ex_takers_35
                    obtain ⟨v3_36, ev3_36⟩ : ∃ v : Int32, v = v3_30 + (nI 1) := ⟨_, rfl⟩
                    replace h := h v3_36 ev3_36
                    refine ga_iinc hR (pc := 57) (lv' := [(3, .int v3_36), (0, .ref (a 0)), (1, .ref (b 0)), (2, .int v2_24)]) 3 (by decide) rfl ev3_36 (by decide) rfl dX5_makeTakers_57 ?_
                    refine ga_goto hR (pc := 60) 20 (by decide) dX5_makeTakers_60 ?_
                    exact ga_lv hR [1, 2, 3, 0] rfl (ih _ _ h)
                  · intro h
                    refine ga_icmp_eq hR (pc := 32) 45 (by decide) dX5_makeTakers_32 (fun c32 => ?_) (fun c32 => ?_)
                    · replace h := h.1 c32
                      exact ga_lv hR [0, 1, 2, 3] rfl h
                    · replace h := h.2 c32
                      refine ga_aload_n hR (pc := 35) 1 rfl rfl dX5_makeTakers_35 ?_
                      refine ga_iload_n hR (pc := 36) 2 rfl rfl dX5_makeTakers_36 ?_
                      refine ga_callV hR (pc := 37) (As := [.int v2_24]) (rest := []) (st0 := [.int v2_24, .ref (b 0)]) (b := (b 0)) 1 (c_X4_takenAt V b y_number y_placeNumber y_taken v2_24 _ h) (ga_same_i fun _ => rfl) gX5_makeTakers_X4_takenAt rfl rfl rfl hd_X4_takenAt ⟨Nat.le_of_ble_eq_true rfl, Nat.le_of_ble_eq_true rfl⟩ rfl rfl (Nat.le_of_ble_eq_true rfl) ⟨Nat.zero_le _, Nat.zero_le _⟩ [2, 3] rfl rfl 2 rfl rfl dX5_makeTakers_37 ?_
                      rintro _ _ ⟨r_37, ⟨⟩, rfl, rfl, h⟩
                      refine ga_to [(a 0, .inr (5, [.ref (a 1), .ref (a 2), .int x_firsts, .int x_loose])), (a 2, .inl (V.2 0, 6, .inl x_takers_31)), (b 0, .inr (4, [.ref (b 1), .ref (b 2), .ref (b 3), .ref (b 4), .ref (b 5), .ref (b 6), .int y_number, .int y_placeNumber])), (b 4, .inl (V.2 0, 10, .inl y_taken))] [.int r_37] rfl rfl ?_
                      try dsimp only at h
                      refine ga_bipush hR (pc := 40) (v := nI 6) (by decide) dX5_makeTakers_40 ?_
                      refine ga_icmp_ne hR (pc := 42) 57 (by decide) dX5_makeTakers_42 (fun c42 => ?_) (fun c42 => ?_)
                      · replace h := h.1 c42
                        obtain ⟨v3_38, ev3_38⟩ : ∃ v : Int32, v = v3_30 + (nI 1) := ⟨_, rfl⟩
                        replace h := h v3_38 ev3_38
                        refine ga_iinc hR (pc := 57) (lv' := [(3, .int v3_38), (0, .ref (a 0)), (1, .ref (b 0)), (2, .int v2_24)]) 3 (by decide) rfl ev3_38 (by decide) rfl dX5_makeTakers_57 ?_
                        refine ga_goto hR (pc := 60) 20 (by decide) dX5_makeTakers_60 ?_
                        exact ga_lv hR [1, 2, 3, 0] rfl (ih _ _ h)
                      · replace h := h.2 c42
                        exact ga_lv hR [0, 1, 2, 3] rfl h
            exact ga_lv hR [1, 2, 3, 0] rfl (L20 n _ _ h)
    exact ga_lv hR [1, 2, 0] rfl (L10 n _ _ h)

def rm_X4_has : Room := { frames := 0, cells := 0, slots := 0, locals := 0 }
theorem hd_X4_hasS : yX4_has.cls ≠ "java/lang/invoke/MethodHandle" ∧ yX4_has.cls ≠ "java/lang/invoke/VarHandle" ∧ (parseMethodDescriptor yX4_has.desc).map (fun d => d.parameters.length) = some 1 := by decide +kernel
theorem hd_X4_has : yX4_has.cls = RX4 ∧ yX4_has.cls ≠ "java/lang/invoke/MethodHandle" ∧ yX4_has.cls ≠ "java/lang/invoke/VarHandle" ∧ (parseMethodDescriptor yX4_has.desc).map (fun d => d.parameters.length) = some 1 := ⟨rfl, hd_X4_hasS⟩
set_option maxHeartbeats 4000000 in
set_option maxRecDepth 100000 in
theorem c_X4_has (V : ga_V) (a : Nat → Nat) (x_placeNumber : Int32) (x_number : Int32) (p1 : Int32) (K : Int32 → Prop) (h : wp_X4_has x_number p1 K) : ga_C V yX4_has wsX4_has rm_X4_has [.ref (a 0), .int p1] [(a 0, .inr (4, [.ref (a 1), .ref (a 2), .ref (a 3), .ref (a 4), .ref (a 5), .ref (a 6), .int x_number, .int x_placeNumber]))] 0 0 (ga_Fi (fun (u : Unit) => [(a 0, .inr (4, [.ref (a 1), .ref (a 2), .ref (a 3), .ref (a 4), .ref (a 5), .ref (a 6), .int x_number, .int x_placeNumber]))]) (fun r u => K r)) := by
  refine ga_met (cc := cX4_has) (maxL := 2) (rt := (some .boolean)) (by decide) rfl [(0, .ref (a 0)), (1, .int p1)] rfl (Nat.le_of_ble_eq_true rfl) ?_
  intro G hR hE
  have hinX4 : ∀ w ∈ u_ws RX4 TX4 8, w ∈ wsX4_has := by decide +kernel
  have f34 : Cond.fieldLink RX4 34 "BoundaryRules$Rules" "number" "I" ∈ wsX4_has := by decide +kernel
  unfold wp_X4_has at h
  refine ga_iload_n hR (pc := 0) 1 rfl rfl dX4_has_0 ?_
  refine ga_if_lt hR (pc := 1) 16 (by decide) dX4_has_1 (fun c1 => ?_) (fun c1 => ?_)
  · replace h := h.1 c1
    refine ga_iconst hR (pc := 16) (v := nI 0) (by decide) dX4_has_16 ?_
    exact ga_iret hE dX4_has_17 (by decide) (ga_ri () rfl h)
  · replace h := h.2 c1
    refine ga_iload_n hR (pc := 4) 1 rfl rfl dX4_has_4 ?_
    refine ga_aload_n hR (pc := 5) 0 rfl rfl dX4_has_5 ?_
    refine ga_get hR (pc := 6) 0 rfl rfl hinX4 6 (by decide) f34 rfl dX4_has_6 ?_
    refine ga_icmp_ge hR (pc := 9) 16 (by decide) dX4_has_9 (fun c9 => ?_) (fun c9 => ?_)
    · replace h := h.1 c9
      refine ga_iconst hR (pc := 16) (v := nI 0) (by decide) dX4_has_16 ?_
      exact ga_iret hE dX4_has_17 (by decide) (ga_ri () rfl h)
    · replace h := h.2 c9
      refine ga_iconst hR (pc := 12) (v := nI 1) (by decide) dX4_has_12 ?_
      refine ga_goto hR (pc := 13) 17 (by decide) dX4_has_13 ?_
      exact ga_iret hE dX4_has_17 (by decide) (ga_ri () rfl h)

def rm_X4_firstOf : Room := { frames := 1, cells := 0, slots := 0, locals := 21 }
theorem hd_X4_firstOfS : yX4_firstOf.cls ≠ "java/lang/invoke/MethodHandle" ∧ yX4_firstOf.cls ≠ "java/lang/invoke/VarHandle" ∧ (parseMethodDescriptor yX4_firstOf.desc).map (fun d => d.parameters.length) = some 1 := by decide +kernel
theorem hd_X4_firstOf : yX4_firstOf.cls = RX4 ∧ yX4_firstOf.cls ≠ "java/lang/invoke/MethodHandle" ∧ yX4_firstOf.cls ≠ "java/lang/invoke/VarHandle" ∧ (parseMethodDescriptor yX4_firstOf.desc).map (fun d => d.parameters.length) = some 1 := ⟨rfl, hd_X4_firstOfS⟩
set_option maxHeartbeats 4000000 in
set_option maxRecDepth 100000 in
theorem c_X4_firstOf (V : ga_V) (a : Nat → Nat) (x_placeNumber : Int32) (x_number : Int32) (x_firsts : Nat → Int32) (p1 : Int32) (K : Int32 → Prop) (h : wp_X4_firstOf x_number x_firsts p1 K) : ga_C V yX4_firstOf wsX4_firstOf rm_X4_firstOf [.ref (a 0), .int p1] [(a 0, .inr (4, [.ref (a 1), .ref (a 2), .ref (a 3), .ref (a 4), .ref (a 5), .ref (a 6), .int x_number, .int x_placeNumber])), (a 2, .inl (V.2 0, 4, .inl x_firsts))] 0 0 (ga_Fi (fun (u : Unit) => [(a 0, .inr (4, [.ref (a 1), .ref (a 2), .ref (a 3), .ref (a 4), .ref (a 5), .ref (a 6), .int x_number, .int x_placeNumber])), (a 2, .inl (V.2 0, 4, .inl x_firsts))]) (fun r u => K r)) := by
  refine ga_met (cc := cX4_firstOf) (maxL := 2) (rt := (some .int)) (by decide) rfl [(0, .ref (a 0)), (1, .int p1)] rfl (Nat.le_of_ble_eq_true rfl) ?_
  intro G hR hE
  have hinX4 : ∀ w ∈ u_ws RX4 TX4 8, w ∈ wsX4_firstOf := by decide +kernel
  have f15 : Cond.fieldLink RX4 15 "BoundaryRules$Rules" "firsts" "[I" ∈ wsX4_firstOf := by decide +kernel
  unfold wp_X4_firstOf at h
  refine ga_aload_n hR (pc := 0) 0 rfl rfl dX4_firstOf_0 ?_
  refine ga_iload_n hR (pc := 1) 1 rfl rfl dX4_firstOf_1 ?_
  refine ga_callV hR (pc := 2) (As := [.int p1]) (rest := []) (st0 := [.int p1, .ref (a 0)]) (b := (a 0)) 1 (c_X4_has V a x_placeNumber x_number p1 _ h) (ga_same_i fun _ => rfl) gX4_firstOf_X4_has rfl rfl rfl hd_X4_has ⟨Nat.le_of_ble_eq_true rfl, Nat.le_of_ble_eq_true rfl⟩ rfl rfl (Nat.le_of_ble_eq_true rfl) ⟨Nat.zero_le _, Nat.zero_le _⟩ [0] rfl rfl 0 rfl rfl dX4_firstOf_2 ?_
  rintro _ _ ⟨r_1, ⟨⟩, rfl, rfl, h⟩
  refine ga_to [(a 0, .inr (4, [.ref (a 1), .ref (a 2), .ref (a 3), .ref (a 4), .ref (a 5), .ref (a 6), .int x_number, .int x_placeNumber])), (a 2, .inl (V.2 0, 4, .inl x_firsts))] [.int r_1] rfl rfl ?_
  try dsimp only at h
  refine ga_if_eq hR (pc := 5) 17 (by decide) dX4_firstOf_5 (fun c5 => ?_) (fun c5 => ?_)
  · replace h := h.1 c5
    refine ga_iconst hR (pc := 17) (v := nI 0) (by decide) dX4_firstOf_17 ?_
    exact ga_iret hE dX4_firstOf_18 rfl (ga_ri () rfl h)
  · replace h := h.2 c5
    refine ga_aload_n hR (pc := 8) 0 rfl rfl dX4_firstOf_8 ?_
    refine ga_get hR (pc := 9) 0 rfl rfl hinX4 1 (by decide) f15 rfl dX4_firstOf_9 ?_
    refine ga_iload_n hR (pc := 12) 1 rfl rfl dX4_firstOf_12 ?_
    refine ga_iald hR (pc := 13) 1 rfl h.1 dX4_firstOf_13 ?_
    replace h := h.2
    refine ga_goto hR (pc := 14) 18 (by decide) dX4_firstOf_14 ?_
    exact ga_iret hE dX4_firstOf_18 rfl (ga_ri () rfl h)

def rm_X6_kindOf : Room := { frames := 0, cells := 0, slots := 0, locals := 0 }
theorem hd_X6_kindOfS : yX6_kindOf.cls ≠ "java/lang/invoke/MethodHandle" ∧ yX6_kindOf.cls ≠ "java/lang/invoke/VarHandle" ∧ (parseMethodDescriptor yX6_kindOf.desc).map (fun d => d.parameters.length) = some 1 := by decide +kernel
theorem hd_X6_kindOf : yX6_kindOf.cls = RX6 ∧ yX6_kindOf.cls ≠ "java/lang/invoke/MethodHandle" ∧ yX6_kindOf.cls ≠ "java/lang/invoke/VarHandle" ∧ (parseMethodDescriptor yX6_kindOf.desc).map (fun d => d.parameters.length) = some 1 := ⟨rfl, hd_X6_kindOfS⟩
set_option maxHeartbeats 4000000 in
set_option maxRecDepth 100000 in
theorem c_X6_kindOf (V : ga_V) (a : Nat → Nat) (x_length : Int32) (x_kinds : Nat → Int32) (p1 : Int32) (K : Int32 → Prop) (h : wp_X6_kindOf x_kinds p1 K) : ga_C V yX6_kindOf wsX6_kindOf rm_X6_kindOf [.ref (a 0), .int p1] [(a 0, .inr (6, [.ref (a 1), .ref (a 2), .ref (a 3), .int x_length])), (a 2, .inl (V.2 0, 4, .inl x_kinds))] 0 0 (ga_Fi (fun (u : Unit) => [(a 0, .inr (6, [.ref (a 1), .ref (a 2), .ref (a 3), .int x_length])), (a 2, .inl (V.2 0, 4, .inl x_kinds))]) (fun r u => K r)) := by
  refine ga_met (cc := cX6_kindOf) (maxL := 2) (rt := (some .int)) (by decide) rfl [(0, .ref (a 0)), (1, .int p1)] rfl (Nat.le_of_ble_eq_true rfl) ?_
  intro G hR hE
  have hinX6 : ∀ w ∈ u_ws RX6 TX6 4, w ∈ wsX6_kindOf := by decide +kernel
  have f15 : Cond.fieldLink RX6 15 "BoundaryRules$Stock" "kinds" "[I" ∈ wsX6_kindOf := by decide +kernel
  unfold wp_X6_kindOf at h
  refine ga_iload_n hR (pc := 0) 1 rfl rfl dX6_kindOf_0 ?_
  refine ga_if_lt hR (pc := 1) 18 (by decide) dX6_kindOf_1 (fun c1 => ?_) (fun c1 => ?_)
  · replace h := h.1 c1
    refine ga_iconst hR (pc := 18) (v := nI 0) (by decide) dX6_kindOf_18 ?_
    exact ga_iret hE dX6_kindOf_19 rfl (ga_ri () rfl h)
  · replace h := h.2 c1
    refine ga_iload_n hR (pc := 4) 1 rfl rfl dX6_kindOf_4 ?_
    refine ga_iconst hR (pc := 5) (v := nI 4) (by decide) dX6_kindOf_5 ?_
    refine ga_icmp_ge hR (pc := 6) 18 (by decide) dX6_kindOf_6 (fun c6 => ?_) (fun c6 => ?_)
    · replace h := h.1 c6
      refine ga_iconst hR (pc := 18) (v := nI 0) (by decide) dX6_kindOf_18 ?_
      exact ga_iret hE dX6_kindOf_19 rfl (ga_ri () rfl h)
    · replace h := h.2 c6
      refine ga_aload_n hR (pc := 9) 0 rfl rfl dX6_kindOf_9 ?_
      refine ga_get hR (pc := 10) 0 rfl rfl hinX6 1 (by decide) f15 rfl dX6_kindOf_10 ?_
      refine ga_iload_n hR (pc := 13) 1 rfl rfl dX6_kindOf_13 ?_
      refine ga_iald hR (pc := 14) 1 rfl h.1 dX6_kindOf_14 ?_
      replace h := h.2
      refine ga_goto hR (pc := 15) 19 (by decide) dX6_kindOf_15 ?_
      exact ga_iret hE dX6_kindOf_19 rfl (ga_ri () rfl h)

def rm_X4_placesOf : Room := { frames := 1, cells := 0, slots := 0, locals := 21 }
theorem hd_X4_placesOfS : yX4_placesOf.cls ≠ "java/lang/invoke/MethodHandle" ∧ yX4_placesOf.cls ≠ "java/lang/invoke/VarHandle" ∧ (parseMethodDescriptor yX4_placesOf.desc).map (fun d => d.parameters.length) = some 1 := by decide +kernel
theorem hd_X4_placesOf : yX4_placesOf.cls = RX4 ∧ yX4_placesOf.cls ≠ "java/lang/invoke/MethodHandle" ∧ yX4_placesOf.cls ≠ "java/lang/invoke/VarHandle" ∧ (parseMethodDescriptor yX4_placesOf.desc).map (fun d => d.parameters.length) = some 1 := ⟨rfl, hd_X4_placesOfS⟩
set_option maxHeartbeats 4000000 in
set_option maxRecDepth 100000 in
theorem c_X4_placesOf (V : ga_V) (a : Nat → Nat) (x_placeNumber : Int32) (x_number : Int32) (x_places : Nat → Int32) (p1 : Int32) (K : Int32 → Prop) (h : wp_X4_placesOf x_number x_places p1 K) : ga_C V yX4_placesOf wsX4_placesOf rm_X4_placesOf [.ref (a 0), .int p1] [(a 0, .inr (4, [.ref (a 1), .ref (a 2), .ref (a 3), .ref (a 4), .ref (a 5), .ref (a 6), .int x_number, .int x_placeNumber])), (a 1, .inl (V.2 0, 4, .inl x_places))] 0 0 (ga_Fi (fun (u : Unit) => [(a 0, .inr (4, [.ref (a 1), .ref (a 2), .ref (a 3), .ref (a 4), .ref (a 5), .ref (a 6), .int x_number, .int x_placeNumber])), (a 1, .inl (V.2 0, 4, .inl x_places))]) (fun r u => K r)) := by
  refine ga_met (cc := cX4_placesOf) (maxL := 2) (rt := (some .int)) (by decide) rfl [(0, .ref (a 0)), (1, .int p1)] rfl (Nat.le_of_ble_eq_true rfl) ?_
  intro G hR hE
  have hinX4 : ∀ w ∈ u_ws RX4 TX4 8, w ∈ wsX4_placesOf := by decide +kernel
  have f9 : Cond.fieldLink RX4 9 "BoundaryRules$Rules" "places" "[I" ∈ wsX4_placesOf := by decide +kernel
  unfold wp_X4_placesOf at h
  refine ga_aload_n hR (pc := 0) 0 rfl rfl dX4_placesOf_0 ?_
  refine ga_iload_n hR (pc := 1) 1 rfl rfl dX4_placesOf_1 ?_
  refine ga_callV hR (pc := 2) (As := [.int p1]) (rest := []) (st0 := [.int p1, .ref (a 0)]) (b := (a 0)) 1 (c_X4_has V a x_placeNumber x_number p1 _ h) (ga_same_i fun _ => rfl) gX4_placesOf_X4_has rfl rfl rfl hd_X4_has ⟨Nat.le_of_ble_eq_true rfl, Nat.le_of_ble_eq_true rfl⟩ rfl rfl (Nat.le_of_ble_eq_true rfl) ⟨Nat.zero_le _, Nat.zero_le _⟩ [0] rfl rfl 0 rfl rfl dX4_placesOf_2 ?_
  rintro _ _ ⟨r_1, ⟨⟩, rfl, rfl, h⟩
  refine ga_to [(a 0, .inr (4, [.ref (a 1), .ref (a 2), .ref (a 3), .ref (a 4), .ref (a 5), .ref (a 6), .int x_number, .int x_placeNumber])), (a 1, .inl (V.2 0, 4, .inl x_places))] [.int r_1] rfl rfl ?_
  try dsimp only at h
  refine ga_if_eq hR (pc := 5) 17 (by decide) dX4_placesOf_5 (fun c5 => ?_) (fun c5 => ?_)
  · replace h := h.1 c5
    refine ga_iconst hR (pc := 17) (v := nI 0) (by decide) dX4_placesOf_17 ?_
    exact ga_iret hE dX4_placesOf_18 rfl (ga_ri () rfl h)
  · replace h := h.2 c5
    refine ga_aload_n hR (pc := 8) 0 rfl rfl dX4_placesOf_8 ?_
    refine ga_get hR (pc := 9) 0 rfl rfl hinX4 0 (by decide) f9 rfl dX4_placesOf_9 ?_
    refine ga_iload_n hR (pc := 12) 1 rfl rfl dX4_placesOf_12 ?_
    refine ga_iald hR (pc := 13) 1 rfl h.1 dX4_placesOf_13 ?_
    replace h := h.2
    refine ga_goto hR (pc := 14) 18 (by decide) dX4_placesOf_14 ?_
    exact ga_iret hE dX4_placesOf_18 rfl (ga_ri () rfl h)

def rm_X4_wholeOf : Room := { frames := 1, cells := 0, slots := 0, locals := 21 }
theorem hd_X4_wholeOfS : yX4_wholeOf.cls ≠ "java/lang/invoke/MethodHandle" ∧ yX4_wholeOf.cls ≠ "java/lang/invoke/VarHandle" ∧ (parseMethodDescriptor yX4_wholeOf.desc).map (fun d => d.parameters.length) = some 1 := by decide +kernel
theorem hd_X4_wholeOf : yX4_wholeOf.cls = RX4 ∧ yX4_wholeOf.cls ≠ "java/lang/invoke/MethodHandle" ∧ yX4_wholeOf.cls ≠ "java/lang/invoke/VarHandle" ∧ (parseMethodDescriptor yX4_wholeOf.desc).map (fun d => d.parameters.length) = some 1 := ⟨rfl, hd_X4_wholeOfS⟩
set_option maxHeartbeats 4000000 in
set_option maxRecDepth 100000 in
theorem c_X4_wholeOf (V : ga_V) (a : Nat → Nat) (x_placeNumber : Int32) (x_number : Int32) (x_wholes : Nat → Int32) (p1 : Int32) (K : Int32 → Prop) (h : wp_X4_wholeOf x_number x_wholes p1 K) : ga_C V yX4_wholeOf wsX4_wholeOf rm_X4_wholeOf [.ref (a 0), .int p1] [(a 0, .inr (4, [.ref (a 1), .ref (a 2), .ref (a 3), .ref (a 4), .ref (a 5), .ref (a 6), .int x_number, .int x_placeNumber])), (a 3, .inl (V.2 0, 4, .inl x_wholes))] 0 0 (ga_Fi (fun (u : Unit) => [(a 0, .inr (4, [.ref (a 1), .ref (a 2), .ref (a 3), .ref (a 4), .ref (a 5), .ref (a 6), .int x_number, .int x_placeNumber])), (a 3, .inl (V.2 0, 4, .inl x_wholes))]) (fun r u => K r)) := by
  refine ga_met (cc := cX4_wholeOf) (maxL := 2) (rt := (some .int)) (by decide) rfl [(0, .ref (a 0)), (1, .int p1)] rfl (Nat.le_of_ble_eq_true rfl) ?_
  intro G hR hE
  have hinX4 : ∀ w ∈ u_ws RX4 TX4 8, w ∈ wsX4_wholeOf := by decide +kernel
  have f18 : Cond.fieldLink RX4 18 "BoundaryRules$Rules" "wholes" "[I" ∈ wsX4_wholeOf := by decide +kernel
  unfold wp_X4_wholeOf at h
  refine ga_aload_n hR (pc := 0) 0 rfl rfl dX4_wholeOf_0 ?_
  refine ga_iload_n hR (pc := 1) 1 rfl rfl dX4_wholeOf_1 ?_
  refine ga_callV hR (pc := 2) (As := [.int p1]) (rest := []) (st0 := [.int p1, .ref (a 0)]) (b := (a 0)) 1 (c_X4_has V a x_placeNumber x_number p1 _ h) (ga_same_i fun _ => rfl) gX4_wholeOf_X4_has rfl rfl rfl hd_X4_has ⟨Nat.le_of_ble_eq_true rfl, Nat.le_of_ble_eq_true rfl⟩ rfl rfl (Nat.le_of_ble_eq_true rfl) ⟨Nat.zero_le _, Nat.zero_le _⟩ [0] rfl rfl 0 rfl rfl dX4_wholeOf_2 ?_
  rintro _ _ ⟨r_1, ⟨⟩, rfl, rfl, h⟩
  refine ga_to [(a 0, .inr (4, [.ref (a 1), .ref (a 2), .ref (a 3), .ref (a 4), .ref (a 5), .ref (a 6), .int x_number, .int x_placeNumber])), (a 3, .inl (V.2 0, 4, .inl x_wholes))] [.int r_1] rfl rfl ?_
  try dsimp only at h
  refine ga_if_eq hR (pc := 5) 17 (by decide) dX4_wholeOf_5 (fun c5 => ?_) (fun c5 => ?_)
  · replace h := h.1 c5
    refine ga_iconst hR (pc := 17) (v := nI 0) (by decide) dX4_wholeOf_17 ?_
    exact ga_iret hE dX4_wholeOf_18 rfl (ga_ri () rfl h)
  · replace h := h.2 c5
    refine ga_aload_n hR (pc := 8) 0 rfl rfl dX4_wholeOf_8 ?_
    refine ga_get hR (pc := 9) 0 rfl rfl hinX4 2 (by decide) f18 rfl dX4_wholeOf_9 ?_
    refine ga_iload_n hR (pc := 12) 1 rfl rfl dX4_wholeOf_12 ?_
    refine ga_iald hR (pc := 13) 1 rfl h.1 dX4_wholeOf_13 ?_
    replace h := h.2
    refine ga_goto hR (pc := 14) 18 (by decide) dX4_wholeOf_14 ?_
    exact ga_iret hE dX4_wholeOf_18 rfl (ga_ri () rfl h)

def rm_X4_behind : Room := { frames := 1, cells := 0, slots := 0, locals := 21 }
theorem hd_X4_behindS : yX4_behind.cls ≠ "java/lang/invoke/MethodHandle" ∧ yX4_behind.cls ≠ "java/lang/invoke/VarHandle" ∧ (parseMethodDescriptor yX4_behind.desc).map (fun d => d.parameters.length) = some 1 := by decide +kernel
theorem hd_X4_behind : yX4_behind.cls = RX4 ∧ yX4_behind.cls ≠ "java/lang/invoke/MethodHandle" ∧ yX4_behind.cls ≠ "java/lang/invoke/VarHandle" ∧ (parseMethodDescriptor yX4_behind.desc).map (fun d => d.parameters.length) = some 1 := ⟨rfl, hd_X4_behindS⟩
set_option maxHeartbeats 4000000 in
set_option maxRecDepth 100000 in
theorem c_X4_behind (V : ga_V) (a : Nat → Nat) (x_number : Int32) (x_placeNumber : Int32) (x_behinds : Nat → Int32) (p1 : Int32) (K : Int32 → Prop) (h : wp_X4_behind x_placeNumber x_behinds p1 K) : ga_C V yX4_behind wsX4_behind rm_X4_behind [.ref (a 0), .int p1] [(a 0, .inr (4, [.ref (a 1), .ref (a 2), .ref (a 3), .ref (a 4), .ref (a 5), .ref (a 6), .int x_number, .int x_placeNumber])), (a 5, .inl (V.2 0, 10, .inl x_behinds))] 0 0 (ga_Fi (fun (u : Unit) => [(a 0, .inr (4, [.ref (a 1), .ref (a 2), .ref (a 3), .ref (a 4), .ref (a 5), .ref (a 6), .int x_number, .int x_placeNumber])), (a 5, .inl (V.2 0, 10, .inl x_behinds))]) (fun r u => K r)) := by
  refine ga_met (cc := cX4_behind) (maxL := 2) (rt := (some .int)) (by decide) rfl [(0, .ref (a 0)), (1, .int p1)] rfl (Nat.le_of_ble_eq_true rfl) ?_
  intro G hR hE
  have hinX4 : ∀ w ∈ u_ws RX4 TX4 8, w ∈ wsX4_behind := by decide +kernel
  have f24 : Cond.fieldLink RX4 24 "BoundaryRules$Rules" "behinds" "[I" ∈ wsX4_behind := by decide +kernel
  unfold wp_X4_behind at h
  refine ga_aload_n hR (pc := 0) 0 rfl rfl dX4_behind_0 ?_
  refine ga_iload_n hR (pc := 1) 1 rfl rfl dX4_behind_1 ?_
  refine ga_callV hR (pc := 2) (As := [.int p1]) (rest := []) (st0 := [.int p1, .ref (a 0)]) (b := (a 0)) 1 (c_X4_hasPlace V a x_number x_placeNumber p1 _ h) (ga_same_i fun _ => rfl) gX4_behind_X4_hasPlace rfl rfl rfl hd_X4_hasPlace ⟨Nat.le_of_ble_eq_true rfl, Nat.le_of_ble_eq_true rfl⟩ rfl rfl (Nat.le_of_ble_eq_true rfl) ⟨Nat.zero_le _, Nat.zero_le _⟩ [0] rfl rfl 0 rfl rfl dX4_behind_2 ?_
  rintro _ _ ⟨r_1, ⟨⟩, rfl, rfl, h⟩
  refine ga_to [(a 0, .inr (4, [.ref (a 1), .ref (a 2), .ref (a 3), .ref (a 4), .ref (a 5), .ref (a 6), .int x_number, .int x_placeNumber])), (a 5, .inl (V.2 0, 10, .inl x_behinds))] [.int r_1] rfl rfl ?_
  try dsimp only at h
  refine ga_if_eq hR (pc := 5) 17 (by decide) dX4_behind_5 (fun c5 => ?_) (fun c5 => ?_)
  · replace h := h.1 c5
    refine ga_iconst hR (pc := 17) (v := nI 0) (by decide) dX4_behind_17 ?_
    exact ga_iret hE dX4_behind_18 rfl (ga_ri () rfl h)
  · replace h := h.2 c5
    refine ga_aload_n hR (pc := 8) 0 rfl rfl dX4_behind_8 ?_
    refine ga_get hR (pc := 9) 0 rfl rfl hinX4 4 (by decide) f24 rfl dX4_behind_9 ?_
    refine ga_iload_n hR (pc := 12) 1 rfl rfl dX4_behind_12 ?_
    refine ga_iald hR (pc := 13) 1 rfl h.1 dX4_behind_13 ?_
    replace h := h.2
    refine ga_goto hR (pc := 14) 18 (by decide) dX4_behind_14 ?_
    exact ga_iret hE dX4_behind_18 rfl (ga_ri () rfl h)

def rm_X5_letGoOn : Room := { frames := 2, cells := 0, slots := 0, locals := 42 }
theorem hd_X5_letGoOnS : yX5_letGoOn.cls ≠ "java/lang/invoke/MethodHandle" ∧ yX5_letGoOn.cls ≠ "java/lang/invoke/VarHandle" ∧ (parseMethodDescriptor yX5_letGoOn.desc).map (fun d => d.parameters.length) = some 2 := by decide +kernel
theorem hd_X5_letGoOn : yX5_letGoOn.cls = RX5 ∧ yX5_letGoOn.cls ≠ "java/lang/invoke/MethodHandle" ∧ yX5_letGoOn.cls ≠ "java/lang/invoke/VarHandle" ∧ (parseMethodDescriptor yX5_letGoOn.desc).map (fun d => d.parameters.length) = some 2 := ⟨rfl, hd_X5_letGoOnS⟩
set_option maxHeartbeats 4000000 in
set_option maxRecDepth 100000 in
theorem c_X5_letGoOn (V : ga_V) (a : Nat → Nat) (b : Nat → Nat) (x_firsts : Int32) (x_loose : Int32) (y_number : Int32) (x_onward : Nat → Int32) (y_placeNumber : Int32) (y_behinds : Nat → Int32) (p2 : Int32) (K : (Nat → Int32) → Prop) (h : wp_X5_letGoOn x_onward y_placeNumber y_behinds p2 K) : ga_C V yX5_letGoOn wsX5_letGoOn rm_X5_letGoOn [.ref (a 0), .ref (b 0), .int p2] [(a 0, .inr (5, [.ref (a 1), .ref (a 2), .int x_firsts, .int x_loose])), (a 1, .inl (V.2 0, 10, .inl x_onward)), (b 0, .inr (4, [.ref (b 1), .ref (b 2), .ref (b 3), .ref (b 4), .ref (b 5), .ref (b 6), .int y_number, .int y_placeNumber])), (b 5, .inl (V.2 0, 10, .inl y_behinds))] 0 0 (ga_Fv (fun (u : (Nat → Int32)) => [(a 0, .inr (5, [.ref (a 1), .ref (a 2), .int x_firsts, .int x_loose])), (a 1, .inl (V.2 0, 10, .inl u)), (b 0, .inr (4, [.ref (b 1), .ref (b 2), .ref (b 3), .ref (b 4), .ref (b 5), .ref (b 6), .int y_number, .int y_placeNumber])), (b 5, .inl (V.2 0, 10, .inl y_behinds))]) (fun u => K u)) := by
  refine ga_met (cc := cX5_letGoOn) (maxL := 4) (rt := none) (by decide) rfl [(0, .ref (a 0)), (1, .ref (b 0)), (2, .int p2)] rfl (Nat.le_of_ble_eq_true rfl) ?_
  intro G hR hE
  have hinX5 : ∀ w ∈ u_ws RX5 TX5 4, w ∈ wsX5_letGoOn := by decide +kernel
  have f9 : Cond.fieldLink RX5 9 "BoundaryRules$Steps" "onward" "[I" ∈ wsX5_letGoOn := by decide +kernel
  unfold wp_X5_letGoOn at h
  refine ga_iconst hR (pc := 0) (v := nI 0) (by decide) dX5_letGoOn_0 ?_
  refine ga_istore_n hR (pc := 1) (lv' := [(3, .int (nI 0)), (0, .ref (a 0)), (1, .ref (b 0)), (2, .int p2)]) rfl (by decide) rfl dX5_letGoOn_1 ?_
  have hJ := h (fun (x_onward_1 : Nat → Int32) => G 0 0 [(a 0, .inr (5, [.ref (a 1), .ref (a 2), .int x_firsts, .int x_loose])), (a 1, .inl (V.2 0, 10, .inl x_onward_1)), (b 0, .inr (4, [.ref (b 1), .ref (b 2), .ref (b 3), .ref (b 4), .ref (b 5), .ref (b 6), .int y_number, .int y_placeNumber])), (b 5, .inl (V.2 0, 10, .inl y_behinds))] 33 [] [])
  refine ga_bind hJ ?_ ?_
  · intro x_onward_1 h
    show G 0 0 [(a 0, .inr (5, [.ref (a 1), .ref (a 2), .int x_firsts, .int x_loose])), (a 1, .inl (V.2 0, 10, .inl x_onward_1)), (b 0, .inr (4, [.ref (b 1), .ref (b 2), .ref (b 3), .ref (b 4), .ref (b 5), .ref (b 6), .int y_number, .int y_placeNumber])), (b 5, .inl (V.2 0, 10, .inl y_behinds))] 33 [] []
    exact ga_vret hE dX5_letGoOn_33 (ga_rv x_onward_1 rfl h)
  · intro h
    obtain ⟨n, h⟩ := h
    have L2 : ∀ (n : Nat) (v3_7 : Int32) (x_onward_8 : Nat → Int32), lp_X5_letGoOn_2 y_placeNumber y_behinds p2 (fun (x_onward_1 : Nat → Int32) => G 0 0 [(a 0, .inr (5, [.ref (a 1), .ref (a 2), .int x_firsts, .int x_loose])), (a 1, .inl (V.2 0, 10, .inl x_onward_1)), (b 0, .inr (4, [.ref (b 1), .ref (b 2), .ref (b 3), .ref (b 4), .ref (b 5), .ref (b 6), .int y_number, .int y_placeNumber])), (b 5, .inl (V.2 0, 10, .inl y_behinds))] 33 [] []) n v3_7 x_onward_8 → G 0 0 [(a 0, .inr (5, [.ref (a 1), .ref (a 2), .int x_firsts, .int x_loose])), (a 1, .inl (V.2 0, 10, .inl x_onward_8)), (b 0, .inr (4, [.ref (b 1), .ref (b 2), .ref (b 3), .ref (b 4), .ref (b 5), .ref (b 6), .int y_number, .int y_placeNumber])), (b 5, .inl (V.2 0, 10, .inl y_behinds))] 2 [(0, .ref (a 0)), (1, .ref (b 0)), (2, .int p2), (3, .int v3_7)] [] := by
      intro n
      induction n with
      | zero => exact fun _ _ h => False.elim h
      | succ n ih =>
        intro v3_7 x_onward_8 h
        rw [lp_X5_letGoOn_2] at h
        refine ga_iload_n hR (pc := 2) 3 rfl rfl dX5_letGoOn_2 ?_
        refine ga_bipush hR (pc := 3) (v := nI 10) (by decide) dX5_letGoOn_3 ?_
        refine ga_icmp_ge hR (pc := 5) 33 (by decide) dX5_letGoOn_5 (fun c5 => ?_) (fun c5 => ?_)
        · replace h := h.1 c5
          exact ga_lv hR [] rfl h
        · replace h := h.2 c5
          refine ga_iload_n hR (pc := 8) 2 rfl rfl dX5_letGoOn_8 ?_
          refine ga_iload_n hR (pc := 9) 3 rfl rfl dX5_letGoOn_9 ?_
          refine ga_ishr hR (pc := 10) dX5_letGoOn_10 ?_
          refine ga_iconst hR (pc := 11) (v := nI 1) (by decide) dX5_letGoOn_11 ?_
          refine ga_iand hR (pc := 12) dX5_letGoOn_12 ?_
          refine ga_if_eq hR (pc := 13) 27 (by decide) dX5_letGoOn_13 (fun c13 => ?_) (fun c13 => ?_)
          · replace h := h.1 c13
            obtain ⟨v3_9, ev3_9⟩ : ∃ v : Int32, v = v3_7 + (nI 1) := ⟨_, rfl⟩
            replace h := h v3_9 ev3_9
            refine ga_iinc hR (pc := 27) (lv' := [(3, .int v3_9), (0, .ref (a 0)), (1, .ref (b 0)), (2, .int p2)]) 3 (by decide) rfl ev3_9 (by decide) rfl dX5_letGoOn_27 ?_
            refine ga_goto hR (pc := 30) 2 (by decide) dX5_letGoOn_30 ?_
            exact ga_lv hR [1, 2, 3, 0] rfl (ih _ _ h)
          · replace h := h.2 c13
            refine ga_aload_n hR (pc := 16) 0 rfl rfl dX5_letGoOn_16 ?_
            refine ga_get hR (pc := 17) 0 rfl rfl hinX5 0 (by decide) f9 rfl dX5_letGoOn_17 ?_
            refine ga_iload_n hR (pc := 20) 3 rfl rfl dX5_letGoOn_20 ?_
            refine ga_aload_n hR (pc := 21) 1 rfl rfl dX5_letGoOn_21 ?_
            refine ga_iload_n hR (pc := 22) 3 rfl rfl dX5_letGoOn_22 ?_
            refine ga_callV hR (pc := 23) (As := [.int v3_7]) (rest := [.int v3_7, .ref (a 1)]) (st0 := [.int v3_7, .ref (b 0), .int v3_7, .ref (a 1)]) (b := (b 0)) 1 (c_X4_behind V b y_number y_placeNumber y_behinds v3_7 _ h) (ga_same_i fun _ => rfl) gX5_letGoOn_X4_behind rfl rfl rfl hd_X4_behind ⟨Nat.le_of_ble_eq_true rfl, Nat.le_of_ble_eq_true rfl⟩ rfl rfl (Nat.le_of_ble_eq_true rfl) ⟨Nat.zero_le _, Nat.zero_le _⟩ [2, 3] rfl rfl 2 rfl rfl dX5_letGoOn_23 ?_
            rintro _ _ ⟨r_10, ⟨⟩, rfl, rfl, h⟩
            refine ga_to [(a 0, .inr (5, [.ref (a 1), .ref (a 2), .int x_firsts, .int x_loose])), (a 1, .inl (V.2 0, 10, .inl x_onward_8)), (b 0, .inr (4, [.ref (b 1), .ref (b 2), .ref (b 3), .ref (b 4), .ref (b 5), .ref (b 6), .int y_number, .int y_placeNumber])), (b 5, .inl (V.2 0, 10, .inl y_behinds))] [.int r_10, .int v3_7, .ref (a 1)] rfl rfl ?_
            try dsimp only at h
            refine ga_iast hR (pc := 26) (ws' := [(a 0, .inr (5, [.ref (a 1), .ref (a 2), .int x_firsts, .int x_loose])), (a 1, .inl (V.2 0, 10, .inl ((upd x_onward_8 v3_7.toNatClampNeg r_10)))), (b 0, .inr (4, [.ref (b 1), .ref (b 2), .ref (b 3), .ref (b 4), .ref (b 5), .ref (b 6), .int y_number, .int y_placeNumber])), (b 5, .inl (V.2 0, 10, .inl y_behinds))]) 1 rfl h.1 rfl dX5_letGoOn_26 ?_
            replace h := h.2
            obtain ⟨x_onward_11, ex_onward_11⟩ : ∃ f : Nat → Int32, f = upd x_onward_8 v3_7.toNatClampNeg r_10 := ⟨_, rfl⟩
            refine ga_cast (ws' := [(a 0, .inr (5, [.ref (a 1), .ref (a 2), .int x_firsts, .int x_loose])), (a 1, .inl (V.2 0, 10, .inl x_onward_11)), (b 0, .inr (4, [.ref (b 1), .ref (b 2), .ref (b 3), .ref (b 4), .ref (b 5), .ref (b 6), .int y_number, .int y_placeNumber])), (b 5, .inl (V.2 0, 10, .inl y_behinds))]) (by rw [ex_onward_11]) rfl ?_
            replace h := h x_onward_11 ex_onward_11
            obtain ⟨v3_12, ev3_12⟩ : ∃ v : Int32, v = v3_7 + (nI 1) := ⟨_, rfl⟩
            replace h := h v3_12 ev3_12
            refine ga_iinc hR (pc := 27) (lv' := [(3, .int v3_12), (0, .ref (a 0)), (1, .ref (b 0)), (2, .int p2)]) 3 (by decide) rfl ev3_12 (by decide) rfl dX5_letGoOn_27 ?_
            refine ga_goto hR (pc := 30) 2 (by decide) dX5_letGoOn_30 ?_
            exact ga_lv hR [1, 2, 3, 0] rfl (ih _ _ h)
    exact ga_lv hR [1, 2, 3, 0] rfl (L2 n _ _ h)

def rm_X5_make : Room := { frames := 3, cells := 0, slots := 0, locals := 65 }
theorem hd_X5_makeS : yX5_make.cls ≠ "java/lang/invoke/MethodHandle" ∧ yX5_make.cls ≠ "java/lang/invoke/VarHandle" ∧ (parseMethodDescriptor yX5_make.desc).map (fun d => d.parameters.length) = some 2 := by decide +kernel
theorem hd_X5_make : yX5_make.cls = RX5 ∧ yX5_make.cls ≠ "java/lang/invoke/MethodHandle" ∧ yX5_make.cls ≠ "java/lang/invoke/VarHandle" ∧ (parseMethodDescriptor yX5_make.desc).map (fun d => d.parameters.length) = some 2 := ⟨rfl, hd_X5_makeS⟩
set_option maxHeartbeats 4000000 in
set_option maxRecDepth 100000 in
theorem c_X5_make (V : ga_V) (a : Nat → Nat) (b : Nat → Nat) (c : Nat → Nat) (z_length : Int32) (x_firsts : Int32) (x_loose : Int32) (x_onward : Nat → Int32) (x_takers : Nat → Int32) (y_number : Int32) (y_placeNumber : Int32) (y_places : Nat → Int32) (y_firsts : Nat → Int32) (y_wholes : Nat → Int32) (y_taken : Nat → Int32) (y_behinds : Nat → Int32) (z_kinds : Nat → Int32) (K : Int32 → Int32 → (Nat → Int32) → (Nat → Int32) → Prop) (h : wp_X5_make x_firsts x_loose x_onward x_takers y_number y_placeNumber y_places y_firsts y_wholes y_taken y_behinds z_kinds K) : ga_C V yX5_make wsX5_make rm_X5_make [.ref (a 0), .ref (b 0), .ref (c 0)] [(a 0, .inr (5, [.ref (a 1), .ref (a 2), .int x_firsts, .int x_loose])), (a 1, .inl (V.2 0, 10, .inl x_onward)), (a 2, .inl (V.2 0, 6, .inl x_takers)), (b 0, .inr (4, [.ref (b 1), .ref (b 2), .ref (b 3), .ref (b 4), .ref (b 5), .ref (b 6), .int y_number, .int y_placeNumber])), (b 1, .inl (V.2 0, 4, .inl y_places)), (b 2, .inl (V.2 0, 4, .inl y_firsts)), (b 3, .inl (V.2 0, 4, .inl y_wholes)), (b 4, .inl (V.2 0, 10, .inl y_taken)), (b 5, .inl (V.2 0, 10, .inl y_behinds)), (c 0, .inr (6, [.ref (c 1), .ref (c 2), .ref (c 3), .int z_length])), (c 2, .inl (V.2 0, 4, .inl z_kinds))] 0 0 (ga_Fv (fun (u : Int32 × Int32 × (Nat → Int32) × (Nat → Int32)) => [(a 0, .inr (5, [.ref (a 1), .ref (a 2), .int u.1, .int u.2.1])), (a 1, .inl (V.2 0, 10, .inl u.2.2.1)), (a 2, .inl (V.2 0, 6, .inl u.2.2.2)), (b 0, .inr (4, [.ref (b 1), .ref (b 2), .ref (b 3), .ref (b 4), .ref (b 5), .ref (b 6), .int y_number, .int y_placeNumber])), (b 1, .inl (V.2 0, 4, .inl y_places)), (b 2, .inl (V.2 0, 4, .inl y_firsts)), (b 3, .inl (V.2 0, 4, .inl y_wholes)), (b 4, .inl (V.2 0, 10, .inl y_taken)), (b 5, .inl (V.2 0, 10, .inl y_behinds)), (c 0, .inr (6, [.ref (c 1), .ref (c 2), .ref (c 3), .int z_length])), (c 2, .inl (V.2 0, 4, .inl z_kinds))]) (fun u => K u.1 u.2.1 u.2.2.1 u.2.2.2)) := by
  refine ga_met (cc := cX5_make) (maxL := 5) (rt := none) (by decide) rfl [(0, .ref (a 0)), (1, .ref (b 0)), (2, .ref (c 0))] rfl (Nat.le_of_ble_eq_true rfl) ?_
  intro G hR hE
  have hinX5 : ∀ w ∈ u_ws RX5 TX5 4, w ∈ wsX5_make := by decide +kernel
  have f9 : Cond.fieldLink RX5 9 "BoundaryRules$Steps" "onward" "[I" ∈ wsX5_make := by decide +kernel
  have f28 : Cond.fieldLink RX5 28 "BoundaryRules$Steps" "firsts" "I" ∈ wsX5_make := by decide +kernel
  have f32 : Cond.fieldLink RX5 32 "BoundaryRules$Steps" "loose" "I" ∈ wsX5_make := by decide +kernel
  unfold wp_X5_make at h
  refine ga_aload_n hR (pc := 0) 0 rfl rfl dX5_make_0 ?_
  refine ga_aload_n hR (pc := 1) 1 rfl rfl dX5_make_1 ?_
  refine ga_callV hR (pc := 2) (As := [.ref (b 0)]) (rest := []) (st0 := [.ref (b 0), .ref (a 0)]) (b := (a 0)) 1 (c_X5_makeTakers V a b x_firsts x_loose y_number x_takers y_placeNumber y_taken _ h) (ga_same_v fun _ => rfl) gX5_make_X5_makeTakers rfl rfl rfl hd_X5_makeTakers ⟨Nat.le_of_ble_eq_true rfl, Nat.le_of_ble_eq_true rfl⟩ rfl rfl (Nat.le_of_ble_eq_true rfl) ⟨Nat.zero_le _, Nat.zero_le _⟩ [0, 2, 3, 7] rfl rfl 0 rfl rfl dX5_make_2 ?_
  rintro _ _ ⟨x_takers_1, rfl, rfl, h⟩
  refine ga_to [(a 0, .inr (5, [.ref (a 1), .ref (a 2), .int x_firsts, .int x_loose])), (a 1, .inl (V.2 0, 10, .inl x_onward)), (a 2, .inl (V.2 0, 6, .inl x_takers_1)), (b 0, .inr (4, [.ref (b 1), .ref (b 2), .ref (b 3), .ref (b 4), .ref (b 5), .ref (b 6), .int y_number, .int y_placeNumber])), (b 1, .inl (V.2 0, 4, .inl y_places)), (b 2, .inl (V.2 0, 4, .inl y_firsts)), (b 3, .inl (V.2 0, 4, .inl y_wholes)), (b 4, .inl (V.2 0, 10, .inl y_taken)), (b 5, .inl (V.2 0, 10, .inl y_behinds)), (c 0, .inr (6, [.ref (c 1), .ref (c 2), .ref (c 3), .int z_length])), (c 2, .inl (V.2 0, 4, .inl z_kinds))] [] rfl rfl ?_
  try dsimp only at h
  refine ga_aload_n hR (pc := 5) 0 rfl rfl dX5_make_5 ?_
  refine ga_get hR (pc := 6) 0 rfl rfl hinX5 0 (by decide) f9 rfl dX5_make_6 ?_
  refine ga_iconst hR (pc := 9) (v := nI 0) (by decide) dX5_make_9 ?_
  refine ga_callS hR (pc := 10) (As := [.ref (a 1), .int (nI 0)]) (rest := []) (st0 := [.int (nI 0), .ref (a 1)]) 2 (c_J7_fill_53178 V (fun k => a (k + 1)) 10 x_onward (nI 0) _ h) (ga_same_v fun _ => rfl) gX5_make_J7_fill_53178 rfl rfl rfl hd_J7_fill_53178S ⟨Nat.le_of_ble_eq_true rfl, Nat.le_of_ble_eq_true rfl⟩ rfl rfl (Nat.le_of_ble_eq_true rfl) ⟨Nat.zero_le _, Nat.zero_le _⟩ [1] rfl rfl dX5_make_10 ?_
  rintro _ _ ⟨x_onward_2, rfl, rfl, h⟩
  refine ga_to [(a 0, .inr (5, [.ref (a 1), .ref (a 2), .int x_firsts, .int x_loose])), (a 1, .inl (V.2 0, 10, .inl x_onward_2)), (a 2, .inl (V.2 0, 6, .inl x_takers_1)), (b 0, .inr (4, [.ref (b 1), .ref (b 2), .ref (b 3), .ref (b 4), .ref (b 5), .ref (b 6), .int y_number, .int y_placeNumber])), (b 1, .inl (V.2 0, 4, .inl y_places)), (b 2, .inl (V.2 0, 4, .inl y_firsts)), (b 3, .inl (V.2 0, 4, .inl y_wholes)), (b 4, .inl (V.2 0, 10, .inl y_taken)), (b 5, .inl (V.2 0, 10, .inl y_behinds)), (c 0, .inr (6, [.ref (c 1), .ref (c 2), .ref (c 3), .int z_length])), (c 2, .inl (V.2 0, 4, .inl z_kinds))] [] rfl rfl ?_
  try dsimp only at h
  refine ga_aload_n hR (pc := 13) 0 rfl rfl dX5_make_13 ?_
  refine ga_iconst hR (pc := 14) (v := nI 0) (by decide) dX5_make_14 ?_
  refine ga_putf hR (pc := 15) (ws' := [(a 0, .inr (5, [.ref (a 1), .ref (a 2), .int (nI 0), .int x_loose])), (a 1, .inl (V.2 0, 10, .inl x_onward_2)), (a 2, .inl (V.2 0, 6, .inl x_takers_1)), (b 0, .inr (4, [.ref (b 1), .ref (b 2), .ref (b 3), .ref (b 4), .ref (b 5), .ref (b 6), .int y_number, .int y_placeNumber])), (b 1, .inl (V.2 0, 4, .inl y_places)), (b 2, .inl (V.2 0, 4, .inl y_firsts)), (b 3, .inl (V.2 0, 4, .inl y_wholes)), (b 4, .inl (V.2 0, 10, .inl y_taken)), (b 5, .inl (V.2 0, 10, .inl y_behinds)), (c 0, .inr (6, [.ref (c 1), .ref (c 2), .ref (c 3), .int z_length])), (c 2, .inl (V.2 0, 4, .inl z_kinds))]) 0 rfl rfl hinX5 2 (by decide) f28 tyX5_ok nmX5 rfl rfl rfl (Nat.le_of_ble_eq_true rfl) rfl dX5_make_15 ?_
  refine ga_aload_n hR (pc := 18) 0 rfl rfl dX5_make_18 ?_
  refine ga_iconst hR (pc := 19) (v := nI 0) (by decide) dX5_make_19 ?_
  refine ga_putf hR (pc := 20) (ws' := [(a 0, .inr (5, [.ref (a 1), .ref (a 2), .int (nI 0), .int (nI 0)])), (a 1, .inl (V.2 0, 10, .inl x_onward_2)), (a 2, .inl (V.2 0, 6, .inl x_takers_1)), (b 0, .inr (4, [.ref (b 1), .ref (b 2), .ref (b 3), .ref (b 4), .ref (b 5), .ref (b 6), .int y_number, .int y_placeNumber])), (b 1, .inl (V.2 0, 4, .inl y_places)), (b 2, .inl (V.2 0, 4, .inl y_firsts)), (b 3, .inl (V.2 0, 4, .inl y_wholes)), (b 4, .inl (V.2 0, 10, .inl y_taken)), (b 5, .inl (V.2 0, 10, .inl y_behinds)), (c 0, .inr (6, [.ref (c 1), .ref (c 2), .ref (c 3), .int z_length])), (c 2, .inl (V.2 0, 4, .inl z_kinds))]) 0 rfl rfl hinX5 3 (by decide) f32 tyX5_ok nmX5 rfl rfl rfl (Nat.le_of_ble_eq_true rfl) rfl dX5_make_20 ?_
  refine ga_iconst hR (pc := 23) (v := nI 0) (by decide) dX5_make_23 ?_
  refine ga_istore_n hR (pc := 24) (lv' := [(3, .int (nI 0)), (0, .ref (a 0)), (1, .ref (b 0)), (2, .ref (c 0))]) rfl (by decide) rfl dX5_make_24 ?_
  have hJ := h (fun (x_firsts_3 : Int32) (x_loose_4 : Int32) (x_onward_5 : Nat → Int32) => G 0 0 [(a 0, .inr (5, [.ref (a 1), .ref (a 2), .int x_firsts_3, .int x_loose_4])), (a 1, .inl (V.2 0, 10, .inl x_onward_5)), (a 2, .inl (V.2 0, 6, .inl x_takers_1)), (b 0, .inr (4, [.ref (b 1), .ref (b 2), .ref (b 3), .ref (b 4), .ref (b 5), .ref (b 6), .int y_number, .int y_placeNumber])), (b 1, .inl (V.2 0, 4, .inl y_places)), (b 2, .inl (V.2 0, 4, .inl y_firsts)), (b 3, .inl (V.2 0, 4, .inl y_wholes)), (b 4, .inl (V.2 0, 10, .inl y_taken)), (b 5, .inl (V.2 0, 10, .inl y_behinds)), (c 0, .inr (6, [.ref (c 1), .ref (c 2), .ref (c 3), .int z_length])), (c 2, .inl (V.2 0, 4, .inl z_kinds))] 125 [] [])
  refine ga_bind hJ ?_ ?_
  · intro x_firsts_3 x_loose_4 x_onward_5 h
    show G 0 0 [(a 0, .inr (5, [.ref (a 1), .ref (a 2), .int x_firsts_3, .int x_loose_4])), (a 1, .inl (V.2 0, 10, .inl x_onward_5)), (a 2, .inl (V.2 0, 6, .inl x_takers_1)), (b 0, .inr (4, [.ref (b 1), .ref (b 2), .ref (b 3), .ref (b 4), .ref (b 5), .ref (b 6), .int y_number, .int y_placeNumber])), (b 1, .inl (V.2 0, 4, .inl y_places)), (b 2, .inl (V.2 0, 4, .inl y_firsts)), (b 3, .inl (V.2 0, 4, .inl y_wholes)), (b 4, .inl (V.2 0, 10, .inl y_taken)), (b 5, .inl (V.2 0, 10, .inl y_behinds)), (c 0, .inr (6, [.ref (c 1), .ref (c 2), .ref (c 3), .int z_length])), (c 2, .inl (V.2 0, 4, .inl z_kinds))] 125 [] []
    exact ga_vret hE dX5_make_125 (ga_rv (x_firsts_3, x_loose_4, x_onward_5, x_takers_1) rfl h)
  · intro h
    obtain ⟨n, h⟩ := h
    have L25 : ∀ (n : Nat) (v3_25 : Int32) (x_firsts_26 : Int32) (x_loose_27 : Int32) (x_onward_28 : Nat → Int32), lp_X5_make_25 y_number y_placeNumber y_places y_firsts y_wholes y_behinds z_kinds (fun (x_firsts_3 : Int32) (x_loose_4 : Int32) (x_onward_5 : Nat → Int32) => G 0 0 [(a 0, .inr (5, [.ref (a 1), .ref (a 2), .int x_firsts_3, .int x_loose_4])), (a 1, .inl (V.2 0, 10, .inl x_onward_5)), (a 2, .inl (V.2 0, 6, .inl x_takers_1)), (b 0, .inr (4, [.ref (b 1), .ref (b 2), .ref (b 3), .ref (b 4), .ref (b 5), .ref (b 6), .int y_number, .int y_placeNumber])), (b 1, .inl (V.2 0, 4, .inl y_places)), (b 2, .inl (V.2 0, 4, .inl y_firsts)), (b 3, .inl (V.2 0, 4, .inl y_wholes)), (b 4, .inl (V.2 0, 10, .inl y_taken)), (b 5, .inl (V.2 0, 10, .inl y_behinds)), (c 0, .inr (6, [.ref (c 1), .ref (c 2), .ref (c 3), .int z_length])), (c 2, .inl (V.2 0, 4, .inl z_kinds))] 125 [] []) n v3_25 x_firsts_26 x_loose_27 x_onward_28 → G 0 0 [(a 0, .inr (5, [.ref (a 1), .ref (a 2), .int x_firsts_26, .int x_loose_27])), (a 1, .inl (V.2 0, 10, .inl x_onward_28)), (a 2, .inl (V.2 0, 6, .inl x_takers_1)), (b 0, .inr (4, [.ref (b 1), .ref (b 2), .ref (b 3), .ref (b 4), .ref (b 5), .ref (b 6), .int y_number, .int y_placeNumber])), (b 1, .inl (V.2 0, 4, .inl y_places)), (b 2, .inl (V.2 0, 4, .inl y_firsts)), (b 3, .inl (V.2 0, 4, .inl y_wholes)), (b 4, .inl (V.2 0, 10, .inl y_taken)), (b 5, .inl (V.2 0, 10, .inl y_behinds)), (c 0, .inr (6, [.ref (c 1), .ref (c 2), .ref (c 3), .int z_length])), (c 2, .inl (V.2 0, 4, .inl z_kinds))] 25 [(0, .ref (a 0)), (1, .ref (b 0)), (2, .ref (c 0)), (3, .int v3_25)] [] := by
      intro n
      induction n with
      | zero => exact fun _ _ _ _ h => False.elim h
      | succ n ih =>
        intro v3_25 x_firsts_26 x_loose_27 x_onward_28 h
        rw [lp_X5_make_25] at h
        refine ga_iload_n hR (pc := 25) 3 rfl rfl dX5_make_25 ?_
        refine ga_aload_n hR (pc := 26) 1 rfl rfl dX5_make_26 ?_
        refine ga_callV hR (pc := 27) (As := []) (rest := [.int v3_25]) (st0 := [.ref (b 0), .int v3_25]) (b := (b 0)) 0 (c_X4_number V b y_placeNumber y_number _ h) (ga_same_i fun _ => rfl) gX5_make_X4_number rfl rfl rfl hd_X4_number ⟨Nat.le_of_ble_eq_true rfl, Nat.le_of_ble_eq_true rfl⟩ rfl rfl (Nat.le_of_ble_eq_true rfl) ⟨Nat.zero_le _, Nat.zero_le _⟩ [3] rfl rfl 3 rfl rfl dX5_make_27 ?_
        rintro _ _ ⟨r_29, ⟨⟩, rfl, rfl, h⟩
        refine ga_to [(a 0, .inr (5, [.ref (a 1), .ref (a 2), .int x_firsts_26, .int x_loose_27])), (a 1, .inl (V.2 0, 10, .inl x_onward_28)), (a 2, .inl (V.2 0, 6, .inl x_takers_1)), (b 0, .inr (4, [.ref (b 1), .ref (b 2), .ref (b 3), .ref (b 4), .ref (b 5), .ref (b 6), .int y_number, .int y_placeNumber])), (b 1, .inl (V.2 0, 4, .inl y_places)), (b 2, .inl (V.2 0, 4, .inl y_firsts)), (b 3, .inl (V.2 0, 4, .inl y_wholes)), (b 4, .inl (V.2 0, 10, .inl y_taken)), (b 5, .inl (V.2 0, 10, .inl y_behinds)), (c 0, .inr (6, [.ref (c 1), .ref (c 2), .ref (c 3), .int z_length])), (c 2, .inl (V.2 0, 4, .inl z_kinds))] [.int r_29, .int v3_25] rfl rfl ?_
        try dsimp only at h
        refine ga_icmp_ge hR (pc := 30) 125 (by decide) dX5_make_30 (fun c30 => ?_) (fun c30 => ?_)
        · replace h := h.1 c30
          exact ga_lv hR [] rfl h
        · replace h := h.2 c30
          refine ga_aload_n hR (pc := 33) 0 rfl rfl dX5_make_33 ?_
          refine ga_dup hR (pc := 34) rfl dX5_make_34 ?_
          refine ga_get hR (pc := 35) 0 rfl rfl hinX5 2 (by decide) f28 rfl dX5_make_35 ?_
          refine ga_aload_n hR (pc := 38) 1 rfl rfl dX5_make_38 ?_
          refine ga_iload_n hR (pc := 39) 3 rfl rfl dX5_make_39 ?_
          refine ga_callV hR (pc := 40) (As := [.int v3_25]) (rest := [.int x_firsts_26, .ref (a 0)]) (st0 := [.int v3_25, .ref (b 0), .int x_firsts_26, .ref (a 0)]) (b := (b 0)) 1 (c_X4_firstOf V b y_placeNumber y_number y_firsts v3_25 _ h) (ga_same_i fun _ => rfl) gX5_make_X4_firstOf rfl rfl rfl hd_X4_firstOf ⟨Nat.le_of_ble_eq_true rfl, Nat.le_of_ble_eq_true rfl⟩ rfl rfl (Nat.le_of_ble_eq_true rfl) ⟨Nat.zero_le _, Nat.zero_le _⟩ [3, 5] rfl rfl 3 rfl rfl dX5_make_40 ?_
          rintro _ _ ⟨r_30, ⟨⟩, rfl, rfl, h⟩
          refine ga_to [(a 0, .inr (5, [.ref (a 1), .ref (a 2), .int x_firsts_26, .int x_loose_27])), (a 1, .inl (V.2 0, 10, .inl x_onward_28)), (a 2, .inl (V.2 0, 6, .inl x_takers_1)), (b 0, .inr (4, [.ref (b 1), .ref (b 2), .ref (b 3), .ref (b 4), .ref (b 5), .ref (b 6), .int y_number, .int y_placeNumber])), (b 1, .inl (V.2 0, 4, .inl y_places)), (b 2, .inl (V.2 0, 4, .inl y_firsts)), (b 3, .inl (V.2 0, 4, .inl y_wholes)), (b 4, .inl (V.2 0, 10, .inl y_taken)), (b 5, .inl (V.2 0, 10, .inl y_behinds)), (c 0, .inr (6, [.ref (c 1), .ref (c 2), .ref (c 3), .int z_length])), (c 2, .inl (V.2 0, 4, .inl z_kinds))] [.int r_30, .int x_firsts_26, .ref (a 0)] rfl rfl ?_
          try dsimp only at h
          refine ga_ior hR (pc := 43) dX5_make_43 ?_
          refine ga_topi (fun x_firsts_31 ex_firsts_31 => ?_)
          replace h := h x_firsts_31 ex_firsts_31
          refine ga_putf hR (pc := 44) (ws' := [(a 0, .inr (5, [.ref (a 1), .ref (a 2), .int x_firsts_31, .int x_loose_27])), (a 1, .inl (V.2 0, 10, .inl x_onward_28)), (a 2, .inl (V.2 0, 6, .inl x_takers_1)), (b 0, .inr (4, [.ref (b 1), .ref (b 2), .ref (b 3), .ref (b 4), .ref (b 5), .ref (b 6), .int y_number, .int y_placeNumber])), (b 1, .inl (V.2 0, 4, .inl y_places)), (b 2, .inl (V.2 0, 4, .inl y_firsts)), (b 3, .inl (V.2 0, 4, .inl y_wholes)), (b 4, .inl (V.2 0, 10, .inl y_taken)), (b 5, .inl (V.2 0, 10, .inl y_behinds)), (c 0, .inr (6, [.ref (c 1), .ref (c 2), .ref (c 3), .int z_length])), (c 2, .inl (V.2 0, 4, .inl z_kinds))]) 0 rfl rfl hinX5 2 (by decide) f28 tyX5_ok nmX5 rfl rfl rfl (Nat.le_of_ble_eq_true rfl) rfl dX5_make_44 ?_
          refine ga_aload_n hR (pc := 47) 2 rfl rfl dX5_make_47 ?_
          refine ga_iload_n hR (pc := 48) 3 rfl rfl dX5_make_48 ?_
          refine ga_callV hR (pc := 49) (As := [.int v3_25]) (rest := []) (st0 := [.int v3_25, .ref (c 0)]) (b := (c 0)) 1 (c_X6_kindOf V c z_length z_kinds v3_25 _ h) (ga_same_i fun _ => rfl) gX5_make_X6_kindOf rfl rfl rfl hd_X6_kindOf ⟨Nat.le_of_ble_eq_true rfl, Nat.le_of_ble_eq_true rfl⟩ rfl rfl (Nat.le_of_ble_eq_true rfl) ⟨Nat.zero_le _, Nat.zero_le _⟩ [9, 10] rfl rfl 9 rfl rfl dX5_make_49 ?_
          rintro _ _ ⟨r_32, ⟨⟩, rfl, rfl, h⟩
          refine ga_to [(a 0, .inr (5, [.ref (a 1), .ref (a 2), .int x_firsts_31, .int x_loose_27])), (a 1, .inl (V.2 0, 10, .inl x_onward_28)), (a 2, .inl (V.2 0, 6, .inl x_takers_1)), (b 0, .inr (4, [.ref (b 1), .ref (b 2), .ref (b 3), .ref (b 4), .ref (b 5), .ref (b 6), .int y_number, .int y_placeNumber])), (b 1, .inl (V.2 0, 4, .inl y_places)), (b 2, .inl (V.2 0, 4, .inl y_firsts)), (b 3, .inl (V.2 0, 4, .inl y_wholes)), (b 4, .inl (V.2 0, 10, .inl y_taken)), (b 5, .inl (V.2 0, 10, .inl y_behinds)), (c 0, .inr (6, [.ref (c 1), .ref (c 2), .ref (c 3), .int z_length])), (c 2, .inl (V.2 0, 4, .inl z_kinds))] [.int r_32] rfl rfl ?_
          try dsimp only at h
          refine ga_iconst hR (pc := 52) (v := nI 1) (by decide) dX5_make_52 ?_
          refine ga_iand hR (pc := 53) dX5_make_53 ?_
          have hJ := h (fun (x_loose_33 : Int32) => G 0 0 [(a 0, .inr (5, [.ref (a 1), .ref (a 2), .int x_firsts_31, .int x_loose_33])), (a 1, .inl (V.2 0, 10, .inl x_onward_28)), (a 2, .inl (V.2 0, 6, .inl x_takers_1)), (b 0, .inr (4, [.ref (b 1), .ref (b 2), .ref (b 3), .ref (b 4), .ref (b 5), .ref (b 6), .int y_number, .int y_placeNumber])), (b 1, .inl (V.2 0, 4, .inl y_places)), (b 2, .inl (V.2 0, 4, .inl y_firsts)), (b 3, .inl (V.2 0, 4, .inl y_wholes)), (b 4, .inl (V.2 0, 10, .inl y_taken)), (b 5, .inl (V.2 0, 10, .inl y_behinds)), (c 0, .inr (6, [.ref (c 1), .ref (c 2), .ref (c 3), .int z_length])), (c 2, .inl (V.2 0, 4, .inl z_kinds))] 71 [(0, .ref (a 0)), (1, .ref (b 0)), (2, .ref (c 0)), (3, .int v3_25)] [])
          refine ga_bind hJ ?_ ?_
          · intro x_loose_33 h
            show G 0 0 [(a 0, .inr (5, [.ref (a 1), .ref (a 2), .int x_firsts_31, .int x_loose_33])), (a 1, .inl (V.2 0, 10, .inl x_onward_28)), (a 2, .inl (V.2 0, 6, .inl x_takers_1)), (b 0, .inr (4, [.ref (b 1), .ref (b 2), .ref (b 3), .ref (b 4), .ref (b 5), .ref (b 6), .int y_number, .int y_placeNumber])), (b 1, .inl (V.2 0, 4, .inl y_places)), (b 2, .inl (V.2 0, 4, .inl y_firsts)), (b 3, .inl (V.2 0, 4, .inl y_wholes)), (b 4, .inl (V.2 0, 10, .inl y_taken)), (b 5, .inl (V.2 0, 10, .inl y_behinds)), (c 0, .inr (6, [.ref (c 1), .ref (c 2), .ref (c 3), .int z_length])), (c 2, .inl (V.2 0, 4, .inl z_kinds))] 71 [(0, .ref (a 0)), (1, .ref (b 0)), (2, .ref (c 0)), (3, .int v3_25)] []
            refine ga_aload_n hR (pc := 71) 2 rfl rfl dX5_make_71 ?_
            refine ga_iload_n hR (pc := 72) 3 rfl rfl dX5_make_72 ?_
            refine ga_callV hR (pc := 73) (As := [.int v3_25]) (rest := []) (st0 := [.int v3_25, .ref (c 0)]) (b := (c 0)) 1 (c_X6_kindOf V c z_length z_kinds v3_25 _ h) (ga_same_i fun _ => rfl) gX5_make_X6_kindOf rfl rfl rfl hd_X6_kindOf ⟨Nat.le_of_ble_eq_true rfl, Nat.le_of_ble_eq_true rfl⟩ rfl rfl (Nat.le_of_ble_eq_true rfl) ⟨Nat.zero_le _, Nat.zero_le _⟩ [9, 10] rfl rfl 9 rfl rfl dX5_make_73 ?_
            rintro _ _ ⟨r_35, ⟨⟩, rfl, rfl, h⟩
            refine ga_to [(a 0, .inr (5, [.ref (a 1), .ref (a 2), .int x_firsts_31, .int x_loose_33])), (a 1, .inl (V.2 0, 10, .inl x_onward_28)), (a 2, .inl (V.2 0, 6, .inl x_takers_1)), (b 0, .inr (4, [.ref (b 1), .ref (b 2), .ref (b 3), .ref (b 4), .ref (b 5), .ref (b 6), .int y_number, .int y_placeNumber])), (b 1, .inl (V.2 0, 4, .inl y_places)), (b 2, .inl (V.2 0, 4, .inl y_firsts)), (b 3, .inl (V.2 0, 4, .inl y_wholes)), (b 4, .inl (V.2 0, 10, .inl y_taken)), (b 5, .inl (V.2 0, 10, .inl y_behinds)), (c 0, .inr (6, [.ref (c 1), .ref (c 2), .ref (c 3), .int z_length])), (c 2, .inl (V.2 0, 4, .inl z_kinds))] [.int r_35] rfl rfl ?_
            try dsimp only at h
            refine ga_iconst hR (pc := 76) (v := nI 2) (by decide) dX5_make_76 ?_
            refine ga_iand hR (pc := 77) dX5_make_77 ?_
            have hJ := h (fun (s0_36 : Int32) => G 0 0 [(a 0, .inr (5, [.ref (a 1), .ref (a 2), .int x_firsts_31, .int x_loose_33])), (a 1, .inl (V.2 0, 10, .inl x_onward_28)), (a 2, .inl (V.2 0, 6, .inl x_takers_1)), (b 0, .inr (4, [.ref (b 1), .ref (b 2), .ref (b 3), .ref (b 4), .ref (b 5), .ref (b 6), .int y_number, .int y_placeNumber])), (b 1, .inl (V.2 0, 4, .inl y_places)), (b 2, .inl (V.2 0, 4, .inl y_firsts)), (b 3, .inl (V.2 0, 4, .inl y_wholes)), (b 4, .inl (V.2 0, 10, .inl y_taken)), (b 5, .inl (V.2 0, 10, .inl y_behinds)), (c 0, .inr (6, [.ref (c 1), .ref (c 2), .ref (c 3), .int z_length])), (c 2, .inl (V.2 0, 4, .inl z_kinds))] 86 [(0, .ref (a 0)), (1, .ref (b 0)), (2, .ref (c 0)), (3, .int v3_25)] [.int s0_36])
            refine ga_bind hJ ?_ ?_
            · intro s0_36 h
              show G 0 0 [(a 0, .inr (5, [.ref (a 1), .ref (a 2), .int x_firsts_31, .int x_loose_33])), (a 1, .inl (V.2 0, 10, .inl x_onward_28)), (a 2, .inl (V.2 0, 6, .inl x_takers_1)), (b 0, .inr (4, [.ref (b 1), .ref (b 2), .ref (b 3), .ref (b 4), .ref (b 5), .ref (b 6), .int y_number, .int y_placeNumber])), (b 1, .inl (V.2 0, 4, .inl y_places)), (b 2, .inl (V.2 0, 4, .inl y_firsts)), (b 3, .inl (V.2 0, 4, .inl y_wholes)), (b 4, .inl (V.2 0, 10, .inl y_taken)), (b 5, .inl (V.2 0, 10, .inl y_behinds)), (c 0, .inr (6, [.ref (c 1), .ref (c 2), .ref (c 3), .int z_length])), (c 2, .inl (V.2 0, 4, .inl z_kinds))] 86 [(0, .ref (a 0)), (1, .ref (b 0)), (2, .ref (c 0)), (3, .int v3_25)] [.int s0_36]
              refine ga_istore hR (pc := 86) (lv' := [(4, .int s0_36), (0, .ref (a 0)), (1, .ref (b 0)), (2, .ref (c 0)), (3, .int v3_25)]) (by decide) rfl dX5_make_86 ?_
              refine ga_aload_n hR (pc := 88) 1 rfl rfl dX5_make_88 ?_
              refine ga_aload_n hR (pc := 89) 2 rfl rfl dX5_make_89 ?_
              refine ga_iload hR (pc := 90) 0 rfl dX5_make_90 ?_
              have hJ := h (fun (s2_38 : Int32) => G 0 0 [(a 0, .inr (5, [.ref (a 1), .ref (a 2), .int x_firsts_31, .int x_loose_33])), (a 1, .inl (V.2 0, 10, .inl x_onward_28)), (a 2, .inl (V.2 0, 6, .inl x_takers_1)), (b 0, .inr (4, [.ref (b 1), .ref (b 2), .ref (b 3), .ref (b 4), .ref (b 5), .ref (b 6), .int y_number, .int y_placeNumber])), (b 1, .inl (V.2 0, 4, .inl y_places)), (b 2, .inl (V.2 0, 4, .inl y_firsts)), (b 3, .inl (V.2 0, 4, .inl y_wholes)), (b 4, .inl (V.2 0, 10, .inl y_taken)), (b 5, .inl (V.2 0, 10, .inl y_behinds)), (c 0, .inr (6, [.ref (c 1), .ref (c 2), .ref (c 3), .int z_length])), (c 2, .inl (V.2 0, 4, .inl z_kinds))] 116 [(0, .ref (a 0)), (1, .ref (b 0)), (2, .ref (c 0)), (3, .int v3_25)] [.int s2_38, .ref (b 0), .ref (a 0)])
              refine ga_bind hJ ?_ ?_
              · intro s2_38 h
                show G 0 0 [(a 0, .inr (5, [.ref (a 1), .ref (a 2), .int x_firsts_31, .int x_loose_33])), (a 1, .inl (V.2 0, 10, .inl x_onward_28)), (a 2, .inl (V.2 0, 6, .inl x_takers_1)), (b 0, .inr (4, [.ref (b 1), .ref (b 2), .ref (b 3), .ref (b 4), .ref (b 5), .ref (b 6), .int y_number, .int y_placeNumber])), (b 1, .inl (V.2 0, 4, .inl y_places)), (b 2, .inl (V.2 0, 4, .inl y_firsts)), (b 3, .inl (V.2 0, 4, .inl y_wholes)), (b 4, .inl (V.2 0, 10, .inl y_taken)), (b 5, .inl (V.2 0, 10, .inl y_behinds)), (c 0, .inr (6, [.ref (c 1), .ref (c 2), .ref (c 3), .int z_length])), (c 2, .inl (V.2 0, 4, .inl z_kinds))] 116 [(0, .ref (a 0)), (1, .ref (b 0)), (2, .ref (c 0)), (3, .int v3_25)] [.int s2_38, .ref (b 0), .ref (a 0)]
                refine ga_callV hR (pc := 116) (As := [.ref (b 0), .int s2_38]) (rest := []) (st0 := [.int s2_38, .ref (b 0), .ref (a 0)]) (b := (a 0)) 2 (c_X5_letGoOn V a b x_firsts_31 x_loose_33 y_number x_onward_28 y_placeNumber y_behinds s2_38 _ h) (ga_same_v fun _ => rfl) gX5_make_X5_letGoOn rfl rfl rfl hd_X5_letGoOn ⟨Nat.le_of_ble_eq_true rfl, Nat.le_of_ble_eq_true rfl⟩ rfl rfl (Nat.le_of_ble_eq_true rfl) ⟨Nat.zero_le _, Nat.zero_le _⟩ [0, 1, 3, 8] rfl rfl 0 rfl rfl dX5_make_116 ?_
                rintro _ _ ⟨x_onward_40, rfl, rfl, h⟩
                refine ga_to [(a 0, .inr (5, [.ref (a 1), .ref (a 2), .int x_firsts_31, .int x_loose_33])), (a 1, .inl (V.2 0, 10, .inl x_onward_40)), (a 2, .inl (V.2 0, 6, .inl x_takers_1)), (b 0, .inr (4, [.ref (b 1), .ref (b 2), .ref (b 3), .ref (b 4), .ref (b 5), .ref (b 6), .int y_number, .int y_placeNumber])), (b 1, .inl (V.2 0, 4, .inl y_places)), (b 2, .inl (V.2 0, 4, .inl y_firsts)), (b 3, .inl (V.2 0, 4, .inl y_wholes)), (b 4, .inl (V.2 0, 10, .inl y_taken)), (b 5, .inl (V.2 0, 10, .inl y_behinds)), (c 0, .inr (6, [.ref (c 1), .ref (c 2), .ref (c 3), .int z_length])), (c 2, .inl (V.2 0, 4, .inl z_kinds))] [] rfl rfl ?_
                try dsimp only at h
                obtain ⟨v3_41, ev3_41⟩ : ∃ v : Int32, v = v3_25 + (nI 1) := ⟨_, rfl⟩
                replace h := h v3_41 ev3_41
                refine ga_iinc hR (pc := 119) (lv' := [(3, .int v3_41), (0, .ref (a 0)), (1, .ref (b 0)), (2, .ref (c 0))]) 3 (by decide) rfl ev3_41 (by decide) rfl dX5_make_119 ?_
                refine ga_goto hR (pc := 122) 25 (by decide) dX5_make_122 ?_
                exact ga_lv hR [1, 2, 3, 0] rfl (ih _ _ _ _ h)
              · intro h
                refine ga_if_eq hR (pc := 92) 111 (by decide) dX5_make_92 (fun c92 => ?_) (fun c92 => ?_)
                · replace h := h.1 c92
                  refine ga_aload_n hR (pc := 111) 2 rfl rfl dX5_make_111 ?_
                  refine ga_iload_n hR (pc := 112) 4 rfl rfl dX5_make_112 ?_
                  refine ga_callV hR (pc := 113) (As := [.int v3_25]) (rest := [.ref (b 0), .ref (a 0)]) (st0 := [.int v3_25, .ref (b 0), .ref (b 0), .ref (a 0)]) (b := (b 0)) 1 (c_X4_placesOf V b y_placeNumber y_number y_places v3_25 _ h) (ga_same_i fun _ => rfl) gX5_make_X4_placesOf rfl rfl rfl hd_X4_placesOf ⟨Nat.le_of_ble_eq_true rfl, Nat.le_of_ble_eq_true rfl⟩ rfl rfl (Nat.le_of_ble_eq_true rfl) ⟨Nat.zero_le _, Nat.zero_le _⟩ [3, 4] rfl rfl 3 rfl rfl dX5_make_113 ?_
                  rintro _ _ ⟨r_42, ⟨⟩, rfl, rfl, h⟩
                  refine ga_to [(a 0, .inr (5, [.ref (a 1), .ref (a 2), .int x_firsts_31, .int x_loose_33])), (a 1, .inl (V.2 0, 10, .inl x_onward_28)), (a 2, .inl (V.2 0, 6, .inl x_takers_1)), (b 0, .inr (4, [.ref (b 1), .ref (b 2), .ref (b 3), .ref (b 4), .ref (b 5), .ref (b 6), .int y_number, .int y_placeNumber])), (b 1, .inl (V.2 0, 4, .inl y_places)), (b 2, .inl (V.2 0, 4, .inl y_firsts)), (b 3, .inl (V.2 0, 4, .inl y_wholes)), (b 4, .inl (V.2 0, 10, .inl y_taken)), (b 5, .inl (V.2 0, 10, .inl y_behinds)), (c 0, .inr (6, [.ref (c 1), .ref (c 2), .ref (c 3), .int z_length])), (c 2, .inl (V.2 0, 4, .inl z_kinds))] [.int r_42, .ref (b 0), .ref (a 0)] rfl rfl ?_
                  try dsimp only at h
                  exact ga_lv hR [1, 2, 3, 4] rfl h
                · replace h := h.2 c92
                  refine ga_aload_n hR (pc := 95) 2 rfl rfl dX5_make_95 ?_
                  refine ga_iload_n hR (pc := 96) 4 rfl rfl dX5_make_96 ?_
                  refine ga_callV hR (pc := 97) (As := [.int v3_25]) (rest := [.ref (b 0), .ref (a 0)]) (st0 := [.int v3_25, .ref (b 0), .ref (b 0), .ref (a 0)]) (b := (b 0)) 1 (c_X4_placesOf V b y_placeNumber y_number y_places v3_25 _ h) (ga_same_i fun _ => rfl) gX5_make_X4_placesOf rfl rfl rfl hd_X4_placesOf ⟨Nat.le_of_ble_eq_true rfl, Nat.le_of_ble_eq_true rfl⟩ rfl rfl (Nat.le_of_ble_eq_true rfl) ⟨Nat.zero_le _, Nat.zero_le _⟩ [3, 4] rfl rfl 3 rfl rfl dX5_make_97 ?_
                  rintro _ _ ⟨r_43, ⟨⟩, rfl, rfl, h⟩
                  refine ga_to [(a 0, .inr (5, [.ref (a 1), .ref (a 2), .int x_firsts_31, .int x_loose_33])), (a 1, .inl (V.2 0, 10, .inl x_onward_28)), (a 2, .inl (V.2 0, 6, .inl x_takers_1)), (b 0, .inr (4, [.ref (b 1), .ref (b 2), .ref (b 3), .ref (b 4), .ref (b 5), .ref (b 6), .int y_number, .int y_placeNumber])), (b 1, .inl (V.2 0, 4, .inl y_places)), (b 2, .inl (V.2 0, 4, .inl y_firsts)), (b 3, .inl (V.2 0, 4, .inl y_wholes)), (b 4, .inl (V.2 0, 10, .inl y_taken)), (b 5, .inl (V.2 0, 10, .inl y_behinds)), (c 0, .inr (6, [.ref (c 1), .ref (c 2), .ref (c 3), .int z_length])), (c 2, .inl (V.2 0, 4, .inl z_kinds))] [.int r_43, .ref (b 0), .ref (a 0)] rfl rfl ?_
                  try dsimp only at h
                  refine ga_aload_n hR (pc := 100) 2 rfl rfl dX5_make_100 ?_
                  refine ga_iload_n hR (pc := 101) 4 rfl rfl dX5_make_101 ?_
                  refine ga_callV hR (pc := 102) (As := [.int v3_25]) (rest := [.int r_43, .ref (b 0), .ref (a 0)]) (st0 := [.int v3_25, .ref (b 0), .int r_43, .ref (b 0), .ref (a 0)]) (b := (b 0)) 1 (c_X4_wholeOf V b y_placeNumber y_number y_wholes v3_25 _ h) (ga_same_i fun _ => rfl) gX5_make_X4_wholeOf rfl rfl rfl hd_X4_wholeOf ⟨Nat.le_of_ble_eq_true rfl, Nat.le_of_ble_eq_true rfl⟩ rfl rfl (Nat.le_of_ble_eq_true rfl) ⟨Nat.zero_le _, Nat.zero_le _⟩ [3, 6] rfl rfl 3 rfl rfl dX5_make_102 ?_
                  rintro _ _ ⟨r_44, ⟨⟩, rfl, rfl, h⟩
                  refine ga_to [(a 0, .inr (5, [.ref (a 1), .ref (a 2), .int x_firsts_31, .int x_loose_33])), (a 1, .inl (V.2 0, 10, .inl x_onward_28)), (a 2, .inl (V.2 0, 6, .inl x_takers_1)), (b 0, .inr (4, [.ref (b 1), .ref (b 2), .ref (b 3), .ref (b 4), .ref (b 5), .ref (b 6), .int y_number, .int y_placeNumber])), (b 1, .inl (V.2 0, 4, .inl y_places)), (b 2, .inl (V.2 0, 4, .inl y_firsts)), (b 3, .inl (V.2 0, 4, .inl y_wholes)), (b 4, .inl (V.2 0, 10, .inl y_taken)), (b 5, .inl (V.2 0, 10, .inl y_behinds)), (c 0, .inr (6, [.ref (c 1), .ref (c 2), .ref (c 3), .int z_length])), (c 2, .inl (V.2 0, 4, .inl z_kinds))] [.int r_44, .int r_43, .ref (b 0), .ref (a 0)] rfl rfl ?_
                  try dsimp only at h
                  refine ga_iconst hR (pc := 105) (v := -1) (by decide) dX5_make_105 ?_
                  refine ga_ixor hR (pc := 106) dX5_make_106 ?_
                  refine ga_iand hR (pc := 107) dX5_make_107 ?_
                  refine ga_goto hR (pc := 108) 116 (by decide) dX5_make_108 ?_
                  exact ga_lv hR [1, 2, 3, 4] rfl h
            · intro h
              refine ga_if_eq hR (pc := 78) 85 (by decide) dX5_make_78 (fun c78 => ?_) (fun c78 => ?_)
              · replace h := h.1 c78
                refine ga_iconst hR (pc := 85) (v := nI 0) (by decide) dX5_make_85 ?_
                exact ga_lv hR [0, 1, 2, 3] rfl h
              · replace h := h.2 c78
                refine ga_iconst hR (pc := 81) (v := nI 1) (by decide) dX5_make_81 ?_
                refine ga_goto hR (pc := 82) 86 (by decide) dX5_make_82 ?_
                exact ga_lv hR [0, 1, 2, 3] rfl h
          · intro h
            refine ga_if_eq hR (pc := 54) 71 (by decide) dX5_make_54 (fun c54 => ?_) (fun c54 => ?_)
            · replace h := h.1 c54
              exact ga_lv hR [0, 1, 2, 3] rfl h
            · replace h := h.2 c54
              refine ga_aload_n hR (pc := 57) 0 rfl rfl dX5_make_57 ?_
              refine ga_dup hR (pc := 58) rfl dX5_make_58 ?_
              refine ga_get hR (pc := 59) 0 rfl rfl hinX5 3 (by decide) f32 rfl dX5_make_59 ?_
              refine ga_aload_n hR (pc := 62) 1 rfl rfl dX5_make_62 ?_
              refine ga_iload_n hR (pc := 63) 3 rfl rfl dX5_make_63 ?_
              refine ga_callV hR (pc := 64) (As := [.int v3_25]) (rest := [.int x_loose_27, .ref (a 0)]) (st0 := [.int v3_25, .ref (b 0), .int x_loose_27, .ref (a 0)]) (b := (b 0)) 1 (c_X4_placesOf V b y_placeNumber y_number y_places v3_25 _ h) (ga_same_i fun _ => rfl) gX5_make_X4_placesOf rfl rfl rfl hd_X4_placesOf ⟨Nat.le_of_ble_eq_true rfl, Nat.le_of_ble_eq_true rfl⟩ rfl rfl (Nat.le_of_ble_eq_true rfl) ⟨Nat.zero_le _, Nat.zero_le _⟩ [3, 4] rfl rfl 3 rfl rfl dX5_make_64 ?_
              rintro _ _ ⟨r_45, ⟨⟩, rfl, rfl, h⟩
              refine ga_to [(a 0, .inr (5, [.ref (a 1), .ref (a 2), .int x_firsts_31, .int x_loose_27])), (a 1, .inl (V.2 0, 10, .inl x_onward_28)), (a 2, .inl (V.2 0, 6, .inl x_takers_1)), (b 0, .inr (4, [.ref (b 1), .ref (b 2), .ref (b 3), .ref (b 4), .ref (b 5), .ref (b 6), .int y_number, .int y_placeNumber])), (b 1, .inl (V.2 0, 4, .inl y_places)), (b 2, .inl (V.2 0, 4, .inl y_firsts)), (b 3, .inl (V.2 0, 4, .inl y_wholes)), (b 4, .inl (V.2 0, 10, .inl y_taken)), (b 5, .inl (V.2 0, 10, .inl y_behinds)), (c 0, .inr (6, [.ref (c 1), .ref (c 2), .ref (c 3), .int z_length])), (c 2, .inl (V.2 0, 4, .inl z_kinds))] [.int r_45, .int x_loose_27, .ref (a 0)] rfl rfl ?_
              try dsimp only at h
              refine ga_ior hR (pc := 67) dX5_make_67 ?_
              refine ga_topi (fun x_loose_46 ex_loose_46 => ?_)
              replace h := h x_loose_46 ex_loose_46
              refine ga_putf hR (pc := 68) (ws' := [(a 0, .inr (5, [.ref (a 1), .ref (a 2), .int x_firsts_31, .int x_loose_46])), (a 1, .inl (V.2 0, 10, .inl x_onward_28)), (a 2, .inl (V.2 0, 6, .inl x_takers_1)), (b 0, .inr (4, [.ref (b 1), .ref (b 2), .ref (b 3), .ref (b 4), .ref (b 5), .ref (b 6), .int y_number, .int y_placeNumber])), (b 1, .inl (V.2 0, 4, .inl y_places)), (b 2, .inl (V.2 0, 4, .inl y_firsts)), (b 3, .inl (V.2 0, 4, .inl y_wholes)), (b 4, .inl (V.2 0, 10, .inl y_taken)), (b 5, .inl (V.2 0, 10, .inl y_behinds)), (c 0, .inr (6, [.ref (c 1), .ref (c 2), .ref (c 3), .int z_length])), (c 2, .inl (V.2 0, 4, .inl z_kinds))]) 0 rfl rfl hinX5 3 (by decide) f32 tyX5_ok nmX5 rfl rfl rfl (Nat.le_of_ble_eq_true rfl) rfl dX5_make_68 ?_
              exact ga_lv hR [0, 1, 2, 3] rfl h
    exact ga_lv hR [1, 2, 3, 0] rfl (L25 n _ _ _ _ h)

def rm_X8_forget : Room := { frames := 0, cells := 0, slots := 0, locals := 0 }
theorem hd_X8_forgetS : yX8_forget.cls ≠ "java/lang/invoke/MethodHandle" ∧ yX8_forget.cls ≠ "java/lang/invoke/VarHandle" ∧ (parseMethodDescriptor yX8_forget.desc).map (fun d => d.parameters.length) = some 0 := by decide +kernel
theorem hd_X8_forget : yX8_forget.cls = RX8 ∧ yX8_forget.cls ≠ "java/lang/invoke/MethodHandle" ∧ yX8_forget.cls ≠ "java/lang/invoke/VarHandle" ∧ (parseMethodDescriptor yX8_forget.desc).map (fun d => d.parameters.length) = some 0 := ⟨rfl, hd_X8_forgetS⟩
set_option maxHeartbeats 4000000 in
set_option maxRecDepth 100000 in
theorem c_X8_forget (V : ga_V) (a : Nat → Nat) (x_number : Int32) (x_unlikeNumber : Int32) (x_knownNumber : Int32) (x_areFound : Int32) (K : Int32 → Prop) (h : wp_X8_forget x_areFound K) : ga_C V yX8_forget wsX8_forget rm_X8_forget [.ref (a 0)] [(a 0, .inr (8, [.ref (a 1), .ref (a 2), .ref (a 3), .ref (a 4), .ref (a 5), .ref (a 6), .ref (a 7), .int x_number, .int x_unlikeNumber, .int x_knownNumber, .int x_areFound]))] 0 0 (ga_Fv (fun (u : Int32) => [(a 0, .inr (8, [.ref (a 1), .ref (a 2), .ref (a 3), .ref (a 4), .ref (a 5), .ref (a 6), .ref (a 7), .int x_number, .int x_unlikeNumber, .int x_knownNumber, .int u]))]) (fun u => K u)) := by
  refine ga_met (cc := cX8_forget) (maxL := 1) (rt := none) (by decide) rfl [(0, .ref (a 0))] rfl (Nat.le_of_ble_eq_true rfl) ?_
  intro G hR hE
  have hinX8 : ∀ w ∈ u_ws RX8 TX8 11, w ∈ wsX8_forget := by decide +kernel
  have f38 : Cond.fieldLink RX8 38 "BoundaryRules$Ways" "areFound" "Z" ∈ wsX8_forget := by decide +kernel
  unfold wp_X8_forget at h
  refine ga_aload_n hR (pc := 0) 0 rfl rfl dX8_forget_0 ?_
  refine ga_iconst hR (pc := 1) (v := nI 0) (by decide) dX8_forget_1 ?_
  refine ga_putf hR (pc := 2) (ws' := [(a 0, .inr (8, [.ref (a 1), .ref (a 2), .ref (a 3), .ref (a 4), .ref (a 5), .ref (a 6), .ref (a 7), .int x_number, .int x_unlikeNumber, .int x_knownNumber, .int (nI 0)]))]) 0 rfl rfl hinX8 10 (by decide) f38 tyX8_ok nmX8 rfl (by decide) (by decide) (Nat.le_of_ble_eq_true rfl) rfl dX8_forget_2 ?_
  exact ga_vret hE dX8_forget_5 (ga_rv (nI 0) rfl h)

def rm_X6_letterAt : Room := { frames := 0, cells := 0, slots := 0, locals := 0 }
theorem hd_X6_letterAtS : yX6_letterAt.cls ≠ "java/lang/invoke/MethodHandle" ∧ yX6_letterAt.cls ≠ "java/lang/invoke/VarHandle" ∧ (parseMethodDescriptor yX6_letterAt.desc).map (fun d => d.parameters.length) = some 1 := by decide +kernel
theorem hd_X6_letterAt : yX6_letterAt.cls = RX6 ∧ yX6_letterAt.cls ≠ "java/lang/invoke/MethodHandle" ∧ yX6_letterAt.cls ≠ "java/lang/invoke/VarHandle" ∧ (parseMethodDescriptor yX6_letterAt.desc).map (fun d => d.parameters.length) = some 1 := ⟨rfl, hd_X6_letterAtS⟩
set_option maxHeartbeats 4000000 in
set_option maxRecDepth 100000 in
theorem c_X6_letterAt (V : ga_V) (a : Nat → Nat) (x_length : Int32) (x_line : Nat → Int32) (p1 : Int32) (K : Int32 → Prop) (h : wp_X6_letterAt x_length x_line p1 K) : ga_C V yX6_letterAt wsX6_letterAt rm_X6_letterAt [.ref (a 0), .int p1] [(a 0, .inr (6, [.ref (a 1), .ref (a 2), .ref (a 3), .int x_length])), (a 3, .inl (V.2 0, 30, .inl x_line))] 0 0 (ga_Fi (fun (u : Unit) => [(a 0, .inr (6, [.ref (a 1), .ref (a 2), .ref (a 3), .int x_length])), (a 3, .inl (V.2 0, 30, .inl x_line))]) (fun r u => K r)) := by
  refine ga_met (cc := cX6_letterAt) (maxL := 2) (rt := (some .int)) (by decide) rfl [(0, .ref (a 0)), (1, .int p1)] rfl (Nat.le_of_ble_eq_true rfl) ?_
  intro G hR hE
  have hinX6 : ∀ w ∈ u_ws RX6 TX6 4, w ∈ wsX6_letterAt := by decide +kernel
  have f21 : Cond.fieldLink RX6 21 "BoundaryRules$Stock" "length" "I" ∈ wsX6_letterAt := by decide +kernel
  have f18 : Cond.fieldLink RX6 18 "BoundaryRules$Stock" "line" "[I" ∈ wsX6_letterAt := by decide +kernel
  unfold wp_X6_letterAt at h
  refine ga_iload_n hR (pc := 0) 1 rfl rfl dX6_letterAt_0 ?_
  refine ga_if_lt hR (pc := 1) 21 (by decide) dX6_letterAt_1 (fun c1 => ?_) (fun c1 => ?_)
  · replace h := h.1 c1
    refine ga_iconst hR (pc := 21) (v := nI 0) (by decide) dX6_letterAt_21 ?_
    exact ga_iret hE dX6_letterAt_22 rfl (ga_ri () rfl h)
  · replace h := h.2 c1
    refine ga_iload_n hR (pc := 4) 1 rfl rfl dX6_letterAt_4 ?_
    refine ga_aload_n hR (pc := 5) 0 rfl rfl dX6_letterAt_5 ?_
    refine ga_get hR (pc := 6) 0 rfl rfl hinX6 3 (by decide) f21 rfl dX6_letterAt_6 ?_
    refine ga_icmp_ge hR (pc := 9) 21 (by decide) dX6_letterAt_9 (fun c9 => ?_) (fun c9 => ?_)
    · replace h := h.1 c9
      refine ga_iconst hR (pc := 21) (v := nI 0) (by decide) dX6_letterAt_21 ?_
      exact ga_iret hE dX6_letterAt_22 rfl (ga_ri () rfl h)
    · replace h := h.2 c9
      refine ga_aload_n hR (pc := 12) 0 rfl rfl dX6_letterAt_12 ?_
      refine ga_get hR (pc := 13) 0 rfl rfl hinX6 2 (by decide) f18 rfl dX6_letterAt_13 ?_
      refine ga_iload_n hR (pc := 16) 1 rfl rfl dX6_letterAt_16 ?_
      refine ga_iald hR (pc := 17) 1 rfl h.1 dX6_letterAt_17 ?_
      replace h := h.2
      refine ga_goto hR (pc := 18) 22 (by decide) dX6_letterAt_18 ?_
      exact ga_iret hE dX6_letterAt_22 rfl (ga_ri () rfl h)

def rm_X6_classOf : Room := { frames := 1, cells := 0, slots := 0, locals := 20 }
theorem hd_X6_classOfS : yX6_classOf.cls ≠ "java/lang/invoke/MethodHandle" ∧ yX6_classOf.cls ≠ "java/lang/invoke/VarHandle" ∧ (parseMethodDescriptor yX6_classOf.desc).map (fun d => d.parameters.length) = some 1 := by decide +kernel
theorem hd_X6_classOf : yX6_classOf.cls = RX6 ∧ yX6_classOf.cls ≠ "java/lang/invoke/MethodHandle" ∧ yX6_classOf.cls ≠ "java/lang/invoke/VarHandle" ∧ (parseMethodDescriptor yX6_classOf.desc).map (fun d => d.parameters.length) = some 1 := ⟨rfl, hd_X6_classOfS⟩
set_option maxHeartbeats 4000000 in
set_option maxRecDepth 100000 in
theorem c_X6_classOf (V : ga_V) (a : Nat → Nat) (x_length : Int32) (x_classes : Nat → Int32) (p1 : Int32) (K : Int32 → Prop) (h : wp_X6_classOf x_classes p1 K) : ga_C V yX6_classOf wsX6_classOf rm_X6_classOf [.ref (a 0), .int p1] [(a 0, .inr (6, [.ref (a 1), .ref (a 2), .ref (a 3), .int x_length])), (a 1, .inl (V.2 0, 26, .inl x_classes))] 0 0 (ga_Fi (fun (u : Unit) => [(a 0, .inr (6, [.ref (a 1), .ref (a 2), .ref (a 3), .int x_length])), (a 1, .inl (V.2 0, 26, .inl x_classes))]) (fun r u => K r)) := by
  refine ga_met (cc := cX6_classOf) (maxL := 2) (rt := (some .int)) (by decide) rfl [(0, .ref (a 0)), (1, .int p1)] rfl (Nat.le_of_ble_eq_true rfl) ?_
  intro G hR hE
  have hinX6 : ∀ w ∈ u_ws RX6 TX6 4, w ∈ wsX6_classOf := by decide +kernel
  have f9 : Cond.fieldLink RX6 9 "BoundaryRules$Stock" "classes" "[I" ∈ wsX6_classOf := by decide +kernel
  unfold wp_X6_classOf at h
  refine ga_iload_n hR (pc := 0) 1 rfl rfl dX6_classOf_0 ?_
  refine ga_callSN hR (pc := 1) (As := [.int p1]) (rest := []) (st0 := [.int p1]) 1 (c_X9_isLetter V p1 _ h) (ga_same_i fun _ => rfl) gX6_classOf_X9_isLetter_n25 rfl rfl rfl hd_X9_isLetterS ⟨Nat.le_of_ble_eq_true rfl, Nat.le_of_ble_eq_true rfl⟩ rfl rfl (Nat.le_of_ble_eq_true rfl) ⟨Nat.zero_le _, Nat.zero_le _⟩ [] rfl rfl (host := "BoundaryRules") (by decide +kernel) (by decide +kernel) (by decide +kernel) dX6_classOf_1 ?_
  rintro _ _ ⟨r_1, ⟨⟩, rfl, rfl, h⟩
  refine ga_to [(a 0, .inr (6, [.ref (a 1), .ref (a 2), .ref (a 3), .int x_length])), (a 1, .inl (V.2 0, 26, .inl x_classes))] [.int r_1] rfl rfl ?_
  try dsimp only at h
  refine ga_if_eq hR (pc := 4) 16 (by decide) dX6_classOf_4 (fun c4 => ?_) (fun c4 => ?_)
  · replace h := h.1 c4
    refine ga_iconst hR (pc := 16) (v := nI 0) (by decide) dX6_classOf_16 ?_
    exact ga_iret hE dX6_classOf_17 rfl (ga_ri () rfl h)
  · replace h := h.2 c4
    refine ga_aload_n hR (pc := 7) 0 rfl rfl dX6_classOf_7 ?_
    refine ga_get hR (pc := 8) 0 rfl rfl hinX6 0 (by decide) f9 rfl dX6_classOf_8 ?_
    refine ga_iload_n hR (pc := 11) 1 rfl rfl dX6_classOf_11 ?_
    refine ga_iald hR (pc := 12) 1 rfl h.1 dX6_classOf_12 ?_
    replace h := h.2
    refine ga_goto hR (pc := 13) 17 (by decide) dX6_classOf_13 ?_
    exact ga_iret hE dX6_classOf_17 rfl (ga_ri () rfl h)

def rm_X6_classAt : Room := { frames := 2, cells := 0, slots := 0, locals := 41 }
theorem hd_X6_classAtS : yX6_classAt.cls ≠ "java/lang/invoke/MethodHandle" ∧ yX6_classAt.cls ≠ "java/lang/invoke/VarHandle" ∧ (parseMethodDescriptor yX6_classAt.desc).map (fun d => d.parameters.length) = some 1 := by decide +kernel
theorem hd_X6_classAt : yX6_classAt.cls = RX6 ∧ yX6_classAt.cls ≠ "java/lang/invoke/MethodHandle" ∧ yX6_classAt.cls ≠ "java/lang/invoke/VarHandle" ∧ (parseMethodDescriptor yX6_classAt.desc).map (fun d => d.parameters.length) = some 1 := ⟨rfl, hd_X6_classAtS⟩
set_option maxHeartbeats 4000000 in
set_option maxRecDepth 100000 in
theorem c_X6_classAt (V : ga_V) (a : Nat → Nat) (x_length : Int32) (x_classes : Nat → Int32) (x_line : Nat → Int32) (p1 : Int32) (K : Int32 → Prop) (h : wp_X6_classAt x_length x_classes x_line p1 K) : ga_C V yX6_classAt wsX6_classAt rm_X6_classAt [.ref (a 0), .int p1] [(a 0, .inr (6, [.ref (a 1), .ref (a 2), .ref (a 3), .int x_length])), (a 1, .inl (V.2 0, 26, .inl x_classes)), (a 3, .inl (V.2 0, 30, .inl x_line))] 0 0 (ga_Fi (fun (u : Unit) => [(a 0, .inr (6, [.ref (a 1), .ref (a 2), .ref (a 3), .int x_length])), (a 1, .inl (V.2 0, 26, .inl x_classes)), (a 3, .inl (V.2 0, 30, .inl x_line))]) (fun r u => K r)) := by
  refine ga_met (cc := cX6_classAt) (maxL := 2) (rt := (some .int)) (by decide) rfl [(0, .ref (a 0)), (1, .int p1)] rfl (Nat.le_of_ble_eq_true rfl) ?_
  intro G hR hE
  unfold wp_X6_classAt at h
  refine ga_aload_n hR (pc := 0) 0 rfl rfl dX6_classAt_0 ?_
  refine ga_aload_n hR (pc := 1) 0 rfl rfl dX6_classAt_1 ?_
  refine ga_iload_n hR (pc := 2) 1 rfl rfl dX6_classAt_2 ?_
  refine ga_callV hR (pc := 3) (As := [.int p1]) (rest := [.ref (a 0)]) (st0 := [.int p1, .ref (a 0), .ref (a 0)]) (b := (a 0)) 1 (c_X6_letterAt V a x_length x_line p1 _ h) (ga_same_i fun _ => rfl) gX6_classAt_X6_letterAt rfl rfl rfl hd_X6_letterAt ⟨Nat.le_of_ble_eq_true rfl, Nat.le_of_ble_eq_true rfl⟩ rfl rfl (Nat.le_of_ble_eq_true rfl) ⟨Nat.zero_le _, Nat.zero_le _⟩ [0, 2] rfl rfl 0 rfl rfl dX6_classAt_3 ?_
  rintro _ _ ⟨r_1, ⟨⟩, rfl, rfl, h⟩
  refine ga_to [(a 0, .inr (6, [.ref (a 1), .ref (a 2), .ref (a 3), .int x_length])), (a 1, .inl (V.2 0, 26, .inl x_classes)), (a 3, .inl (V.2 0, 30, .inl x_line))] [.int r_1, .ref (a 0)] rfl rfl ?_
  try dsimp only at h
  refine ga_callV hR (pc := 6) (As := [.int r_1]) (rest := []) (st0 := [.int r_1, .ref (a 0)]) (b := (a 0)) 1 (c_X6_classOf V a x_length x_classes r_1 _ h) (ga_same_i fun _ => rfl) gX6_classAt_X6_classOf rfl rfl rfl hd_X6_classOf ⟨Nat.le_of_ble_eq_true rfl, Nat.le_of_ble_eq_true rfl⟩ rfl rfl (Nat.le_of_ble_eq_true rfl) ⟨Nat.zero_le _, Nat.zero_le _⟩ [0, 1] rfl rfl 0 rfl rfl dX6_classAt_6 ?_
  rintro _ _ ⟨r_2, ⟨⟩, rfl, rfl, h⟩
  refine ga_to [(a 0, .inr (6, [.ref (a 1), .ref (a 2), .ref (a 3), .int x_length])), (a 1, .inl (V.2 0, 26, .inl x_classes)), (a 3, .inl (V.2 0, 30, .inl x_line))] [.int r_2] rfl rfl ?_
  try dsimp only at h
  exact ga_iret hE dX6_classAt_9 rfl (ga_ri () rfl h)

def rm_X5_goOn : Room := { frames := 1, cells := 0, slots := 0, locals := 20 }
theorem hd_X5_goOnS : yX5_goOn.cls ≠ "java/lang/invoke/MethodHandle" ∧ yX5_goOn.cls ≠ "java/lang/invoke/VarHandle" ∧ (parseMethodDescriptor yX5_goOn.desc).map (fun d => d.parameters.length) = some 2 := by decide +kernel
theorem hd_X5_goOn : yX5_goOn.cls = RX5 ∧ yX5_goOn.cls ≠ "java/lang/invoke/MethodHandle" ∧ yX5_goOn.cls ≠ "java/lang/invoke/VarHandle" ∧ (parseMethodDescriptor yX5_goOn.desc).map (fun d => d.parameters.length) = some 2 := ⟨rfl, hd_X5_goOnS⟩
set_option maxHeartbeats 4000000 in
set_option maxRecDepth 100000 in
theorem c_X5_goOn (V : ga_V) (a : Nat → Nat) (x_firsts : Int32) (x_loose : Int32) (x_onward : Nat → Int32) (x_takers : Nat → Int32) (p1 : Int32) (p2 : Int32) (K : Int32 → Prop) (h : wp_X5_goOn x_loose x_onward x_takers p1 p2 K) : ga_C V yX5_goOn wsX5_goOn rm_X5_goOn [.ref (a 0), .int p1, .int p2] [(a 0, .inr (5, [.ref (a 1), .ref (a 2), .int x_firsts, .int x_loose])), (a 1, .inl (V.2 0, 10, .inl x_onward)), (a 2, .inl (V.2 0, 6, .inl x_takers))] 0 0 (ga_Fi (fun (u : Unit) => [(a 0, .inr (5, [.ref (a 1), .ref (a 2), .int x_firsts, .int x_loose])), (a 1, .inl (V.2 0, 10, .inl x_onward)), (a 2, .inl (V.2 0, 6, .inl x_takers))]) (fun r u => K r)) := by
  refine ga_met (cc := cX5_goOn) (maxL := 5) (rt := (some .int)) (by decide) rfl [(0, .ref (a 0)), (1, .int p1), (2, .int p2)] rfl (Nat.le_of_ble_eq_true rfl) ?_
  intro G hR hE
  have hinX5 : ∀ w ∈ u_ws RX5 TX5 4, w ∈ wsX5_goOn := by decide +kernel
  have f9 : Cond.fieldLink RX5 9 "BoundaryRules$Steps" "onward" "[I" ∈ wsX5_goOn := by decide +kernel
  have f15 : Cond.fieldLink RX5 15 "BoundaryRules$Steps" "takers" "[I" ∈ wsX5_goOn := by decide +kernel
  have f32 : Cond.fieldLink RX5 32 "BoundaryRules$Steps" "loose" "I" ∈ wsX5_goOn := by decide +kernel
  unfold wp_X5_goOn at h
  refine ga_iload_n hR (pc := 0) 2 rfl rfl dX5_goOn_0 ?_
  refine ga_callSN hR (pc := 1) (As := [.int p2]) (rest := []) (st0 := [.int p2]) 1 (c_X9_isClass V p2 _ h) (ga_same_i fun _ => rfl) gX5_goOn_X9_isClass_n69 rfl rfl rfl hd_X9_isClassS ⟨Nat.le_of_ble_eq_true rfl, Nat.le_of_ble_eq_true rfl⟩ rfl rfl (Nat.le_of_ble_eq_true rfl) ⟨Nat.zero_le _, Nat.zero_le _⟩ [] rfl rfl (host := "BoundaryRules") (by decide +kernel) (by decide +kernel) (by decide +kernel) dX5_goOn_1 ?_
  rintro _ _ ⟨r_1, ⟨⟩, rfl, rfl, h⟩
  refine ga_to [(a 0, .inr (5, [.ref (a 1), .ref (a 2), .int x_firsts, .int x_loose])), (a 1, .inl (V.2 0, 10, .inl x_onward)), (a 2, .inl (V.2 0, 6, .inl x_takers))] [.int r_1] rfl rfl ?_
  try dsimp only at h
  refine ga_if_ne hR (pc := 4) 9 (by decide) dX5_goOn_4 (fun c4 => ?_) (fun c4 => ?_)
  · replace h := h.1 c4
    refine ga_iload_n hR (pc := 9) 2 rfl rfl dX5_goOn_9 ?_
    refine ga_iconst hR (pc := 10) (v := nI 5) (by decide) dX5_goOn_10 ?_
    have hJ := h (fun (s0_2 : Int32) => G 0 0 [(a 0, .inr (5, [.ref (a 1), .ref (a 2), .int x_firsts, .int x_loose])), (a 1, .inl (V.2 0, 10, .inl x_onward)), (a 2, .inl (V.2 0, 6, .inl x_takers))] 24 [(0, .ref (a 0)), (1, .int p1), (2, .int p2)] [.int s0_2])
    refine ga_bind hJ ?_ ?_
    · intro s0_2 h
      show G 0 0 [(a 0, .inr (5, [.ref (a 1), .ref (a 2), .int x_firsts, .int x_loose])), (a 1, .inl (V.2 0, 10, .inl x_onward)), (a 2, .inl (V.2 0, 6, .inl x_takers))] 24 [(0, .ref (a 0)), (1, .int p1), (2, .int p2)] [.int s0_2]
      refine ga_istore_n hR (pc := 24) (lv' := [(3, .int s0_2), (0, .ref (a 0)), (1, .int p1), (2, .int p2)]) rfl (by decide) rfl dX5_goOn_24 ?_
      refine ga_iconst hR (pc := 25) (v := nI 0) (by decide) dX5_goOn_25 ?_
      refine ga_istore hR (pc := 26) (lv' := [(4, .int (nI 0)), (3, .int s0_2), (0, .ref (a 0)), (1, .int p1), (2, .int p2)]) (by decide) rfl dX5_goOn_26 ?_
      have hJ := h (fun (v3_4 : Int32) => G 0 0 [(a 0, .inr (5, [.ref (a 1), .ref (a 2), .int x_firsts, .int x_loose])), (a 1, .inl (V.2 0, 10, .inl x_onward)), (a 2, .inl (V.2 0, 6, .inl x_takers))] 67 [(3, .int v3_4)] [])
      refine ga_bind hJ ?_ ?_
      · intro v3_4 h
        show G 0 0 [(a 0, .inr (5, [.ref (a 1), .ref (a 2), .int x_firsts, .int x_loose])), (a 1, .inl (V.2 0, 10, .inl x_onward)), (a 2, .inl (V.2 0, 6, .inl x_takers))] 67 [(3, .int v3_4)] []
        refine ga_iload_n hR (pc := 67) 0 rfl rfl dX5_goOn_67 ?_
        exact ga_iret hE dX5_goOn_68 rfl (ga_ri () rfl h)
      · intro h
        obtain ⟨n, h⟩ := h
        have L28 : ∀ (n : Nat) (v3_9 : Int32) (v4_10 : Int32), lp_X5_goOn_28 x_onward x_takers p1 p2 (fun (v3_4 : Int32) => G 0 0 [(a 0, .inr (5, [.ref (a 1), .ref (a 2), .int x_firsts, .int x_loose])), (a 1, .inl (V.2 0, 10, .inl x_onward)), (a 2, .inl (V.2 0, 6, .inl x_takers))] 67 [(3, .int v3_4)] []) n v3_9 v4_10 → G 0 0 [(a 0, .inr (5, [.ref (a 1), .ref (a 2), .int x_firsts, .int x_loose])), (a 1, .inl (V.2 0, 10, .inl x_onward)), (a 2, .inl (V.2 0, 6, .inl x_takers))] 28 [(0, .ref (a 0)), (1, .int p1), (2, .int p2), (3, .int v3_9), (4, .int v4_10)] [] := by
          intro n
          induction n with
          | zero => exact fun _ _ h => False.elim h
          | succ n ih =>
            intro v3_9 v4_10 h
            rw [lp_X5_goOn_28] at h
            refine ga_iload hR (pc := 28) 4 rfl dX5_goOn_28 ?_
            refine ga_bipush hR (pc := 30) (v := nI 10) (by decide) dX5_goOn_30 ?_
            refine ga_icmp_ge hR (pc := 32) 67 (by decide) dX5_goOn_32 (fun c32 => ?_) (fun c32 => ?_)
            · replace h := h.1 c32
              exact ga_lv hR [3] rfl h
            · replace h := h.2 c32
              refine ga_iload_n hR (pc := 35) 1 rfl rfl dX5_goOn_35 ?_
              refine ga_iload hR (pc := 36) 4 rfl dX5_goOn_36 ?_
              refine ga_ishr hR (pc := 38) dX5_goOn_38 ?_
              refine ga_iconst hR (pc := 39) (v := nI 1) (by decide) dX5_goOn_39 ?_
              refine ga_iand hR (pc := 40) dX5_goOn_40 ?_
              refine ga_if_eq hR (pc := 41) 61 (by decide) dX5_goOn_41 (fun c41 => ?_) (fun c41 => ?_)
              · replace h := h.1 c41
                obtain ⟨v4_11, ev4_11⟩ : ∃ v : Int32, v = v4_10 + (nI 1) := ⟨_, rfl⟩
                replace h := h v4_11 ev4_11
                refine ga_iinc hR (pc := 61) (lv' := [(4, .int v4_11), (0, .ref (a 0)), (1, .int p1), (2, .int p2), (3, .int v3_9)]) 4 (by decide) rfl ev4_11 (by decide) rfl dX5_goOn_61 ?_
                refine ga_goto hR (pc := 64) 28 (by decide) dX5_goOn_64 ?_
                exact ga_lv hR [1, 2, 3, 4, 0] rfl (ih _ _ h)
              · replace h := h.2 c41
                refine ga_iload_n hR (pc := 44) 3 rfl rfl dX5_goOn_44 ?_
                refine ga_aload_n hR (pc := 45) 0 rfl rfl dX5_goOn_45 ?_
                refine ga_get hR (pc := 46) 0 rfl rfl hinX5 0 (by decide) f9 rfl dX5_goOn_46 ?_
                refine ga_iload hR (pc := 49) 4 rfl dX5_goOn_49 ?_
                refine ga_iald hR (pc := 51) 1 rfl h.1 dX5_goOn_51 ?_
                replace h := h.2
                refine ga_aload_n hR (pc := 52) 0 rfl rfl dX5_goOn_52 ?_
                refine ga_get hR (pc := 53) 0 rfl rfl hinX5 1 (by decide) f15 rfl dX5_goOn_53 ?_
                refine ga_iload_n hR (pc := 56) 2 rfl rfl dX5_goOn_56 ?_
                refine ga_iald hR (pc := 57) 2 rfl h.1 dX5_goOn_57 ?_
                replace h := h.2
                refine ga_iand hR (pc := 58) dX5_goOn_58 ?_
                refine ga_ior hR (pc := 59) dX5_goOn_59 ?_
                refine ga_topi (fun v3_12 ev3_12 => ?_)
                replace h := h v3_12 ev3_12
                refine ga_istore_n hR (pc := 60) (lv' := [(3, .int v3_12), (0, .ref (a 0)), (1, .int p1), (2, .int p2), (4, .int v4_10)]) rfl (by decide) rfl dX5_goOn_60 ?_
                obtain ⟨v4_13, ev4_13⟩ : ∃ v : Int32, v = v4_10 + (nI 1) := ⟨_, rfl⟩
                replace h := h v4_13 ev4_13
                refine ga_iinc hR (pc := 61) (lv' := [(4, .int v4_13), (3, .int v3_12), (0, .ref (a 0)), (1, .int p1), (2, .int p2)]) 4 (by decide) rfl ev4_13 (by decide) rfl dX5_goOn_61 ?_
                refine ga_goto hR (pc := 64) 28 (by decide) dX5_goOn_64 ?_
                exact ga_lv hR [2, 3, 4, 1, 0] rfl (ih _ _ h)
        exact ga_lv hR [2, 3, 4, 1, 0] rfl (L28 n _ _ h)
    · intro h
      refine ga_icmp_ne hR (pc := 11) 23 (by decide) dX5_goOn_11 (fun c11 => ?_) (fun c11 => ?_)
      · replace h := h.1 c11
        refine ga_iconst hR (pc := 23) (v := nI 0) (by decide) dX5_goOn_23 ?_
        exact ga_lv hR [0, 1, 2] rfl h
      · replace h := h.2 c11
        refine ga_iload_n hR (pc := 14) 1 rfl rfl dX5_goOn_14 ?_
        refine ga_aload_n hR (pc := 15) 0 rfl rfl dX5_goOn_15 ?_
        refine ga_get hR (pc := 16) 0 rfl rfl hinX5 3 (by decide) f32 rfl dX5_goOn_16 ?_
        refine ga_iand hR (pc := 19) dX5_goOn_19 ?_
        refine ga_goto hR (pc := 20) 24 (by decide) dX5_goOn_20 ?_
        exact ga_lv hR [0, 1, 2] rfl h
  · replace h := h.2 c4
    refine ga_iconst hR (pc := 7) (v := nI 0) (by decide) dX5_goOn_7 ?_
    exact ga_iret hE dX5_goOn_8 rfl (ga_ri () rfl h)

def rm_X5_begunBy : Room := { frames := 1, cells := 0, slots := 0, locals := 20 }
theorem hd_X5_begunByS : yX5_begunBy.cls ≠ "java/lang/invoke/MethodHandle" ∧ yX5_begunBy.cls ≠ "java/lang/invoke/VarHandle" ∧ (parseMethodDescriptor yX5_begunBy.desc).map (fun d => d.parameters.length) = some 1 := by decide +kernel
theorem hd_X5_begunBy : yX5_begunBy.cls = RX5 ∧ yX5_begunBy.cls ≠ "java/lang/invoke/MethodHandle" ∧ yX5_begunBy.cls ≠ "java/lang/invoke/VarHandle" ∧ (parseMethodDescriptor yX5_begunBy.desc).map (fun d => d.parameters.length) = some 1 := ⟨rfl, hd_X5_begunByS⟩
set_option maxHeartbeats 4000000 in
set_option maxRecDepth 100000 in
theorem c_X5_begunBy (V : ga_V) (a : Nat → Nat) (x_loose : Int32) (x_firsts : Int32) (x_takers : Nat → Int32) (p1 : Int32) (K : Int32 → Prop) (h : wp_X5_begunBy x_firsts x_takers p1 K) : ga_C V yX5_begunBy wsX5_begunBy rm_X5_begunBy [.ref (a 0), .int p1] [(a 0, .inr (5, [.ref (a 1), .ref (a 2), .int x_firsts, .int x_loose])), (a 2, .inl (V.2 0, 6, .inl x_takers))] 0 0 (ga_Fi (fun (u : Unit) => [(a 0, .inr (5, [.ref (a 1), .ref (a 2), .int x_firsts, .int x_loose])), (a 2, .inl (V.2 0, 6, .inl x_takers))]) (fun r u => K r)) := by
  refine ga_met (cc := cX5_begunBy) (maxL := 2) (rt := (some .int)) (by decide) rfl [(0, .ref (a 0)), (1, .int p1)] rfl (Nat.le_of_ble_eq_true rfl) ?_
  intro G hR hE
  have hinX5 : ∀ w ∈ u_ws RX5 TX5 4, w ∈ wsX5_begunBy := by decide +kernel
  have f28 : Cond.fieldLink RX5 28 "BoundaryRules$Steps" "firsts" "I" ∈ wsX5_begunBy := by decide +kernel
  have f15 : Cond.fieldLink RX5 15 "BoundaryRules$Steps" "takers" "[I" ∈ wsX5_begunBy := by decide +kernel
  unfold wp_X5_begunBy at h
  refine ga_iload_n hR (pc := 0) 1 rfl rfl dX5_begunBy_0 ?_
  refine ga_callSN hR (pc := 1) (As := [.int p1]) (rest := []) (st0 := [.int p1]) 1 (c_X9_isClass V p1 _ h) (ga_same_i fun _ => rfl) gX5_begunBy_X9_isClass_n69 rfl rfl rfl hd_X9_isClassS ⟨Nat.le_of_ble_eq_true rfl, Nat.le_of_ble_eq_true rfl⟩ rfl rfl (Nat.le_of_ble_eq_true rfl) ⟨Nat.zero_le _, Nat.zero_le _⟩ [] rfl rfl (host := "BoundaryRules") (by decide +kernel) (by decide +kernel) (by decide +kernel) dX5_begunBy_1 ?_
  rintro _ _ ⟨r_1, ⟨⟩, rfl, rfl, h⟩
  refine ga_to [(a 0, .inr (5, [.ref (a 1), .ref (a 2), .int x_firsts, .int x_loose])), (a 2, .inl (V.2 0, 6, .inl x_takers))] [.int r_1] rfl rfl ?_
  try dsimp only at h
  refine ga_if_eq hR (pc := 4) 21 (by decide) dX5_begunBy_4 (fun c4 => ?_) (fun c4 => ?_)
  · replace h := h.1 c4
    refine ga_iconst hR (pc := 21) (v := nI 0) (by decide) dX5_begunBy_21 ?_
    exact ga_iret hE dX5_begunBy_22 rfl (ga_ri () rfl h)
  · replace h := h.2 c4
    refine ga_aload_n hR (pc := 7) 0 rfl rfl dX5_begunBy_7 ?_
    refine ga_get hR (pc := 8) 0 rfl rfl hinX5 2 (by decide) f28 rfl dX5_begunBy_8 ?_
    refine ga_aload_n hR (pc := 11) 0 rfl rfl dX5_begunBy_11 ?_
    refine ga_get hR (pc := 12) 0 rfl rfl hinX5 1 (by decide) f15 rfl dX5_begunBy_12 ?_
    refine ga_iload_n hR (pc := 15) 1 rfl rfl dX5_begunBy_15 ?_
    refine ga_iald hR (pc := 16) 1 rfl h.1 dX5_begunBy_16 ?_
    replace h := h.2
    refine ga_iand hR (pc := 17) dX5_begunBy_17 ?_
    refine ga_goto hR (pc := 18) 22 (by decide) dX5_begunBy_18 ?_
    exact ga_iret hE dX5_begunBy_22 rfl (ga_ri () rfl h)

def rm_X3_read : Room := { frames := 3, cells := 0, slots := 0, locals := 62 }
theorem hd_X3_readS : yX3_read.cls ≠ "java/lang/invoke/MethodHandle" ∧ yX3_read.cls ≠ "java/lang/invoke/VarHandle" ∧ (parseMethodDescriptor yX3_read.desc).map (fun d => d.parameters.length) = some 3 := by decide +kernel
theorem hd_X3_read : yX3_read.cls = RX3 ∧ yX3_read.cls ≠ "java/lang/invoke/MethodHandle" ∧ yX3_read.cls ≠ "java/lang/invoke/VarHandle" ∧ (parseMethodDescriptor yX3_read.desc).map (fun d => d.parameters.length) = some 3 := ⟨rfl, hd_X3_readS⟩
set_option maxHeartbeats 4000000 in
set_option maxRecDepth 100000 in
theorem c_X3_read (V : ga_V) (a : Nat → Nat) (b : Nat → Nat) (c : Nat → Nat) (x_length : Int32) (x_bounds : Int32) (x_stands : Nat → Int32) (y_length : Int32) (y_classes : Nat → Int32) (y_line : Nat → Int32) (z_firsts : Int32) (z_loose : Int32) (z_onward : Nat → Int32) (z_takers : Nat → Int32) (p3 : Int32) (K : Int32 → Int32 → (Nat → Int32) → Prop) (h : wp_X3_read x_length x_bounds x_stands y_length y_classes y_line z_firsts z_loose z_onward z_takers p3 K) : ga_C V yX3_read wsX3_read rm_X3_read [.ref (a 0), .ref (b 0), .ref (c 0), .int p3] [(a 0, .inr (3, [.ref (a 1), .int x_length, .int x_bounds])), (a 1, .inl (V.2 0, 31, .inl x_stands)), (b 0, .inr (6, [.ref (b 1), .ref (b 2), .ref (b 3), .int y_length])), (b 1, .inl (V.2 0, 26, .inl y_classes)), (b 3, .inl (V.2 0, 30, .inl y_line)), (c 0, .inr (5, [.ref (c 1), .ref (c 2), .int z_firsts, .int z_loose])), (c 1, .inl (V.2 0, 10, .inl z_onward)), (c 2, .inl (V.2 0, 6, .inl z_takers))] 0 0 (ga_Fv (fun (u : Int32 × Int32 × (Nat → Int32)) => [(a 0, .inr (3, [.ref (a 1), .int u.1, .int u.2.1])), (a 1, .inl (V.2 0, 31, .inl u.2.2)), (b 0, .inr (6, [.ref (b 1), .ref (b 2), .ref (b 3), .int y_length])), (b 1, .inl (V.2 0, 26, .inl y_classes)), (b 3, .inl (V.2 0, 30, .inl y_line)), (c 0, .inr (5, [.ref (c 1), .ref (c 2), .int z_firsts, .int z_loose])), (c 1, .inl (V.2 0, 10, .inl z_onward)), (c 2, .inl (V.2 0, 6, .inl z_takers))]) (fun u => K u.1 u.2.1 u.2.2)) := by
  refine ga_met (cc := cX3_read) (maxL := 7) (rt := none) (by decide) rfl [(0, .ref (a 0)), (1, .ref (b 0)), (2, .ref (c 0)), (3, .int p3)] rfl (Nat.le_of_ble_eq_true rfl) ?_
  intro G hR hE
  have hinX3 : ∀ w ∈ u_ws RX3 TX3 3, w ∈ wsX3_read := by decide +kernel
  have f21 : Cond.fieldLink RX3 21 "BoundaryRules$Pieces" "length" "I" ∈ wsX3_read := by decide +kernel
  have f24 : Cond.fieldLink RX3 24 "BoundaryRules$Pieces" "bounds" "I" ∈ wsX3_read := by decide +kernel
  have f9 : Cond.fieldLink RX3 9 "BoundaryRules$Pieces" "stands" "[I" ∈ wsX3_read := by decide +kernel
  unfold wp_X3_read at h
  refine ga_aload_n hR (pc := 0) 0 rfl rfl dX3_read_0 ?_
  refine ga_aload_n hR (pc := 1) 1 rfl rfl dX3_read_1 ?_
  refine ga_callV hR (pc := 2) (As := []) (rest := [.ref (a 0)]) (st0 := [.ref (b 0), .ref (a 0)]) (b := (b 0)) 0 (c_X6_length V b y_length _ h) (ga_same_i fun _ => rfl) gX3_read_X6_length rfl rfl rfl hd_X6_length ⟨Nat.le_of_ble_eq_true rfl, Nat.le_of_ble_eq_true rfl⟩ rfl rfl (Nat.le_of_ble_eq_true rfl) ⟨Nat.zero_le _, Nat.zero_le _⟩ [2] rfl rfl 2 rfl rfl dX3_read_2 ?_
  rintro _ _ ⟨r_1, ⟨⟩, rfl, rfl, h⟩
  refine ga_to [(a 0, .inr (3, [.ref (a 1), .int x_length, .int x_bounds])), (a 1, .inl (V.2 0, 31, .inl x_stands)), (b 0, .inr (6, [.ref (b 1), .ref (b 2), .ref (b 3), .int y_length])), (b 1, .inl (V.2 0, 26, .inl y_classes)), (b 3, .inl (V.2 0, 30, .inl y_line)), (c 0, .inr (5, [.ref (c 1), .ref (c 2), .int z_firsts, .int z_loose])), (c 1, .inl (V.2 0, 10, .inl z_onward)), (c 2, .inl (V.2 0, 6, .inl z_takers))] [.int r_1, .ref (a 0)] rfl rfl ?_
  try dsimp only at h
  refine ga_putf hR (pc := 5) (ws' := [(a 0, .inr (3, [.ref (a 1), .int r_1, .int x_bounds])), (a 1, .inl (V.2 0, 31, .inl x_stands)), (b 0, .inr (6, [.ref (b 1), .ref (b 2), .ref (b 3), .int y_length])), (b 1, .inl (V.2 0, 26, .inl y_classes)), (b 3, .inl (V.2 0, 30, .inl y_line)), (c 0, .inr (5, [.ref (c 1), .ref (c 2), .int z_firsts, .int z_loose])), (c 1, .inl (V.2 0, 10, .inl z_onward)), (c 2, .inl (V.2 0, 6, .inl z_takers))]) 0 rfl rfl hinX3 1 (by decide) f21 tyX3_ok nmX3 rfl rfl rfl (Nat.le_of_ble_eq_true rfl) rfl dX3_read_5 ?_
  refine ga_aload_n hR (pc := 8) 0 rfl rfl dX3_read_8 ?_
  refine ga_iconst hR (pc := 9) (v := nI 1) (by decide) dX3_read_9 ?_
  refine ga_iconst hR (pc := 10) (v := nI 1) (by decide) dX3_read_10 ?_
  refine ga_aload_n hR (pc := 11) 0 rfl rfl dX3_read_11 ?_
  refine ga_get hR (pc := 12) 0 rfl rfl hinX3 1 (by decide) f21 rfl dX3_read_12 ?_
  refine ga_ishl hR (pc := 15) dX3_read_15 ?_
  refine ga_ior hR (pc := 16) dX3_read_16 ?_
  refine ga_topi (fun x_bounds_2 ex_bounds_2 => ?_)
  replace h := h x_bounds_2 ex_bounds_2
  refine ga_putf hR (pc := 17) (ws' := [(a 0, .inr (3, [.ref (a 1), .int r_1, .int x_bounds_2])), (a 1, .inl (V.2 0, 31, .inl x_stands)), (b 0, .inr (6, [.ref (b 1), .ref (b 2), .ref (b 3), .int y_length])), (b 1, .inl (V.2 0, 26, .inl y_classes)), (b 3, .inl (V.2 0, 30, .inl y_line)), (c 0, .inr (5, [.ref (c 1), .ref (c 2), .int z_firsts, .int z_loose])), (c 1, .inl (V.2 0, 10, .inl z_onward)), (c 2, .inl (V.2 0, 6, .inl z_takers))]) 0 rfl rfl hinX3 2 (by decide) f24 tyX3_ok nmX3 rfl rfl rfl (Nat.le_of_ble_eq_true rfl) rfl dX3_read_17 ?_
  refine ga_iconst hR (pc := 20) (v := nI 0) (by decide) dX3_read_20 ?_
  refine ga_istore hR (pc := 21) (lv' := [(4, .int (nI 0)), (0, .ref (a 0)), (1, .ref (b 0)), (2, .ref (c 0)), (3, .int p3)]) (by decide) rfl dX3_read_21 ?_
  refine ga_iconst hR (pc := 23) (v := nI 0) (by decide) dX3_read_23 ?_
  refine ga_istore hR (pc := 24) (lv' := [(5, .int (nI 0)), (4, .int (nI 0)), (0, .ref (a 0)), (1, .ref (b 0)), (2, .ref (c 0)), (3, .int p3)]) (by decide) rfl dX3_read_24 ?_
  have hJ := h (fun (x_bounds_3 : Int32) (x_stands_4 : Nat → Int32) => G 0 0 [(a 0, .inr (3, [.ref (a 1), .int r_1, .int x_bounds_3])), (a 1, .inl (V.2 0, 31, .inl x_stands_4)), (b 0, .inr (6, [.ref (b 1), .ref (b 2), .ref (b 3), .int y_length])), (b 1, .inl (V.2 0, 26, .inl y_classes)), (b 3, .inl (V.2 0, 30, .inl y_line)), (c 0, .inr (5, [.ref (c 1), .ref (c 2), .int z_firsts, .int z_loose])), (c 1, .inl (V.2 0, 10, .inl z_onward)), (c 2, .inl (V.2 0, 6, .inl z_takers))] 100 [] [])
  refine ga_bind hJ ?_ ?_
  · intro x_bounds_3 x_stands_4 h
    show G 0 0 [(a 0, .inr (3, [.ref (a 1), .int r_1, .int x_bounds_3])), (a 1, .inl (V.2 0, 31, .inl x_stands_4)), (b 0, .inr (6, [.ref (b 1), .ref (b 2), .ref (b 3), .int y_length])), (b 1, .inl (V.2 0, 26, .inl y_classes)), (b 3, .inl (V.2 0, 30, .inl y_line)), (c 0, .inr (5, [.ref (c 1), .ref (c 2), .int z_firsts, .int z_loose])), (c 1, .inl (V.2 0, 10, .inl z_onward)), (c 2, .inl (V.2 0, 6, .inl z_takers))] 100 [] []
    exact ga_vret hE dX3_read_100 (ga_rv (r_1, x_bounds_3, x_stands_4) rfl h)
  · intro h
    obtain ⟨n, h⟩ := h
    have L26 : ∀ (n : Nat) (v4_15 : Int32) (v5_16 : Int32) (x_bounds_17 : Int32) (x_stands_18 : Nat → Int32), lp_X3_read_26 r_1 y_length y_classes y_line z_firsts z_loose z_onward z_takers p3 (fun (x_bounds_3 : Int32) (x_stands_4 : Nat → Int32) => G 0 0 [(a 0, .inr (3, [.ref (a 1), .int r_1, .int x_bounds_3])), (a 1, .inl (V.2 0, 31, .inl x_stands_4)), (b 0, .inr (6, [.ref (b 1), .ref (b 2), .ref (b 3), .int y_length])), (b 1, .inl (V.2 0, 26, .inl y_classes)), (b 3, .inl (V.2 0, 30, .inl y_line)), (c 0, .inr (5, [.ref (c 1), .ref (c 2), .int z_firsts, .int z_loose])), (c 1, .inl (V.2 0, 10, .inl z_onward)), (c 2, .inl (V.2 0, 6, .inl z_takers))] 100 [] []) n v4_15 v5_16 x_bounds_17 x_stands_18 → G 0 0 [(a 0, .inr (3, [.ref (a 1), .int r_1, .int x_bounds_17])), (a 1, .inl (V.2 0, 31, .inl x_stands_18)), (b 0, .inr (6, [.ref (b 1), .ref (b 2), .ref (b 3), .int y_length])), (b 1, .inl (V.2 0, 26, .inl y_classes)), (b 3, .inl (V.2 0, 30, .inl y_line)), (c 0, .inr (5, [.ref (c 1), .ref (c 2), .int z_firsts, .int z_loose])), (c 1, .inl (V.2 0, 10, .inl z_onward)), (c 2, .inl (V.2 0, 6, .inl z_takers))] 26 [(0, .ref (a 0)), (1, .ref (b 0)), (2, .ref (c 0)), (3, .int p3), (4, .int v4_15), (5, .int v5_16)] [] := by
      intro n
      induction n with
      | zero => exact fun _ _ _ _ h => False.elim h
      | succ n ih =>
        intro v4_15 v5_16 x_bounds_17 x_stands_18 h
        rw [lp_X3_read_26] at h
        refine ga_iload hR (pc := 26) 5 rfl dX3_read_26 ?_
        refine ga_aload_n hR (pc := 28) 0 rfl rfl dX3_read_28 ?_
        refine ga_get hR (pc := 29) 0 rfl rfl hinX3 1 (by decide) f21 rfl dX3_read_29 ?_
        refine ga_icmp_ge hR (pc := 32) 100 (by decide) dX3_read_32 (fun c32 => ?_) (fun c32 => ?_)
        · replace h := h.1 c32
          exact ga_lv hR [] rfl h
        · replace h := h.2 c32
          refine ga_aload_n hR (pc := 35) 1 rfl rfl dX3_read_35 ?_
          refine ga_iload hR (pc := 36) 5 rfl dX3_read_36 ?_
          refine ga_callV hR (pc := 38) (As := [.int v5_16]) (rest := []) (st0 := [.int v5_16, .ref (b 0)]) (b := (b 0)) 1 (c_X6_classAt V b y_length y_classes y_line v5_16 _ h) (ga_same_i fun _ => rfl) gX3_read_X6_classAt rfl rfl rfl hd_X6_classAt ⟨Nat.le_of_ble_eq_true rfl, Nat.le_of_ble_eq_true rfl⟩ rfl rfl (Nat.le_of_ble_eq_true rfl) ⟨Nat.zero_le _, Nat.zero_le _⟩ [2, 3, 4] rfl rfl 2 rfl rfl dX3_read_38 ?_
          rintro _ _ ⟨r_19, ⟨⟩, rfl, rfl, h⟩
          refine ga_to [(a 0, .inr (3, [.ref (a 1), .int r_1, .int x_bounds_17])), (a 1, .inl (V.2 0, 31, .inl x_stands_18)), (b 0, .inr (6, [.ref (b 1), .ref (b 2), .ref (b 3), .int y_length])), (b 1, .inl (V.2 0, 26, .inl y_classes)), (b 3, .inl (V.2 0, 30, .inl y_line)), (c 0, .inr (5, [.ref (c 1), .ref (c 2), .int z_firsts, .int z_loose])), (c 1, .inl (V.2 0, 10, .inl z_onward)), (c 2, .inl (V.2 0, 6, .inl z_takers))] [.int r_19] rfl rfl ?_
          try dsimp only at h
          refine ga_istore hR (pc := 41) (lv' := [(6, .int r_19), (0, .ref (a 0)), (1, .ref (b 0)), (2, .ref (c 0)), (3, .int p3), (4, .int v4_15), (5, .int v5_16)]) (by decide) rfl dX3_read_41 ?_
          refine ga_aload_n hR (pc := 43) 3 rfl rfl dX3_read_43 ?_
          refine ga_iload hR (pc := 44) 5 rfl dX3_read_44 ?_
          refine ga_iload hR (pc := 46) 0 rfl dX3_read_46 ?_
          refine ga_callV hR (pc := 48) (As := [.int v4_15, .int r_19]) (rest := []) (st0 := [.int r_19, .int v4_15, .ref (c 0)]) (b := (c 0)) 2 (c_X5_goOn V c z_firsts z_loose z_onward z_takers v4_15 r_19 _ h) (ga_same_i fun _ => rfl) gX3_read_X5_goOn rfl rfl rfl hd_X5_goOn ⟨Nat.le_of_ble_eq_true rfl, Nat.le_of_ble_eq_true rfl⟩ rfl rfl (Nat.le_of_ble_eq_true rfl) ⟨Nat.zero_le _, Nat.zero_le _⟩ [5, 6, 7] rfl rfl 5 rfl rfl dX3_read_48 ?_
          rintro _ _ ⟨r_20, ⟨⟩, rfl, rfl, h⟩
          refine ga_to [(a 0, .inr (3, [.ref (a 1), .int r_1, .int x_bounds_17])), (a 1, .inl (V.2 0, 31, .inl x_stands_18)), (b 0, .inr (6, [.ref (b 1), .ref (b 2), .ref (b 3), .int y_length])), (b 1, .inl (V.2 0, 26, .inl y_classes)), (b 3, .inl (V.2 0, 30, .inl y_line)), (c 0, .inr (5, [.ref (c 1), .ref (c 2), .int z_firsts, .int z_loose])), (c 1, .inl (V.2 0, 10, .inl z_onward)), (c 2, .inl (V.2 0, 6, .inl z_takers))] [.int r_20] rfl rfl ?_
          try dsimp only at h
          refine ga_istore hR (pc := 51) (lv' := [(4, .int r_20), (6, .int r_19), (0, .ref (a 0)), (1, .ref (b 0)), (2, .ref (c 0)), (3, .int p3), (5, .int v5_16)]) (by decide) rfl dX3_read_51 ?_
          refine ga_iload hR (pc := 53) 0 rfl dX3_read_53 ?_
          refine ga_if_ne hR (pc := 55) 83 (by decide) dX3_read_55 (fun c55 => ?_) (fun c55 => ?_)
          · replace h := h.1 c55
            refine ga_aload_n hR (pc := 83) 2 rfl rfl dX3_read_83 ?_
            refine ga_get hR (pc := 84) 0 rfl rfl hinX3 0 (by decide) f9 rfl dX3_read_84 ?_
            refine ga_iload hR (pc := 87) 6 rfl dX3_read_87 ?_
            refine ga_iconst hR (pc := 89) (v := nI 1) (by decide) dX3_read_89 ?_
            refine ga_iadd hR (pc := 90) dX3_read_90 ?_
            refine ga_iload hR (pc := 91) 0 rfl dX3_read_91 ?_
            refine ga_iast hR (pc := 93) (ws' := [(a 0, .inr (3, [.ref (a 1), .int r_1, .int x_bounds_17])), (a 1, .inl (V.2 0, 31, .inl ((upd x_stands_18 (v5_16 + (nI 1)).toNatClampNeg r_20)))), (b 0, .inr (6, [.ref (b 1), .ref (b 2), .ref (b 3), .int y_length])), (b 1, .inl (V.2 0, 26, .inl y_classes)), (b 3, .inl (V.2 0, 30, .inl y_line)), (c 0, .inr (5, [.ref (c 1), .ref (c 2), .int z_firsts, .int z_loose])), (c 1, .inl (V.2 0, 10, .inl z_onward)), (c 2, .inl (V.2 0, 6, .inl z_takers))]) 1 rfl h.1 rfl dX3_read_93 ?_
            replace h := h.2
            obtain ⟨x_stands_21, ex_stands_21⟩ : ∃ f : Nat → Int32, f = upd x_stands_18 (v5_16 + (nI 1)).toNatClampNeg r_20 := ⟨_, rfl⟩
            refine ga_cast (ws' := [(a 0, .inr (3, [.ref (a 1), .int r_1, .int x_bounds_17])), (a 1, .inl (V.2 0, 31, .inl x_stands_21)), (b 0, .inr (6, [.ref (b 1), .ref (b 2), .ref (b 3), .int y_length])), (b 1, .inl (V.2 0, 26, .inl y_classes)), (b 3, .inl (V.2 0, 30, .inl y_line)), (c 0, .inr (5, [.ref (c 1), .ref (c 2), .int z_firsts, .int z_loose])), (c 1, .inl (V.2 0, 10, .inl z_onward)), (c 2, .inl (V.2 0, 6, .inl z_takers))]) (by rw [ex_stands_21]) rfl ?_
            replace h := h x_stands_21 ex_stands_21
            obtain ⟨v5_22, ev5_22⟩ : ∃ v : Int32, v = v5_16 + (nI 1) := ⟨_, rfl⟩
            replace h := h v5_22 ev5_22
            refine ga_iinc hR (pc := 94) (lv' := [(5, .int v5_22), (4, .int r_20), (6, .int r_19), (0, .ref (a 0)), (1, .ref (b 0)), (2, .ref (c 0)), (3, .int p3)]) 6 (by decide) rfl ev5_22 (by decide) rfl dX3_read_94 ?_
            refine ga_goto hR (pc := 97) 26 (by decide) dX3_read_97 ?_
            exact ga_lv hR [3, 4, 5, 6, 1, 0] rfl (ih _ _ _ _ h)
          · replace h := h.2 c55
            refine ga_aload_n hR (pc := 58) 2 rfl rfl dX3_read_58 ?_
            refine ga_dup hR (pc := 59) rfl dX3_read_59 ?_
            refine ga_get hR (pc := 60) 0 rfl rfl hinX3 2 (by decide) f24 rfl dX3_read_60 ?_
            refine ga_iconst hR (pc := 63) (v := nI 1) (by decide) dX3_read_63 ?_
            refine ga_iload hR (pc := 64) 6 rfl dX3_read_64 ?_
            refine ga_ishl hR (pc := 66) dX3_read_66 ?_
            refine ga_ior hR (pc := 67) dX3_read_67 ?_
            refine ga_topi (fun x_bounds_23 ex_bounds_23 => ?_)
            replace h := h x_bounds_23 ex_bounds_23
            refine ga_putf hR (pc := 68) (ws' := [(a 0, .inr (3, [.ref (a 1), .int r_1, .int x_bounds_23])), (a 1, .inl (V.2 0, 31, .inl x_stands_18)), (b 0, .inr (6, [.ref (b 1), .ref (b 2), .ref (b 3), .int y_length])), (b 1, .inl (V.2 0, 26, .inl y_classes)), (b 3, .inl (V.2 0, 30, .inl y_line)), (c 0, .inr (5, [.ref (c 1), .ref (c 2), .int z_firsts, .int z_loose])), (c 1, .inl (V.2 0, 10, .inl z_onward)), (c 2, .inl (V.2 0, 6, .inl z_takers))]) 0 rfl rfl hinX3 2 (by decide) f24 tyX3_ok nmX3 rfl rfl rfl (Nat.le_of_ble_eq_true rfl) rfl dX3_read_68 ?_
            refine ga_aload_n hR (pc := 71) 4 rfl rfl dX3_read_71 ?_
            refine ga_iload hR (pc := 72) 1 rfl dX3_read_72 ?_
            refine ga_callV hR (pc := 74) (As := [.int r_19]) (rest := []) (st0 := [.int r_19, .ref (c 0)]) (b := (c 0)) 1 (c_X5_begunBy V c z_loose z_firsts z_takers r_19 _ h) (ga_same_i fun _ => rfl) gX3_read_X5_begunBy rfl rfl rfl hd_X5_begunBy ⟨Nat.le_of_ble_eq_true rfl, Nat.le_of_ble_eq_true rfl⟩ rfl rfl (Nat.le_of_ble_eq_true rfl) ⟨Nat.zero_le _, Nat.zero_le _⟩ [5, 7] rfl rfl 5 rfl rfl dX3_read_74 ?_
            rintro _ _ ⟨r_24, ⟨⟩, rfl, rfl, h⟩
            refine ga_to [(a 0, .inr (3, [.ref (a 1), .int r_1, .int x_bounds_23])), (a 1, .inl (V.2 0, 31, .inl x_stands_18)), (b 0, .inr (6, [.ref (b 1), .ref (b 2), .ref (b 3), .int y_length])), (b 1, .inl (V.2 0, 26, .inl y_classes)), (b 3, .inl (V.2 0, 30, .inl y_line)), (c 0, .inr (5, [.ref (c 1), .ref (c 2), .int z_firsts, .int z_loose])), (c 1, .inl (V.2 0, 10, .inl z_onward)), (c 2, .inl (V.2 0, 6, .inl z_takers))] [.int r_24] rfl rfl ?_
            try dsimp only at h
            refine ga_iload_n hR (pc := 77) 5 rfl rfl dX3_read_77 ?_
            refine ga_iconst hR (pc := 78) (v := -1) (by decide) dX3_read_78 ?_
            refine ga_ixor hR (pc := 79) dX3_read_79 ?_
            refine ga_iand hR (pc := 80) dX3_read_80 ?_
            refine ga_topi (fun v4_25 ev4_25 => ?_)
            replace h := h v4_25 ev4_25
            refine ga_istore hR (pc := 81) (lv' := [(4, .int v4_25), (6, .int r_19), (0, .ref (a 0)), (1, .ref (b 0)), (2, .ref (c 0)), (3, .int p3), (5, .int v5_16)]) (by decide) rfl dX3_read_81 ?_
            refine ga_aload_n hR (pc := 83) 2 rfl rfl dX3_read_83 ?_
            refine ga_get hR (pc := 84) 0 rfl rfl hinX3 0 (by decide) f9 rfl dX3_read_84 ?_
            refine ga_iload hR (pc := 87) 6 rfl dX3_read_87 ?_
            refine ga_iconst hR (pc := 89) (v := nI 1) (by decide) dX3_read_89 ?_
            refine ga_iadd hR (pc := 90) dX3_read_90 ?_
            refine ga_iload hR (pc := 91) 0 rfl dX3_read_91 ?_
            refine ga_iast hR (pc := 93) (ws' := [(a 0, .inr (3, [.ref (a 1), .int r_1, .int x_bounds_23])), (a 1, .inl (V.2 0, 31, .inl ((upd x_stands_18 (v5_16 + (nI 1)).toNatClampNeg v4_25)))), (b 0, .inr (6, [.ref (b 1), .ref (b 2), .ref (b 3), .int y_length])), (b 1, .inl (V.2 0, 26, .inl y_classes)), (b 3, .inl (V.2 0, 30, .inl y_line)), (c 0, .inr (5, [.ref (c 1), .ref (c 2), .int z_firsts, .int z_loose])), (c 1, .inl (V.2 0, 10, .inl z_onward)), (c 2, .inl (V.2 0, 6, .inl z_takers))]) 1 rfl h.1 rfl dX3_read_93 ?_
            replace h := h.2
            obtain ⟨x_stands_26, ex_stands_26⟩ : ∃ f : Nat → Int32, f = upd x_stands_18 (v5_16 + (nI 1)).toNatClampNeg v4_25 := ⟨_, rfl⟩
            refine ga_cast (ws' := [(a 0, .inr (3, [.ref (a 1), .int r_1, .int x_bounds_23])), (a 1, .inl (V.2 0, 31, .inl x_stands_26)), (b 0, .inr (6, [.ref (b 1), .ref (b 2), .ref (b 3), .int y_length])), (b 1, .inl (V.2 0, 26, .inl y_classes)), (b 3, .inl (V.2 0, 30, .inl y_line)), (c 0, .inr (5, [.ref (c 1), .ref (c 2), .int z_firsts, .int z_loose])), (c 1, .inl (V.2 0, 10, .inl z_onward)), (c 2, .inl (V.2 0, 6, .inl z_takers))]) (by rw [ex_stands_26]) rfl ?_
            replace h := h x_stands_26 ex_stands_26
            obtain ⟨v5_27, ev5_27⟩ : ∃ v : Int32, v = v5_16 + (nI 1) := ⟨_, rfl⟩
            replace h := h v5_27 ev5_27
            refine ga_iinc hR (pc := 94) (lv' := [(5, .int v5_27), (4, .int v4_25), (6, .int r_19), (0, .ref (a 0)), (1, .ref (b 0)), (2, .ref (c 0)), (3, .int p3)]) 6 (by decide) rfl ev5_27 (by decide) rfl dX3_read_94 ?_
            refine ga_goto hR (pc := 97) 26 (by decide) dX3_read_97 ?_
            exact ga_lv hR [3, 4, 5, 6, 1, 0] rfl (ih _ _ _ _ h)
    exact ga_lv hR [2, 3, 4, 5, 1, 0] rfl (L26 n _ _ _ _ h)

def rm_X0_dropOldest : Room := { frames := 1, cells := 0, slots := 0, locals := 35 }
theorem hd_X0_dropOldestS : yX0_dropOldest.cls ≠ "java/lang/invoke/MethodHandle" ∧ yX0_dropOldest.cls ≠ "java/lang/invoke/VarHandle" ∧ (parseMethodDescriptor yX0_dropOldest.desc).map (fun d => d.parameters.length) = some 0 := by decide +kernel
theorem hd_X0_dropOldest : yX0_dropOldest.cls = RX0 ∧ yX0_dropOldest.cls ≠ "java/lang/invoke/MethodHandle" ∧ yX0_dropOldest.cls ≠ "java/lang/invoke/VarHandle" ∧ (parseMethodDescriptor yX0_dropOldest.desc).map (fun d => d.parameters.length) = some 0 := ⟨rfl, hd_X0_dropOldestS⟩
set_option maxHeartbeats 4000000 in
set_option maxRecDepth 100000 in
theorem c_X0_dropOldest (V : ga_V) (a : Nat → Nat) (x_number : Int32) (x_acts : Nat → Int32) (x_wheres : Nat → Int32) (x_befores : Nat → Int32) (K : Int32 → (Nat → Int32) → (Nat → Int32) → (Nat → Int32) → Prop) (h : wp_X0_dropOldest x_number x_acts x_wheres x_befores K) : ga_C V yX0_dropOldest wsX0_dropOldest rm_X0_dropOldest [.ref (a 0)] [(a 0, .inr (0, [.ref (a 1), .ref (a 2), .ref (a 3), .int x_number])), (a 1, .inl (V.2 0, 8, .inl x_acts)), (a 2, .inl (V.2 0, 8, .inl x_wheres)), (a 3, .inl (V.2 0, 8, .inl x_befores))] 0 0 (ga_Fv (fun (u : Int32 × (Nat → Int32) × (Nat → Int32) × (Nat → Int32)) => [(a 0, .inr (0, [.ref (a 1), .ref (a 2), .ref (a 3), .int u.1])), (a 1, .inl (V.2 0, 8, .inl u.2.1)), (a 2, .inl (V.2 0, 8, .inl u.2.2.1)), (a 3, .inl (V.2 0, 8, .inl u.2.2.2))]) (fun u => K u.1 u.2.1 u.2.2.1 u.2.2.2)) := by
  refine ga_met (cc := cX0_dropOldest) (maxL := 1) (rt := none) (by decide) rfl [(0, .ref (a 0))] rfl (Nat.le_of_ble_eq_true rfl) ?_
  intro G hR hE
  have hinX0 : ∀ w ∈ u_ws RX0 TX0 4, w ∈ wsX0_dropOldest := by decide +kernel
  have f21 : Cond.fieldLink RX0 21 "BoundaryRules$Acts" "number" "I" ∈ wsX0_dropOldest := by decide +kernel
  have f9 : Cond.fieldLink RX0 9 "BoundaryRules$Acts" "acts" "[I" ∈ wsX0_dropOldest := by decide +kernel
  have f15 : Cond.fieldLink RX0 15 "BoundaryRules$Acts" "wheres" "[I" ∈ wsX0_dropOldest := by decide +kernel
  have f18 : Cond.fieldLink RX0 18 "BoundaryRules$Acts" "befores" "[I" ∈ wsX0_dropOldest := by decide +kernel
  unfold wp_X0_dropOldest at h
  refine ga_aload_n hR (pc := 0) 0 rfl rfl dX0_dropOldest_0 ?_
  refine ga_bipush hR (pc := 1) (v := nI 7) (by decide) dX0_dropOldest_1 ?_
  refine ga_putf hR (pc := 3) (ws' := [(a 0, .inr (0, [.ref (a 1), .ref (a 2), .ref (a 3), .int (nI 7)])), (a 1, .inl (V.2 0, 8, .inl x_acts)), (a 2, .inl (V.2 0, 8, .inl x_wheres)), (a 3, .inl (V.2 0, 8, .inl x_befores))]) 0 rfl rfl hinX0 3 (by decide) f21 tyX0_ok nmX0 rfl rfl rfl (Nat.le_of_ble_eq_true rfl) rfl dX0_dropOldest_3 ?_
  refine ga_aload_n hR (pc := 6) 0 rfl rfl dX0_dropOldest_6 ?_
  refine ga_get hR (pc := 7) 0 rfl rfl hinX0 0 (by decide) f9 rfl dX0_dropOldest_7 ?_
  refine ga_iconst hR (pc := 10) (v := nI 1) (by decide) dX0_dropOldest_10 ?_
  refine ga_aload_n hR (pc := 11) 0 rfl rfl dX0_dropOldest_11 ?_
  refine ga_get hR (pc := 12) 0 rfl rfl hinX0 0 (by decide) f9 rfl dX0_dropOldest_12 ?_
  refine ga_iconst hR (pc := 15) (v := nI 0) (by decide) dX0_dropOldest_15 ?_
  refine ga_aload_n hR (pc := 16) 0 rfl rfl dX0_dropOldest_16 ?_
  refine ga_get hR (pc := 17) 0 rfl rfl hinX0 3 (by decide) f21 rfl dX0_dropOldest_17 ?_
  refine ga_copyi hR (pc := 20) (ws' := [(a 0, .inr (0, [.ref (a 1), .ref (a 2), .ref (a 3), .int (nI 7)])), (a 1, .inl (V.2 0, 8, .inl ((va_cpy x_acts x_acts (nI 1).toNatClampNeg (nI 0).toNatClampNeg (nI 7).toNatClampNeg)))), (a 2, .inl (V.2 0, 8, .inl x_wheres)), (a 3, .inl (V.2 0, 8, .inl x_befores))]) 1 1 rfl rfl h.1 h.2.1 h.2.2.1 h.2.2.2.1 h.2.2.2.2.1 (by decide +kernel) (by decide +kernel) (by decide +kernel) (by decide +kernel) (Nat.le_of_ble_eq_true rfl) (Nat.le_of_ble_eq_true rfl) rfl dX0_dropOldest_20 ?_
  replace h := h.2.2.2.2.2
  obtain ⟨x_acts_1, ex_acts_1⟩ : ∃ f : Nat → Int32, f = va_cpy x_acts x_acts (nI 1).toNatClampNeg (nI 0).toNatClampNeg (nI 7).toNatClampNeg := ⟨_, rfl⟩
  refine ga_cast (ws' := [(a 0, .inr (0, [.ref (a 1), .ref (a 2), .ref (a 3), .int (nI 7)])), (a 1, .inl (V.2 0, 8, .inl x_acts_1)), (a 2, .inl (V.2 0, 8, .inl x_wheres)), (a 3, .inl (V.2 0, 8, .inl x_befores))]) (by rw [ex_acts_1]) rfl ?_
  replace h := h x_acts_1 ex_acts_1
  refine ga_aload_n hR (pc := 23) 0 rfl rfl dX0_dropOldest_23 ?_
  refine ga_get hR (pc := 24) 0 rfl rfl hinX0 1 (by decide) f15 rfl dX0_dropOldest_24 ?_
  refine ga_iconst hR (pc := 27) (v := nI 1) (by decide) dX0_dropOldest_27 ?_
  refine ga_aload_n hR (pc := 28) 0 rfl rfl dX0_dropOldest_28 ?_
  refine ga_get hR (pc := 29) 0 rfl rfl hinX0 1 (by decide) f15 rfl dX0_dropOldest_29 ?_
  refine ga_iconst hR (pc := 32) (v := nI 0) (by decide) dX0_dropOldest_32 ?_
  refine ga_aload_n hR (pc := 33) 0 rfl rfl dX0_dropOldest_33 ?_
  refine ga_get hR (pc := 34) 0 rfl rfl hinX0 3 (by decide) f21 rfl dX0_dropOldest_34 ?_
  refine ga_copyi hR (pc := 37) (ws' := [(a 0, .inr (0, [.ref (a 1), .ref (a 2), .ref (a 3), .int (nI 7)])), (a 1, .inl (V.2 0, 8, .inl x_acts_1)), (a 2, .inl (V.2 0, 8, .inl ((va_cpy x_wheres x_wheres (nI 1).toNatClampNeg (nI 0).toNatClampNeg (nI 7).toNatClampNeg)))), (a 3, .inl (V.2 0, 8, .inl x_befores))]) 2 2 rfl rfl h.1 h.2.1 h.2.2.1 h.2.2.2.1 h.2.2.2.2.1 (by decide +kernel) (by decide +kernel) (by decide +kernel) (by decide +kernel) (Nat.le_of_ble_eq_true rfl) (Nat.le_of_ble_eq_true rfl) rfl dX0_dropOldest_37 ?_
  replace h := h.2.2.2.2.2
  obtain ⟨x_wheres_2, ex_wheres_2⟩ : ∃ f : Nat → Int32, f = va_cpy x_wheres x_wheres (nI 1).toNatClampNeg (nI 0).toNatClampNeg (nI 7).toNatClampNeg := ⟨_, rfl⟩
  refine ga_cast (ws' := [(a 0, .inr (0, [.ref (a 1), .ref (a 2), .ref (a 3), .int (nI 7)])), (a 1, .inl (V.2 0, 8, .inl x_acts_1)), (a 2, .inl (V.2 0, 8, .inl x_wheres_2)), (a 3, .inl (V.2 0, 8, .inl x_befores))]) (by rw [ex_wheres_2]) rfl ?_
  replace h := h x_wheres_2 ex_wheres_2
  refine ga_aload_n hR (pc := 40) 0 rfl rfl dX0_dropOldest_40 ?_
  refine ga_get hR (pc := 41) 0 rfl rfl hinX0 2 (by decide) f18 rfl dX0_dropOldest_41 ?_
  refine ga_iconst hR (pc := 44) (v := nI 1) (by decide) dX0_dropOldest_44 ?_
  refine ga_aload_n hR (pc := 45) 0 rfl rfl dX0_dropOldest_45 ?_
  refine ga_get hR (pc := 46) 0 rfl rfl hinX0 2 (by decide) f18 rfl dX0_dropOldest_46 ?_
  refine ga_iconst hR (pc := 49) (v := nI 0) (by decide) dX0_dropOldest_49 ?_
  refine ga_aload_n hR (pc := 50) 0 rfl rfl dX0_dropOldest_50 ?_
  refine ga_get hR (pc := 51) 0 rfl rfl hinX0 3 (by decide) f21 rfl dX0_dropOldest_51 ?_
  refine ga_copyi hR (pc := 54) (ws' := [(a 0, .inr (0, [.ref (a 1), .ref (a 2), .ref (a 3), .int (nI 7)])), (a 1, .inl (V.2 0, 8, .inl x_acts_1)), (a 2, .inl (V.2 0, 8, .inl x_wheres_2)), (a 3, .inl (V.2 0, 8, .inl ((va_cpy x_befores x_befores (nI 1).toNatClampNeg (nI 0).toNatClampNeg (nI 7).toNatClampNeg))))]) 3 3 rfl rfl h.1 h.2.1 h.2.2.1 h.2.2.2.1 h.2.2.2.2.1 (by decide +kernel) (by decide +kernel) (by decide +kernel) (by decide +kernel) (Nat.le_of_ble_eq_true rfl) (Nat.le_of_ble_eq_true rfl) rfl dX0_dropOldest_54 ?_
  replace h := h.2.2.2.2.2
  obtain ⟨x_befores_3, ex_befores_3⟩ : ∃ f : Nat → Int32, f = va_cpy x_befores x_befores (nI 1).toNatClampNeg (nI 0).toNatClampNeg (nI 7).toNatClampNeg := ⟨_, rfl⟩
  refine ga_cast (ws' := [(a 0, .inr (0, [.ref (a 1), .ref (a 2), .ref (a 3), .int (nI 7)])), (a 1, .inl (V.2 0, 8, .inl x_acts_1)), (a 2, .inl (V.2 0, 8, .inl x_wheres_2)), (a 3, .inl (V.2 0, 8, .inl x_befores_3))]) (by rw [ex_befores_3]) rfl ?_
  replace h := h x_befores_3 ex_befores_3
  exact ga_vret hE dX0_dropOldest_57 (ga_rv (nI 7, x_acts_1, x_wheres_2, x_befores_3) rfl h)

def rm_X0_note : Room := { frames := 2, cells := 0, slots := 0, locals := 55 }
theorem hd_X0_noteS : yX0_note.cls ≠ "java/lang/invoke/MethodHandle" ∧ yX0_note.cls ≠ "java/lang/invoke/VarHandle" ∧ (parseMethodDescriptor yX0_note.desc).map (fun d => d.parameters.length) = some 3 := by decide +kernel
theorem hd_X0_note : yX0_note.cls = RX0 ∧ yX0_note.cls ≠ "java/lang/invoke/MethodHandle" ∧ yX0_note.cls ≠ "java/lang/invoke/VarHandle" ∧ (parseMethodDescriptor yX0_note.desc).map (fun d => d.parameters.length) = some 3 := ⟨rfl, hd_X0_noteS⟩
set_option maxHeartbeats 4000000 in
set_option maxRecDepth 100000 in
theorem c_X0_note (V : ga_V) (a : Nat → Nat) (x_number : Int32) (x_acts : Nat → Int32) (x_wheres : Nat → Int32) (x_befores : Nat → Int32) (p1 : Int32) (p2 : Int32) (p3 : Int32) (K : Int32 → (Nat → Int32) → (Nat → Int32) → (Nat → Int32) → Prop) (h : wp_X0_note x_number x_acts x_wheres x_befores p1 p2 p3 K) : ga_C V yX0_note wsX0_note rm_X0_note [.ref (a 0), .int p1, .int p2, .int p3] [(a 0, .inr (0, [.ref (a 1), .ref (a 2), .ref (a 3), .int x_number])), (a 1, .inl (V.2 0, 8, .inl x_acts)), (a 2, .inl (V.2 0, 8, .inl x_wheres)), (a 3, .inl (V.2 0, 8, .inl x_befores))] 0 0 (ga_Fv (fun (u : Int32 × (Nat → Int32) × (Nat → Int32) × (Nat → Int32)) => [(a 0, .inr (0, [.ref (a 1), .ref (a 2), .ref (a 3), .int u.1])), (a 1, .inl (V.2 0, 8, .inl u.2.1)), (a 2, .inl (V.2 0, 8, .inl u.2.2.1)), (a 3, .inl (V.2 0, 8, .inl u.2.2.2))]) (fun u => K u.1 u.2.1 u.2.2.1 u.2.2.2)) := by
  refine ga_met (cc := cX0_note) (maxL := 4) (rt := none) (by decide) rfl [(0, .ref (a 0)), (1, .int p1), (2, .int p2), (3, .int p3)] rfl (Nat.le_of_ble_eq_true rfl) ?_
  intro G hR hE
  have hinX0 : ∀ w ∈ u_ws RX0 TX0 4, w ∈ wsX0_note := by decide +kernel
  have f21 : Cond.fieldLink RX0 21 "BoundaryRules$Acts" "number" "I" ∈ wsX0_note := by decide +kernel
  have f9 : Cond.fieldLink RX0 9 "BoundaryRules$Acts" "acts" "[I" ∈ wsX0_note := by decide +kernel
  have f15 : Cond.fieldLink RX0 15 "BoundaryRules$Acts" "wheres" "[I" ∈ wsX0_note := by decide +kernel
  have f18 : Cond.fieldLink RX0 18 "BoundaryRules$Acts" "befores" "[I" ∈ wsX0_note := by decide +kernel
  unfold wp_X0_note at h
  refine ga_aload_n hR (pc := 0) 0 rfl rfl dX0_note_0 ?_
  refine ga_get hR (pc := 1) 0 rfl rfl hinX0 3 (by decide) f21 rfl dX0_note_1 ?_
  refine ga_bipush hR (pc := 4) (v := nI 8) (by decide) dX0_note_4 ?_
  have hJ := h (fun (x_number_1 : Int32) (x_acts_2 : Nat → Int32) (x_wheres_3 : Nat → Int32) (x_befores_4 : Nat → Int32) => G 0 0 [(a 0, .inr (0, [.ref (a 1), .ref (a 2), .ref (a 3), .int x_number_1])), (a 1, .inl (V.2 0, 8, .inl x_acts_2)), (a 2, .inl (V.2 0, 8, .inl x_wheres_3)), (a 3, .inl (V.2 0, 8, .inl x_befores_4))] 13 [(0, .ref (a 0)), (1, .int p1), (2, .int p2), (3, .int p3)] [])
  refine ga_bind hJ ?_ ?_
  · intro x_number_1 x_acts_2 x_wheres_3 x_befores_4 h
    show G 0 0 [(a 0, .inr (0, [.ref (a 1), .ref (a 2), .ref (a 3), .int x_number_1])), (a 1, .inl (V.2 0, 8, .inl x_acts_2)), (a 2, .inl (V.2 0, 8, .inl x_wheres_3)), (a 3, .inl (V.2 0, 8, .inl x_befores_4))] 13 [(0, .ref (a 0)), (1, .int p1), (2, .int p2), (3, .int p3)] []
    refine ga_aload_n hR (pc := 13) 0 rfl rfl dX0_note_13 ?_
    refine ga_get hR (pc := 14) 0 rfl rfl hinX0 0 (by decide) f9 rfl dX0_note_14 ?_
    refine ga_aload_n hR (pc := 17) 0 rfl rfl dX0_note_17 ?_
    refine ga_get hR (pc := 18) 0 rfl rfl hinX0 3 (by decide) f21 rfl dX0_note_18 ?_
    refine ga_iload_n hR (pc := 21) 1 rfl rfl dX0_note_21 ?_
    refine ga_iast hR (pc := 22) (ws' := [(a 0, .inr (0, [.ref (a 1), .ref (a 2), .ref (a 3), .int x_number_1])), (a 1, .inl (V.2 0, 8, .inl ((upd x_acts_2 x_number_1.toNatClampNeg p1)))), (a 2, .inl (V.2 0, 8, .inl x_wheres_3)), (a 3, .inl (V.2 0, 8, .inl x_befores_4))]) 1 rfl h.1 rfl dX0_note_22 ?_
    replace h := h.2
    obtain ⟨x_acts_6, ex_acts_6⟩ : ∃ f : Nat → Int32, f = upd x_acts_2 x_number_1.toNatClampNeg p1 := ⟨_, rfl⟩
    refine ga_cast (ws' := [(a 0, .inr (0, [.ref (a 1), .ref (a 2), .ref (a 3), .int x_number_1])), (a 1, .inl (V.2 0, 8, .inl x_acts_6)), (a 2, .inl (V.2 0, 8, .inl x_wheres_3)), (a 3, .inl (V.2 0, 8, .inl x_befores_4))]) (by rw [ex_acts_6]) rfl ?_
    replace h := h x_acts_6 ex_acts_6
    refine ga_aload_n hR (pc := 23) 0 rfl rfl dX0_note_23 ?_
    refine ga_get hR (pc := 24) 0 rfl rfl hinX0 1 (by decide) f15 rfl dX0_note_24 ?_
    refine ga_aload_n hR (pc := 27) 0 rfl rfl dX0_note_27 ?_
    refine ga_get hR (pc := 28) 0 rfl rfl hinX0 3 (by decide) f21 rfl dX0_note_28 ?_
    refine ga_iload_n hR (pc := 31) 2 rfl rfl dX0_note_31 ?_
    refine ga_iast hR (pc := 32) (ws' := [(a 0, .inr (0, [.ref (a 1), .ref (a 2), .ref (a 3), .int x_number_1])), (a 1, .inl (V.2 0, 8, .inl x_acts_6)), (a 2, .inl (V.2 0, 8, .inl ((upd x_wheres_3 x_number_1.toNatClampNeg p2)))), (a 3, .inl (V.2 0, 8, .inl x_befores_4))]) 2 rfl h.1 rfl dX0_note_32 ?_
    replace h := h.2
    obtain ⟨x_wheres_7, ex_wheres_7⟩ : ∃ f : Nat → Int32, f = upd x_wheres_3 x_number_1.toNatClampNeg p2 := ⟨_, rfl⟩
    refine ga_cast (ws' := [(a 0, .inr (0, [.ref (a 1), .ref (a 2), .ref (a 3), .int x_number_1])), (a 1, .inl (V.2 0, 8, .inl x_acts_6)), (a 2, .inl (V.2 0, 8, .inl x_wheres_7)), (a 3, .inl (V.2 0, 8, .inl x_befores_4))]) (by rw [ex_wheres_7]) rfl ?_
    replace h := h x_wheres_7 ex_wheres_7
    refine ga_aload_n hR (pc := 33) 0 rfl rfl dX0_note_33 ?_
    refine ga_get hR (pc := 34) 0 rfl rfl hinX0 2 (by decide) f18 rfl dX0_note_34 ?_
    refine ga_aload_n hR (pc := 37) 0 rfl rfl dX0_note_37 ?_
    refine ga_get hR (pc := 38) 0 rfl rfl hinX0 3 (by decide) f21 rfl dX0_note_38 ?_
    refine ga_iload_n hR (pc := 41) 3 rfl rfl dX0_note_41 ?_
    refine ga_iast hR (pc := 42) (ws' := [(a 0, .inr (0, [.ref (a 1), .ref (a 2), .ref (a 3), .int x_number_1])), (a 1, .inl (V.2 0, 8, .inl x_acts_6)), (a 2, .inl (V.2 0, 8, .inl x_wheres_7)), (a 3, .inl (V.2 0, 8, .inl ((upd x_befores_4 x_number_1.toNatClampNeg p3))))]) 3 rfl h.1 rfl dX0_note_42 ?_
    replace h := h.2
    obtain ⟨x_befores_8, ex_befores_8⟩ : ∃ f : Nat → Int32, f = upd x_befores_4 x_number_1.toNatClampNeg p3 := ⟨_, rfl⟩
    refine ga_cast (ws' := [(a 0, .inr (0, [.ref (a 1), .ref (a 2), .ref (a 3), .int x_number_1])), (a 1, .inl (V.2 0, 8, .inl x_acts_6)), (a 2, .inl (V.2 0, 8, .inl x_wheres_7)), (a 3, .inl (V.2 0, 8, .inl x_befores_8))]) (by rw [ex_befores_8]) rfl ?_
    replace h := h x_befores_8 ex_befores_8
    refine ga_aload_n hR (pc := 43) 0 rfl rfl dX0_note_43 ?_
    refine ga_dup hR (pc := 44) rfl dX0_note_44 ?_
    refine ga_get hR (pc := 45) 0 rfl rfl hinX0 3 (by decide) f21 rfl dX0_note_45 ?_
    refine ga_iconst hR (pc := 48) (v := nI 1) (by decide) dX0_note_48 ?_
    refine ga_iadd hR (pc := 49) dX0_note_49 ?_
    refine ga_topi (fun x_number_9 ex_number_9 => ?_)
    replace h := h x_number_9 ex_number_9
    refine ga_putf hR (pc := 50) (ws' := [(a 0, .inr (0, [.ref (a 1), .ref (a 2), .ref (a 3), .int x_number_9])), (a 1, .inl (V.2 0, 8, .inl x_acts_6)), (a 2, .inl (V.2 0, 8, .inl x_wheres_7)), (a 3, .inl (V.2 0, 8, .inl x_befores_8))]) 0 rfl rfl hinX0 3 (by decide) f21 tyX0_ok nmX0 rfl rfl rfl (Nat.le_of_ble_eq_true rfl) rfl dX0_note_50 ?_
    exact ga_vret hE dX0_note_53 (ga_rv (x_number_9, x_acts_6, x_wheres_7, x_befores_8) rfl h)
  · intro h
    refine ga_icmp_lt hR (pc := 6) 13 (by decide) dX0_note_6 (fun c6 => ?_) (fun c6 => ?_)
    · replace h := h.1 c6
      exact ga_lv hR [0, 1, 2, 3] rfl h
    · replace h := h.2 c6
      refine ga_aload_n hR (pc := 9) 0 rfl rfl dX0_note_9 ?_
      refine ga_callV hR (pc := 10) (As := []) (rest := []) (st0 := [.ref (a 0)]) (b := (a 0)) 0 (c_X0_dropOldest V a x_number x_acts x_wheres x_befores _ h) (ga_same_v fun _ => rfl) gX0_note_X0_dropOldest rfl rfl rfl hd_X0_dropOldest ⟨Nat.le_of_ble_eq_true rfl, Nat.le_of_ble_eq_true rfl⟩ rfl rfl (Nat.le_of_ble_eq_true rfl) ⟨Nat.zero_le _, Nat.zero_le _⟩ [0, 1, 2, 3] rfl rfl 0 rfl rfl dX0_note_10 ?_
      rintro _ _ ⟨⟨x_number_10, x_acts_11, x_wheres_12, x_befores_13⟩, rfl, rfl, h⟩
      refine ga_to [(a 0, .inr (0, [.ref (a 1), .ref (a 2), .ref (a 3), .int x_number_10])), (a 1, .inl (V.2 0, 8, .inl x_acts_11)), (a 2, .inl (V.2 0, 8, .inl x_wheres_12)), (a 3, .inl (V.2 0, 8, .inl x_befores_13))] [] rfl rfl ?_
      try dsimp only at h
      exact ga_lv hR [0, 1, 2, 3] rfl h

def rm_X6_takeOut : Room := { frames := 0, cells := 0, slots := 0, locals := 0 }
theorem hd_X6_takeOutS : yX6_takeOut.cls ≠ "java/lang/invoke/MethodHandle" ∧ yX6_takeOut.cls ≠ "java/lang/invoke/VarHandle" ∧ (parseMethodDescriptor yX6_takeOut.desc).map (fun d => d.parameters.length) = some 1 := by decide +kernel
theorem hd_X6_takeOut : yX6_takeOut.cls = RX6 ∧ yX6_takeOut.cls ≠ "java/lang/invoke/MethodHandle" ∧ yX6_takeOut.cls ≠ "java/lang/invoke/VarHandle" ∧ (parseMethodDescriptor yX6_takeOut.desc).map (fun d => d.parameters.length) = some 1 := ⟨rfl, hd_X6_takeOutS⟩
set_option maxHeartbeats 4000000 in
set_option maxRecDepth 100000 in
theorem c_X6_takeOut (V : ga_V) (a : Nat → Nat) (x_length : Int32) (x_line : Nat → Int32) (p1 : Int32) (K : Int32 → (Nat → Int32) → Prop) (h : wp_X6_takeOut x_length x_line p1 K) : ga_C V yX6_takeOut wsX6_takeOut rm_X6_takeOut [.ref (a 0), .int p1] [(a 0, .inr (6, [.ref (a 1), .ref (a 2), .ref (a 3), .int x_length])), (a 3, .inl (V.2 0, 30, .inl x_line))] 0 0 (ga_Fv (fun (u : Int32 × (Nat → Int32)) => [(a 0, .inr (6, [.ref (a 1), .ref (a 2), .ref (a 3), .int u.1])), (a 3, .inl (V.2 0, 30, .inl u.2))]) (fun u => K u.1 u.2)) := by
  refine ga_met (cc := cX6_takeOut) (maxL := 3) (rt := none) (by decide) rfl [(0, .ref (a 0)), (1, .int p1)] rfl (Nat.le_of_ble_eq_true rfl) ?_
  intro G hR hE
  have hinX6 : ∀ w ∈ u_ws RX6 TX6 4, w ∈ wsX6_takeOut := by decide +kernel
  have f21 : Cond.fieldLink RX6 21 "BoundaryRules$Stock" "length" "I" ∈ wsX6_takeOut := by decide +kernel
  have f18 : Cond.fieldLink RX6 18 "BoundaryRules$Stock" "line" "[I" ∈ wsX6_takeOut := by decide +kernel
  unfold wp_X6_takeOut at h
  refine ga_iload_n hR (pc := 0) 1 rfl rfl dX6_takeOut_0 ?_
  refine ga_if_lt hR (pc := 1) 12 (by decide) dX6_takeOut_1 (fun c1 => ?_) (fun c1 => ?_)
  · replace h := h.1 c1
    exact ga_vret hE dX6_takeOut_12 (ga_rv (x_length, x_line) rfl h)
  · replace h := h.2 c1
    refine ga_iload_n hR (pc := 4) 1 rfl rfl dX6_takeOut_4 ?_
    refine ga_aload_n hR (pc := 5) 0 rfl rfl dX6_takeOut_5 ?_
    refine ga_get hR (pc := 6) 0 rfl rfl hinX6 3 (by decide) f21 rfl dX6_takeOut_6 ?_
    refine ga_icmp_lt hR (pc := 9) 13 (by decide) dX6_takeOut_9 (fun c9 => ?_) (fun c9 => ?_)
    · replace h := h.1 c9
      refine ga_aload_n hR (pc := 13) 0 rfl rfl dX6_takeOut_13 ?_
      refine ga_dup hR (pc := 14) rfl dX6_takeOut_14 ?_
      refine ga_get hR (pc := 15) 0 rfl rfl hinX6 3 (by decide) f21 rfl dX6_takeOut_15 ?_
      refine ga_iconst hR (pc := 18) (v := nI 1) (by decide) dX6_takeOut_18 ?_
      refine ga_isub hR (pc := 19) dX6_takeOut_19 ?_
      refine ga_topi (fun x_length_1 ex_length_1 => ?_)
      replace h := h x_length_1 ex_length_1
      refine ga_putf hR (pc := 20) (ws' := [(a 0, .inr (6, [.ref (a 1), .ref (a 2), .ref (a 3), .int x_length_1])), (a 3, .inl (V.2 0, 30, .inl x_line))]) 0 rfl rfl hinX6 3 (by decide) f21 tyX6_ok nmX6 rfl rfl rfl (Nat.le_of_ble_eq_true rfl) rfl dX6_takeOut_20 ?_
      refine ga_iload_n hR (pc := 23) 1 rfl rfl dX6_takeOut_23 ?_
      refine ga_istore_n hR (pc := 24) (lv' := [(2, .int p1), (0, .ref (a 0)), (1, .int p1)]) rfl (by decide) rfl dX6_takeOut_24 ?_
      have hJ := h (fun (x_line_2 : Nat → Int32) => G 0 0 [(a 0, .inr (6, [.ref (a 1), .ref (a 2), .ref (a 3), .int x_length_1])), (a 3, .inl (V.2 0, 30, .inl x_line_2))] 53 [] [])
      refine ga_bind hJ ?_ ?_
      · intro x_line_2 h
        show G 0 0 [(a 0, .inr (6, [.ref (a 1), .ref (a 2), .ref (a 3), .int x_length_1])), (a 3, .inl (V.2 0, 30, .inl x_line_2))] 53 [] []
        exact ga_vret hE dX6_takeOut_53 (ga_rv (x_length_1, x_line_2) rfl h)
      · intro h
        obtain ⟨n, h⟩ := h
        have L25 : ∀ (n : Nat) (v2_7 : Int32) (x_line_8 : Nat → Int32), lp_X6_takeOut_25 x_length_1 (fun (x_line_2 : Nat → Int32) => G 0 0 [(a 0, .inr (6, [.ref (a 1), .ref (a 2), .ref (a 3), .int x_length_1])), (a 3, .inl (V.2 0, 30, .inl x_line_2))] 53 [] []) n v2_7 x_line_8 → G 0 0 [(a 0, .inr (6, [.ref (a 1), .ref (a 2), .ref (a 3), .int x_length_1])), (a 3, .inl (V.2 0, 30, .inl x_line_8))] 25 [(0, .ref (a 0)), (2, .int v2_7)] [] := by
          intro n
          induction n with
          | zero => exact fun _ _ h => False.elim h
          | succ n ih =>
            intro v2_7 x_line_8 h
            rw [lp_X6_takeOut_25] at h
            refine ga_iload_n hR (pc := 25) 1 rfl rfl dX6_takeOut_25 ?_
            refine ga_aload_n hR (pc := 26) 0 rfl rfl dX6_takeOut_26 ?_
            refine ga_get hR (pc := 27) 0 rfl rfl hinX6 3 (by decide) f21 rfl dX6_takeOut_27 ?_
            refine ga_icmp_ge hR (pc := 30) 53 (by decide) dX6_takeOut_30 (fun c30 => ?_) (fun c30 => ?_)
            · replace h := h.1 c30
              exact ga_lv hR [] rfl h
            · replace h := h.2 c30
              refine ga_aload_n hR (pc := 33) 0 rfl rfl dX6_takeOut_33 ?_
              refine ga_get hR (pc := 34) 0 rfl rfl hinX6 2 (by decide) f18 rfl dX6_takeOut_34 ?_
              refine ga_iload_n hR (pc := 37) 1 rfl rfl dX6_takeOut_37 ?_
              refine ga_aload_n hR (pc := 38) 0 rfl rfl dX6_takeOut_38 ?_
              refine ga_get hR (pc := 39) 0 rfl rfl hinX6 2 (by decide) f18 rfl dX6_takeOut_39 ?_
              refine ga_iload_n hR (pc := 42) 1 rfl rfl dX6_takeOut_42 ?_
              refine ga_iconst hR (pc := 43) (v := nI 1) (by decide) dX6_takeOut_43 ?_
              refine ga_iadd hR (pc := 44) dX6_takeOut_44 ?_
              refine ga_iald hR (pc := 45) 1 rfl h.1 dX6_takeOut_45 ?_
              replace h := h.2
              refine ga_topi (fun t_9 et_9 => ?_)
              replace h := h t_9 et_9
              refine ga_iast hR (pc := 46) (ws' := [(a 0, .inr (6, [.ref (a 1), .ref (a 2), .ref (a 3), .int x_length_1])), (a 3, .inl (V.2 0, 30, .inl ((upd x_line_8 v2_7.toNatClampNeg t_9))))]) 1 rfl h.1 rfl dX6_takeOut_46 ?_
              replace h := h.2
              obtain ⟨x_line_10, ex_line_10⟩ : ∃ f : Nat → Int32, f = upd x_line_8 v2_7.toNatClampNeg t_9 := ⟨_, rfl⟩
              refine ga_cast (ws' := [(a 0, .inr (6, [.ref (a 1), .ref (a 2), .ref (a 3), .int x_length_1])), (a 3, .inl (V.2 0, 30, .inl x_line_10))]) (by rw [ex_line_10]) rfl ?_
              replace h := h x_line_10 ex_line_10
              obtain ⟨v2_11, ev2_11⟩ : ∃ v : Int32, v = v2_7 + (nI 1) := ⟨_, rfl⟩
              replace h := h v2_11 ev2_11
              refine ga_iinc hR (pc := 47) (lv' := [(2, .int v2_11), (0, .ref (a 0))]) 1 (by decide) rfl ev2_11 (by decide) rfl dX6_takeOut_47 ?_
              refine ga_goto hR (pc := 50) 25 (by decide) dX6_takeOut_50 ?_
              exact ga_lv hR [1, 0] rfl (ih _ _ h)
        exact ga_lv hR [1, 0] rfl (L25 n _ _ h)
    · replace h := h.2 c9
      exact ga_vret hE dX6_takeOut_12 (ga_rv (x_length, x_line) rfl h)

def rm_X0_number : Room := { frames := 0, cells := 0, slots := 0, locals := 0 }
theorem hd_X0_numberS : yX0_number.cls ≠ "java/lang/invoke/MethodHandle" ∧ yX0_number.cls ≠ "java/lang/invoke/VarHandle" ∧ (parseMethodDescriptor yX0_number.desc).map (fun d => d.parameters.length) = some 0 := by decide +kernel
theorem hd_X0_number : yX0_number.cls = RX0 ∧ yX0_number.cls ≠ "java/lang/invoke/MethodHandle" ∧ yX0_number.cls ≠ "java/lang/invoke/VarHandle" ∧ (parseMethodDescriptor yX0_number.desc).map (fun d => d.parameters.length) = some 0 := ⟨rfl, hd_X0_numberS⟩
set_option maxHeartbeats 4000000 in
set_option maxRecDepth 100000 in
theorem c_X0_number (V : ga_V) (a : Nat → Nat) (x_number : Int32) (K : Int32 → Prop) (h : wp_X0_number x_number K) : ga_C V yX0_number wsX0_number rm_X0_number [.ref (a 0)] [(a 0, .inr (0, [.ref (a 1), .ref (a 2), .ref (a 3), .int x_number]))] 0 0 (ga_Fi (fun (u : Unit) => [(a 0, .inr (0, [.ref (a 1), .ref (a 2), .ref (a 3), .int x_number]))]) (fun r u => K r)) := by
  refine ga_met (cc := cX0_number) (maxL := 1) (rt := (some .int)) (by decide) rfl [(0, .ref (a 0))] rfl (Nat.le_of_ble_eq_true rfl) ?_
  intro G hR hE
  have hinX0 : ∀ w ∈ u_ws RX0 TX0 4, w ∈ wsX0_number := by decide +kernel
  have f21 : Cond.fieldLink RX0 21 "BoundaryRules$Acts" "number" "I" ∈ wsX0_number := by decide +kernel
  unfold wp_X0_number at h
  refine ga_aload_n hR (pc := 0) 0 rfl rfl dX0_number_0 ?_
  refine ga_get hR (pc := 1) 0 rfl rfl hinX0 3 (by decide) f21 rfl dX0_number_1 ?_
  exact ga_iret hE dX0_number_4 rfl (ga_ri () rfl h)

def rm_X0_takeBackFrom : Room := { frames := 2, cells := 0, slots := 0, locals := 42 }
theorem hd_X0_takeBackFromS : yX0_takeBackFrom.cls ≠ "java/lang/invoke/MethodHandle" ∧ yX0_takeBackFrom.cls ≠ "java/lang/invoke/VarHandle" ∧ (parseMethodDescriptor yX0_takeBackFrom.desc).map (fun d => d.parameters.length) = some 1 := by decide +kernel
theorem hd_X0_takeBackFrom : yX0_takeBackFrom.cls = RX0 ∧ yX0_takeBackFrom.cls ≠ "java/lang/invoke/MethodHandle" ∧ yX0_takeBackFrom.cls ≠ "java/lang/invoke/VarHandle" ∧ (parseMethodDescriptor yX0_takeBackFrom.desc).map (fun d => d.parameters.length) = some 1 := ⟨rfl, hd_X0_takeBackFromS⟩
set_option maxHeartbeats 4000000 in
set_option maxRecDepth 100000 in
theorem c_X0_takeBackFrom (V : ga_V) (a : Nat → Nat) (b : Nat → Nat) (x_number : Int32) (x_acts : Nat → Int32) (x_wheres : Nat → Int32) (x_befores : Nat → Int32) (y_length : Int32) (y_classes : Nat → Int32) (y_kinds : Nat → Int32) (y_line : Nat → Int32) (K : Int32 → Int32 → Int32 → (Nat → Int32) → (Nat → Int32) → (Nat → Int32) → Prop) (h : wp_X0_takeBackFrom x_number x_acts x_wheres x_befores y_length y_classes y_kinds y_line K) : ga_C V yX0_takeBackFrom wsX0_takeBackFrom rm_X0_takeBackFrom [.ref (a 0), .ref (b 0)] [(a 0, .inr (0, [.ref (a 1), .ref (a 2), .ref (a 3), .int x_number])), (a 1, .inl (V.2 0, 8, .inl x_acts)), (a 2, .inl (V.2 0, 8, .inl x_wheres)), (a 3, .inl (V.2 0, 8, .inl x_befores)), (b 0, .inr (6, [.ref (b 1), .ref (b 2), .ref (b 3), .int y_length])), (b 1, .inl (V.2 0, 26, .inl y_classes)), (b 2, .inl (V.2 0, 4, .inl y_kinds)), (b 3, .inl (V.2 0, 30, .inl y_line))] 0 0 (ga_Fi (fun (u : Int32 × Int32 × (Nat → Int32) × (Nat → Int32) × (Nat → Int32)) => [(a 0, .inr (0, [.ref (a 1), .ref (a 2), .ref (a 3), .int u.1])), (a 1, .inl (V.2 0, 8, .inl x_acts)), (a 2, .inl (V.2 0, 8, .inl x_wheres)), (a 3, .inl (V.2 0, 8, .inl x_befores)), (b 0, .inr (6, [.ref (b 1), .ref (b 2), .ref (b 3), .int u.2.1])), (b 1, .inl (V.2 0, 26, .inl u.2.2.1)), (b 2, .inl (V.2 0, 4, .inl u.2.2.2.1)), (b 3, .inl (V.2 0, 30, .inl u.2.2.2.2))]) (fun r u => K r u.1 u.2.1 u.2.2.1 u.2.2.2.1 u.2.2.2.2)) := by
  refine ga_met (cc := cX0_takeBackFrom) (maxL := 4) (rt := (some .boolean)) (by decide) rfl [(0, .ref (a 0)), (1, .ref (b 0))] rfl (Nat.le_of_ble_eq_true rfl) ?_
  intro G hR hE
  have hinX0 : ∀ w ∈ u_ws RX0 TX0 4, w ∈ wsX0_takeBackFrom := by decide +kernel
  have f21 : Cond.fieldLink RX0 21 "BoundaryRules$Acts" "number" "I" ∈ wsX0_takeBackFrom := by decide +kernel
  have f15 : Cond.fieldLink RX0 15 "BoundaryRules$Acts" "wheres" "[I" ∈ wsX0_takeBackFrom := by decide +kernel
  have f18 : Cond.fieldLink RX0 18 "BoundaryRules$Acts" "befores" "[I" ∈ wsX0_takeBackFrom := by decide +kernel
  have f9 : Cond.fieldLink RX0 9 "BoundaryRules$Acts" "acts" "[I" ∈ wsX0_takeBackFrom := by decide +kernel
  unfold wp_X0_takeBackFrom at h
  refine ga_aload_n hR (pc := 0) 0 rfl rfl dX0_takeBackFrom_0 ?_
  refine ga_get hR (pc := 1) 0 rfl rfl hinX0 3 (by decide) f21 rfl dX0_takeBackFrom_1 ?_
  refine ga_if_gt hR (pc := 4) 9 (by decide) dX0_takeBackFrom_4 (fun c4 => ?_) (fun c4 => ?_)
  · replace h := h.1 c4
    refine ga_aload_n hR (pc := 9) 0 rfl rfl dX0_takeBackFrom_9 ?_
    refine ga_dup hR (pc := 10) rfl dX0_takeBackFrom_10 ?_
    refine ga_get hR (pc := 11) 0 rfl rfl hinX0 3 (by decide) f21 rfl dX0_takeBackFrom_11 ?_
    refine ga_iconst hR (pc := 14) (v := nI 1) (by decide) dX0_takeBackFrom_14 ?_
    refine ga_isub hR (pc := 15) dX0_takeBackFrom_15 ?_
    refine ga_topi (fun x_number_1 ex_number_1 => ?_)
    replace h := h x_number_1 ex_number_1
    refine ga_putf hR (pc := 16) (ws' := [(a 0, .inr (0, [.ref (a 1), .ref (a 2), .ref (a 3), .int x_number_1])), (a 1, .inl (V.2 0, 8, .inl x_acts)), (a 2, .inl (V.2 0, 8, .inl x_wheres)), (a 3, .inl (V.2 0, 8, .inl x_befores)), (b 0, .inr (6, [.ref (b 1), .ref (b 2), .ref (b 3), .int y_length])), (b 1, .inl (V.2 0, 26, .inl y_classes)), (b 2, .inl (V.2 0, 4, .inl y_kinds)), (b 3, .inl (V.2 0, 30, .inl y_line))]) 0 rfl rfl hinX0 3 (by decide) f21 tyX0_ok nmX0 rfl rfl rfl (Nat.le_of_ble_eq_true rfl) rfl dX0_takeBackFrom_16 ?_
    refine ga_aload_n hR (pc := 19) 0 rfl rfl dX0_takeBackFrom_19 ?_
    refine ga_get hR (pc := 20) 0 rfl rfl hinX0 1 (by decide) f15 rfl dX0_takeBackFrom_20 ?_
    refine ga_aload_n hR (pc := 23) 0 rfl rfl dX0_takeBackFrom_23 ?_
    refine ga_get hR (pc := 24) 0 rfl rfl hinX0 3 (by decide) f21 rfl dX0_takeBackFrom_24 ?_
    refine ga_iald hR (pc := 27) 2 rfl h.1 dX0_takeBackFrom_27 ?_
    replace h := h.2
    refine ga_topi (fun v2_2 ev2_2 => ?_)
    replace h := h v2_2 ev2_2
    refine ga_istore_n hR (pc := 28) (lv' := [(2, .int v2_2), (0, .ref (a 0)), (1, .ref (b 0))]) rfl (by decide) rfl dX0_takeBackFrom_28 ?_
    refine ga_aload_n hR (pc := 29) 1 rfl rfl dX0_takeBackFrom_29 ?_
    refine ga_get hR (pc := 30) 0 rfl rfl hinX0 2 (by decide) f18 rfl dX0_takeBackFrom_30 ?_
    refine ga_aload_n hR (pc := 33) 1 rfl rfl dX0_takeBackFrom_33 ?_
    refine ga_get hR (pc := 34) 0 rfl rfl hinX0 3 (by decide) f21 rfl dX0_takeBackFrom_34 ?_
    refine ga_iald hR (pc := 37) 3 rfl h.1 dX0_takeBackFrom_37 ?_
    replace h := h.2
    refine ga_topi (fun v3_3 ev3_3 => ?_)
    replace h := h v3_3 ev3_3
    refine ga_istore_n hR (pc := 38) (lv' := [(3, .int v3_3), (2, .int v2_2), (0, .ref (a 0)), (1, .ref (b 0))]) rfl (by decide) rfl dX0_takeBackFrom_38 ?_
    refine ga_aload_n hR (pc := 39) 2 rfl rfl dX0_takeBackFrom_39 ?_
    refine ga_get hR (pc := 40) 0 rfl rfl hinX0 0 (by decide) f9 rfl dX0_takeBackFrom_40 ?_
    refine ga_aload_n hR (pc := 43) 2 rfl rfl dX0_takeBackFrom_43 ?_
    refine ga_get hR (pc := 44) 0 rfl rfl hinX0 3 (by decide) f21 rfl dX0_takeBackFrom_44 ?_
    refine ga_iald hR (pc := 47) 1 rfl h.1 dX0_takeBackFrom_47 ?_
    replace h := h.2
    refine ga_topi (fun sw_4 esw_4 => ?_)
    replace h := h sw_4 esw_4
    rcases ga_em (sw_4 = (nI 0)) with q48_0 | q48_0
    · replace h := h.1 q48_0
      refine ga_tabIn hR (pc := 48) 76 (off := 28) (by rw [q48_0]; decide) (by rw [q48_0]; decide) (by rw [q48_0]; rfl) (by decide) dX0_takeBackFrom_48 ?_
      refine ga_aload_n hR (pc := 76) 3 rfl rfl dX0_takeBackFrom_76 ?_
      refine ga_iload_n hR (pc := 77) 1 rfl rfl dX0_takeBackFrom_77 ?_
      refine ga_callV hR (pc := 78) (As := [.int v2_2]) (rest := []) (st0 := [.int v2_2, .ref (b 0)]) (b := (b 0)) 1 (c_X6_takeOut V b y_length y_line v2_2 _ h) (ga_same_v fun _ => rfl) gX0_takeBackFrom_X6_takeOut rfl rfl rfl hd_X6_takeOut ⟨Nat.le_of_ble_eq_true rfl, Nat.le_of_ble_eq_true rfl⟩ rfl rfl (Nat.le_of_ble_eq_true rfl) ⟨Nat.zero_le _, Nat.zero_le _⟩ [4, 7] rfl rfl 4 rfl rfl dX0_takeBackFrom_78 ?_
      rintro _ _ ⟨⟨y_length_5, y_line_6⟩, rfl, rfl, h⟩
      refine ga_to [(a 0, .inr (0, [.ref (a 1), .ref (a 2), .ref (a 3), .int x_number_1])), (a 1, .inl (V.2 0, 8, .inl x_acts)), (a 2, .inl (V.2 0, 8, .inl x_wheres)), (a 3, .inl (V.2 0, 8, .inl x_befores)), (b 0, .inr (6, [.ref (b 1), .ref (b 2), .ref (b 3), .int y_length_5])), (b 1, .inl (V.2 0, 26, .inl y_classes)), (b 2, .inl (V.2 0, 4, .inl y_kinds)), (b 3, .inl (V.2 0, 30, .inl y_line_6))] [] rfl rfl ?_
      try dsimp only at h
      refine ga_iconst hR (pc := 81) (v := nI 0) (by decide) dX0_takeBackFrom_81 ?_
      exact ga_iret hE dX0_takeBackFrom_82 (by decide) (ga_ri (x_number_1, y_length_5, y_classes, y_kinds, y_line_6) rfl h)
    · replace h := h.2 q48_0
      rcases ga_em (sw_4 = (nI 1)) with q48_1 | q48_1
      · replace h := h.1 q48_1
        refine ga_tabIn hR (pc := 48) 83 (off := 35) (by rw [q48_1]; decide) (by rw [q48_1]; decide) (by rw [q48_1]; rfl) (by decide) dX0_takeBackFrom_48 ?_
        refine ga_aload_n hR (pc := 83) 3 rfl rfl dX0_takeBackFrom_83 ?_
        refine ga_iload_n hR (pc := 84) 1 rfl rfl dX0_takeBackFrom_84 ?_
        refine ga_iload_n hR (pc := 85) 0 rfl rfl dX0_takeBackFrom_85 ?_
        refine ga_callV hR (pc := 86) (As := [.int v2_2, .int v3_3]) (rest := []) (st0 := [.int v3_3, .int v2_2, .ref (b 0)]) (b := (b 0)) 2 (c_X6_putIn V b y_length y_line v2_2 v3_3 _ h) (ga_same_v fun _ => rfl) gX0_takeBackFrom_X6_putIn rfl rfl rfl hd_X6_putIn ⟨Nat.le_of_ble_eq_true rfl, Nat.le_of_ble_eq_true rfl⟩ rfl rfl (Nat.le_of_ble_eq_true rfl) ⟨Nat.zero_le _, Nat.zero_le _⟩ [4, 7] rfl rfl 4 rfl rfl dX0_takeBackFrom_86 ?_
        rintro _ _ ⟨⟨y_length_7, y_line_8⟩, rfl, rfl, h⟩
        refine ga_to [(a 0, .inr (0, [.ref (a 1), .ref (a 2), .ref (a 3), .int x_number_1])), (a 1, .inl (V.2 0, 8, .inl x_acts)), (a 2, .inl (V.2 0, 8, .inl x_wheres)), (a 3, .inl (V.2 0, 8, .inl x_befores)), (b 0, .inr (6, [.ref (b 1), .ref (b 2), .ref (b 3), .int y_length_7])), (b 1, .inl (V.2 0, 26, .inl y_classes)), (b 2, .inl (V.2 0, 4, .inl y_kinds)), (b 3, .inl (V.2 0, 30, .inl y_line_8))] [] rfl rfl ?_
        try dsimp only at h
        refine ga_iconst hR (pc := 89) (v := nI 0) (by decide) dX0_takeBackFrom_89 ?_
        exact ga_iret hE dX0_takeBackFrom_90 (by decide) (ga_ri (x_number_1, y_length_7, y_classes, y_kinds, y_line_8) rfl h)
      · replace h := h.2 q48_1
        rcases ga_em (sw_4 = (nI 2)) with q48_2 | q48_2
        · replace h := h.1 q48_2
          refine ga_tabIn hR (pc := 48) 91 (off := 43) (by rw [q48_2]; decide) (by rw [q48_2]; decide) (by rw [q48_2]; rfl) (by decide) dX0_takeBackFrom_48 ?_
          refine ga_aload_n hR (pc := 91) 3 rfl rfl dX0_takeBackFrom_91 ?_
          refine ga_iload_n hR (pc := 92) 1 rfl rfl dX0_takeBackFrom_92 ?_
          refine ga_iload_n hR (pc := 93) 0 rfl rfl dX0_takeBackFrom_93 ?_
          refine ga_callV hR (pc := 94) (As := [.int v2_2, .int v3_3]) (rest := []) (st0 := [.int v3_3, .int v2_2, .ref (b 0)]) (b := (b 0)) 2 (c_X6_setClass V b y_length y_classes v2_2 v3_3 _ h) (ga_same_v fun _ => rfl) gX0_takeBackFrom_X6_setClass rfl rfl rfl hd_X6_setClass ⟨Nat.le_of_ble_eq_true rfl, Nat.le_of_ble_eq_true rfl⟩ rfl rfl (Nat.le_of_ble_eq_true rfl) ⟨Nat.zero_le _, Nat.zero_le _⟩ [4, 5] rfl rfl 4 rfl rfl dX0_takeBackFrom_94 ?_
          rintro _ _ ⟨y_classes_9, rfl, rfl, h⟩
          refine ga_to [(a 0, .inr (0, [.ref (a 1), .ref (a 2), .ref (a 3), .int x_number_1])), (a 1, .inl (V.2 0, 8, .inl x_acts)), (a 2, .inl (V.2 0, 8, .inl x_wheres)), (a 3, .inl (V.2 0, 8, .inl x_befores)), (b 0, .inr (6, [.ref (b 1), .ref (b 2), .ref (b 3), .int y_length])), (b 1, .inl (V.2 0, 26, .inl y_classes_9)), (b 2, .inl (V.2 0, 4, .inl y_kinds)), (b 3, .inl (V.2 0, 30, .inl y_line))] [] rfl rfl ?_
          try dsimp only at h
          refine ga_iconst hR (pc := 97) (v := nI 0) (by decide) dX0_takeBackFrom_97 ?_
          exact ga_iret hE dX0_takeBackFrom_98 (by decide) (ga_ri (x_number_1, y_length, y_classes_9, y_kinds, y_line) rfl h)
        · replace h := h.2 q48_2
          refine ga_tabOut hR (pc := 48) 99 (by have z0 := lv_neT q48_0 (by decide : Int32.toInt (nI 0) = 0); have z1 := lv_neT q48_1 (by decide : Int32.toInt (nI 1) = 1); have z2 := lv_neT q48_2 (by decide : Int32.toInt (nI 2) = 2); omega) (by decide) dX0_takeBackFrom_48 ?_
          refine ga_aload_n hR (pc := 99) 3 rfl rfl dX0_takeBackFrom_99 ?_
          refine ga_iload_n hR (pc := 100) 1 rfl rfl dX0_takeBackFrom_100 ?_
          refine ga_iload_n hR (pc := 101) 0 rfl rfl dX0_takeBackFrom_101 ?_
          refine ga_callV hR (pc := 102) (As := [.int v2_2, .int v3_3]) (rest := []) (st0 := [.int v3_3, .int v2_2, .ref (b 0)]) (b := (b 0)) 2 (c_X6_setKind V b y_length y_kinds v2_2 v3_3 _ h) (ga_same_v fun _ => rfl) gX0_takeBackFrom_X6_setKind rfl rfl rfl hd_X6_setKind ⟨Nat.le_of_ble_eq_true rfl, Nat.le_of_ble_eq_true rfl⟩ rfl rfl (Nat.le_of_ble_eq_true rfl) ⟨Nat.zero_le _, Nat.zero_le _⟩ [4, 6] rfl rfl 4 rfl rfl dX0_takeBackFrom_102 ?_
          rintro _ _ ⟨y_kinds_10, rfl, rfl, h⟩
          refine ga_to [(a 0, .inr (0, [.ref (a 1), .ref (a 2), .ref (a 3), .int x_number_1])), (a 1, .inl (V.2 0, 8, .inl x_acts)), (a 2, .inl (V.2 0, 8, .inl x_wheres)), (a 3, .inl (V.2 0, 8, .inl x_befores)), (b 0, .inr (6, [.ref (b 1), .ref (b 2), .ref (b 3), .int y_length])), (b 1, .inl (V.2 0, 26, .inl y_classes)), (b 2, .inl (V.2 0, 4, .inl y_kinds_10)), (b 3, .inl (V.2 0, 30, .inl y_line))] [] rfl rfl ?_
          try dsimp only at h
          refine ga_iconst hR (pc := 105) (v := nI 1) (by decide) dX0_takeBackFrom_105 ?_
          exact ga_iret hE dX0_takeBackFrom_106 (by decide) (ga_ri (x_number_1, y_length, y_classes, y_kinds_10, y_line) rfl h)
  · replace h := h.2 c4
    refine ga_iconst hR (pc := 7) (v := nI 0) (by decide) dX0_takeBackFrom_7 ?_
    exact ga_iret hE dX0_takeBackFrom_8 (by decide) (ga_ri (x_number, y_length, y_classes, y_kinds, y_line) rfl h)

def rm_X3_hasBound : Room := { frames := 0, cells := 0, slots := 0, locals := 0 }
theorem hd_X3_hasBoundS : yX3_hasBound.cls ≠ "java/lang/invoke/MethodHandle" ∧ yX3_hasBound.cls ≠ "java/lang/invoke/VarHandle" ∧ (parseMethodDescriptor yX3_hasBound.desc).map (fun d => d.parameters.length) = some 1 := by decide +kernel
theorem hd_X3_hasBound : yX3_hasBound.cls = RX3 ∧ yX3_hasBound.cls ≠ "java/lang/invoke/MethodHandle" ∧ yX3_hasBound.cls ≠ "java/lang/invoke/VarHandle" ∧ (parseMethodDescriptor yX3_hasBound.desc).map (fun d => d.parameters.length) = some 1 := ⟨rfl, hd_X3_hasBoundS⟩
set_option maxHeartbeats 4000000 in
set_option maxRecDepth 100000 in
theorem c_X3_hasBound (V : ga_V) (a : Nat → Nat) (x_length : Int32) (x_bounds : Int32) (p1 : Int32) (K : Int32 → Prop) (h : wp_X3_hasBound x_bounds p1 K) : ga_C V yX3_hasBound wsX3_hasBound rm_X3_hasBound [.ref (a 0), .int p1] [(a 0, .inr (3, [.ref (a 1), .int x_length, .int x_bounds]))] 0 0 (ga_Fi (fun (u : Unit) => [(a 0, .inr (3, [.ref (a 1), .int x_length, .int x_bounds]))]) (fun r u => K r)) := by
  refine ga_met (cc := cX3_hasBound) (maxL := 2) (rt := (some .boolean)) (by decide) rfl [(0, .ref (a 0)), (1, .int p1)] rfl (Nat.le_of_ble_eq_true rfl) ?_
  intro G hR hE
  have hinX3 : ∀ w ∈ u_ws RX3 TX3 3, w ∈ wsX3_hasBound := by decide +kernel
  have f24 : Cond.fieldLink RX3 24 "BoundaryRules$Pieces" "bounds" "I" ∈ wsX3_hasBound := by decide +kernel
  unfold wp_X3_hasBound at h
  refine ga_aload_n hR (pc := 0) 0 rfl rfl dX3_hasBound_0 ?_
  refine ga_get hR (pc := 1) 0 rfl rfl hinX3 2 (by decide) f24 rfl dX3_hasBound_1 ?_
  refine ga_iload_n hR (pc := 4) 1 rfl rfl dX3_hasBound_4 ?_
  refine ga_ishr hR (pc := 5) dX3_hasBound_5 ?_
  refine ga_iconst hR (pc := 6) (v := nI 1) (by decide) dX3_hasBound_6 ?_
  refine ga_iand hR (pc := 7) dX3_hasBound_7 ?_
  refine ga_if_eq hR (pc := 8) 15 (by decide) dX3_hasBound_8 (fun c8 => ?_) (fun c8 => ?_)
  · replace h := h.1 c8
    refine ga_iconst hR (pc := 15) (v := nI 0) (by decide) dX3_hasBound_15 ?_
    exact ga_iret hE dX3_hasBound_16 (by decide) (ga_ri () rfl h)
  · replace h := h.2 c8
    refine ga_iconst hR (pc := 11) (v := nI 1) (by decide) dX3_hasBound_11 ?_
    refine ga_goto hR (pc := 12) 16 (by decide) dX3_hasBound_12 ?_
    exact ga_iret hE dX3_hasBound_16 (by decide) (ga_ri () rfl h)

def rm_X3_standAt : Room := { frames := 0, cells := 0, slots := 0, locals := 0 }
theorem hd_X3_standAtS : yX3_standAt.cls ≠ "java/lang/invoke/MethodHandle" ∧ yX3_standAt.cls ≠ "java/lang/invoke/VarHandle" ∧ (parseMethodDescriptor yX3_standAt.desc).map (fun d => d.parameters.length) = some 1 := by decide +kernel
theorem hd_X3_standAt : yX3_standAt.cls = RX3 ∧ yX3_standAt.cls ≠ "java/lang/invoke/MethodHandle" ∧ yX3_standAt.cls ≠ "java/lang/invoke/VarHandle" ∧ (parseMethodDescriptor yX3_standAt.desc).map (fun d => d.parameters.length) = some 1 := ⟨rfl, hd_X3_standAtS⟩
set_option maxHeartbeats 4000000 in
set_option maxRecDepth 100000 in
theorem c_X3_standAt (V : ga_V) (a : Nat → Nat) (x_bounds : Int32) (x_length : Int32) (x_stands : Nat → Int32) (p1 : Int32) (K : Int32 → Prop) (h : wp_X3_standAt x_length x_stands p1 K) : ga_C V yX3_standAt wsX3_standAt rm_X3_standAt [.ref (a 0), .int p1] [(a 0, .inr (3, [.ref (a 1), .int x_length, .int x_bounds])), (a 1, .inl (V.2 0, 31, .inl x_stands))] 0 0 (ga_Fi (fun (u : Unit) => [(a 0, .inr (3, [.ref (a 1), .int x_length, .int x_bounds])), (a 1, .inl (V.2 0, 31, .inl x_stands))]) (fun r u => K r)) := by
  refine ga_met (cc := cX3_standAt) (maxL := 2) (rt := (some .int)) (by decide) rfl [(0, .ref (a 0)), (1, .int p1)] rfl (Nat.le_of_ble_eq_true rfl) ?_
  intro G hR hE
  have hinX3 : ∀ w ∈ u_ws RX3 TX3 3, w ∈ wsX3_standAt := by decide +kernel
  have f21 : Cond.fieldLink RX3 21 "BoundaryRules$Pieces" "length" "I" ∈ wsX3_standAt := by decide +kernel
  have f9 : Cond.fieldLink RX3 9 "BoundaryRules$Pieces" "stands" "[I" ∈ wsX3_standAt := by decide +kernel
  unfold wp_X3_standAt at h
  refine ga_iload_n hR (pc := 0) 1 rfl rfl dX3_standAt_0 ?_
  refine ga_if_lt hR (pc := 1) 21 (by decide) dX3_standAt_1 (fun c1 => ?_) (fun c1 => ?_)
  · replace h := h.1 c1
    refine ga_iconst hR (pc := 21) (v := nI 0) (by decide) dX3_standAt_21 ?_
    exact ga_iret hE dX3_standAt_22 rfl (ga_ri () rfl h)
  · replace h := h.2 c1
    refine ga_iload_n hR (pc := 4) 1 rfl rfl dX3_standAt_4 ?_
    refine ga_aload_n hR (pc := 5) 0 rfl rfl dX3_standAt_5 ?_
    refine ga_get hR (pc := 6) 0 rfl rfl hinX3 1 (by decide) f21 rfl dX3_standAt_6 ?_
    refine ga_icmp_gt hR (pc := 9) 21 (by decide) dX3_standAt_9 (fun c9 => ?_) (fun c9 => ?_)
    · replace h := h.1 c9
      refine ga_iconst hR (pc := 21) (v := nI 0) (by decide) dX3_standAt_21 ?_
      exact ga_iret hE dX3_standAt_22 rfl (ga_ri () rfl h)
    · replace h := h.2 c9
      refine ga_aload_n hR (pc := 12) 0 rfl rfl dX3_standAt_12 ?_
      refine ga_get hR (pc := 13) 0 rfl rfl hinX3 0 (by decide) f9 rfl dX3_standAt_13 ?_
      refine ga_iload_n hR (pc := 16) 1 rfl rfl dX3_standAt_16 ?_
      refine ga_iald hR (pc := 17) 1 rfl h.1 dX3_standAt_17 ?_
      replace h := h.2
      refine ga_goto hR (pc := 18) 22 (by decide) dX3_standAt_18 ?_
      exact ga_iret hE dX3_standAt_22 rfl (ga_ri () rfl h)

def rm_J6_bitCount_0f7a4 : Room := { frames := 0, cells := 0, slots := 0, locals := 0 }
theorem hd_J6_bitCount_0f7a4S : yJ6_bitCount_0f7a4.cls ≠ "java/lang/invoke/MethodHandle" ∧ yJ6_bitCount_0f7a4.cls ≠ "java/lang/invoke/VarHandle" ∧ (parseMethodDescriptor yJ6_bitCount_0f7a4.desc).map (fun d => d.parameters.length) = some 1 := by decide +kernel
set_option maxHeartbeats 4000000 in
set_option maxRecDepth 100000 in
theorem c_J6_bitCount_0f7a4 (V : ga_V) (p0 : Int32) (K : Int32 → Prop) (h : wp_J6_bitCount_0f7a4 p0 K) : ga_C V yJ6_bitCount_0f7a4 wsJ6_bitCount_0f7a4 rm_J6_bitCount_0f7a4 [.int p0] [] 0 0 (ga_Fi (fun (u : Unit) => []) (fun r u => K r)) := by
  refine ga_met (cc := cJ6_bitCount_0f7a4) (maxL := 1) (rt := (some .int)) (by decide) rfl [(0, .int p0)] rfl (Nat.le_of_ble_eq_true rfl) ?_
  intro G hR hE
  unfold wp_J6_bitCount_0f7a4 at h
  refine ga_iload_n hR (pc := 0) 0 rfl rfl dJ6_bitCount_0f7a4_0 ?_
  refine ga_iload_n hR (pc := 1) 0 rfl rfl dJ6_bitCount_0f7a4_1 ?_
  refine ga_iconst hR (pc := 2) (v := nI 1) (by decide) dJ6_bitCount_0f7a4_2 ?_
  refine ga_iushr hR (pc := 3) dJ6_bitCount_0f7a4_3 ?_
  refine ga_ldcw hR (pc := 4) (v := nI 1431655765) (by decide +kernel) dJ6_bitCount_0f7a4_4 ?_
  refine ga_iand hR (pc := 7) dJ6_bitCount_0f7a4_7 ?_
  refine ga_isub hR (pc := 8) dJ6_bitCount_0f7a4_8 ?_
  refine ga_topi (fun v0_1 ev0_1 => ?_)
  replace h := h v0_1 ev0_1
  refine ga_istore_n hR (pc := 9) (lv' := [(0, .int v0_1)]) rfl (by decide) rfl dJ6_bitCount_0f7a4_9 ?_
  refine ga_iload_n hR (pc := 10) 0 rfl rfl dJ6_bitCount_0f7a4_10 ?_
  refine ga_ldcw hR (pc := 11) (v := nI 858993459) (by decide +kernel) dJ6_bitCount_0f7a4_11 ?_
  refine ga_iand hR (pc := 14) dJ6_bitCount_0f7a4_14 ?_
  refine ga_iload_n hR (pc := 15) 0 rfl rfl dJ6_bitCount_0f7a4_15 ?_
  refine ga_iconst hR (pc := 16) (v := nI 2) (by decide) dJ6_bitCount_0f7a4_16 ?_
  refine ga_iushr hR (pc := 17) dJ6_bitCount_0f7a4_17 ?_
  refine ga_ldcw hR (pc := 18) (v := nI 858993459) (by decide +kernel) dJ6_bitCount_0f7a4_18 ?_
  refine ga_iand hR (pc := 21) dJ6_bitCount_0f7a4_21 ?_
  refine ga_iadd hR (pc := 22) dJ6_bitCount_0f7a4_22 ?_
  refine ga_topi (fun v0_2 ev0_2 => ?_)
  replace h := h v0_2 ev0_2
  refine ga_istore_n hR (pc := 23) (lv' := [(0, .int v0_2)]) rfl (by decide) rfl dJ6_bitCount_0f7a4_23 ?_
  refine ga_iload_n hR (pc := 24) 0 rfl rfl dJ6_bitCount_0f7a4_24 ?_
  refine ga_iload_n hR (pc := 25) 0 rfl rfl dJ6_bitCount_0f7a4_25 ?_
  refine ga_iconst hR (pc := 26) (v := nI 4) (by decide) dJ6_bitCount_0f7a4_26 ?_
  refine ga_iushr hR (pc := 27) dJ6_bitCount_0f7a4_27 ?_
  refine ga_iadd hR (pc := 28) dJ6_bitCount_0f7a4_28 ?_
  refine ga_ldcw hR (pc := 29) (v := nI 252645135) (by decide +kernel) dJ6_bitCount_0f7a4_29 ?_
  refine ga_iand hR (pc := 32) dJ6_bitCount_0f7a4_32 ?_
  refine ga_topi (fun v0_3 ev0_3 => ?_)
  replace h := h v0_3 ev0_3
  refine ga_istore_n hR (pc := 33) (lv' := [(0, .int v0_3)]) rfl (by decide) rfl dJ6_bitCount_0f7a4_33 ?_
  refine ga_iload_n hR (pc := 34) 0 rfl rfl dJ6_bitCount_0f7a4_34 ?_
  refine ga_iload_n hR (pc := 35) 0 rfl rfl dJ6_bitCount_0f7a4_35 ?_
  refine ga_bipush hR (pc := 36) (v := nI 8) (by decide) dJ6_bitCount_0f7a4_36 ?_
  refine ga_iushr hR (pc := 38) dJ6_bitCount_0f7a4_38 ?_
  refine ga_iadd hR (pc := 39) dJ6_bitCount_0f7a4_39 ?_
  refine ga_topi (fun v0_4 ev0_4 => ?_)
  replace h := h v0_4 ev0_4
  refine ga_istore_n hR (pc := 40) (lv' := [(0, .int v0_4)]) rfl (by decide) rfl dJ6_bitCount_0f7a4_40 ?_
  refine ga_iload_n hR (pc := 41) 0 rfl rfl dJ6_bitCount_0f7a4_41 ?_
  refine ga_iload_n hR (pc := 42) 0 rfl rfl dJ6_bitCount_0f7a4_42 ?_
  refine ga_bipush hR (pc := 43) (v := nI 16) (by decide) dJ6_bitCount_0f7a4_43 ?_
  refine ga_iushr hR (pc := 45) dJ6_bitCount_0f7a4_45 ?_
  refine ga_iadd hR (pc := 46) dJ6_bitCount_0f7a4_46 ?_
  refine ga_topi (fun v0_5 ev0_5 => ?_)
  replace h := h v0_5 ev0_5
  refine ga_istore_n hR (pc := 47) (lv' := [(0, .int v0_5)]) rfl (by decide) rfl dJ6_bitCount_0f7a4_47 ?_
  refine ga_iload_n hR (pc := 48) 0 rfl rfl dJ6_bitCount_0f7a4_48 ?_
  refine ga_bipush hR (pc := 49) (v := nI 63) (by decide) dJ6_bitCount_0f7a4_49 ?_
  refine ga_iand hR (pc := 51) dJ6_bitCount_0f7a4_51 ?_
  exact ga_iret hE dJ6_bitCount_0f7a4_52 rfl (ga_ri () rfl h)

def rm_X3_number : Room := { frames := 1, cells := 0, slots := 0, locals := 20 }
theorem hd_X3_numberS : yX3_number.cls ≠ "java/lang/invoke/MethodHandle" ∧ yX3_number.cls ≠ "java/lang/invoke/VarHandle" ∧ (parseMethodDescriptor yX3_number.desc).map (fun d => d.parameters.length) = some 0 := by decide +kernel
theorem hd_X3_number : yX3_number.cls = RX3 ∧ yX3_number.cls ≠ "java/lang/invoke/MethodHandle" ∧ yX3_number.cls ≠ "java/lang/invoke/VarHandle" ∧ (parseMethodDescriptor yX3_number.desc).map (fun d => d.parameters.length) = some 0 := ⟨rfl, hd_X3_numberS⟩
set_option maxHeartbeats 4000000 in
set_option maxRecDepth 100000 in
theorem c_X3_number (V : ga_V) (a : Nat → Nat) (x_length : Int32) (x_bounds : Int32) (K : Int32 → Prop) (h : wp_X3_number x_bounds K) : ga_C V yX3_number wsX3_number rm_X3_number [.ref (a 0)] [(a 0, .inr (3, [.ref (a 1), .int x_length, .int x_bounds]))] 0 0 (ga_Fi (fun (u : Unit) => [(a 0, .inr (3, [.ref (a 1), .int x_length, .int x_bounds]))]) (fun r u => K r)) := by
  refine ga_met (cc := cX3_number) (maxL := 1) (rt := (some .int)) (by decide) rfl [(0, .ref (a 0))] rfl (Nat.le_of_ble_eq_true rfl) ?_
  intro G hR hE
  have hinX3 : ∀ w ∈ u_ws RX3 TX3 3, w ∈ wsX3_number := by decide +kernel
  have f24 : Cond.fieldLink RX3 24 "BoundaryRules$Pieces" "bounds" "I" ∈ wsX3_number := by decide +kernel
  unfold wp_X3_number at h
  refine ga_aload_n hR (pc := 0) 0 rfl rfl dX3_number_0 ?_
  refine ga_get hR (pc := 1) 0 rfl rfl hinX3 2 (by decide) f24 rfl dX3_number_1 ?_
  refine ga_callS hR (pc := 4) (As := [.int x_bounds]) (rest := []) (st0 := [.int x_bounds]) 1 (c_J6_bitCount_0f7a4 V x_bounds _ h) (ga_same_i fun _ => rfl) gX3_number_J6_bitCount_0f7a4 rfl rfl rfl hd_J6_bitCount_0f7a4S ⟨Nat.le_of_ble_eq_true rfl, Nat.le_of_ble_eq_true rfl⟩ rfl rfl (Nat.le_of_ble_eq_true rfl) ⟨Nat.zero_le _, Nat.zero_le _⟩ [] rfl rfl dX3_number_4 ?_
  rintro _ _ ⟨r_1, ⟨⟩, rfl, rfl, h⟩
  refine ga_to [(a 0, .inr (3, [.ref (a 1), .int x_length, .int x_bounds]))] [.int r_1] rfl rfl ?_
  try dsimp only at h
  refine ga_iconst hR (pc := 7) (v := nI 1) (by decide) dX3_number_7 ?_
  refine ga_isub hR (pc := 8) dX3_number_8 ?_
  exact ga_iret hE dX3_number_9 rfl (ga_ri () rfl h)
