def rm_X7_init : Room := { frames := 1, cells := 1, slots := 200, locals := 12 }
theorem hd_X7_initS : yX7_init.cls ≠ "java/lang/invoke/MethodHandle" ∧ yX7_init.cls ≠ "java/lang/invoke/VarHandle" ∧ (parseMethodDescriptor yX7_init.desc).map (fun d => d.parameters.length) = some 0 := by decide +kernel
set_option maxHeartbeats 4000000 in
set_option maxRecDepth 100000 in
theorem c_X7_init (V : ga_V) (h0 : Nat) : ga_C V yX7_init wsX7_init rm_X7_init [.ref h0] [(h0, .inr (7, [.null, .int 0, .int 0, .int 0]))] 1 200 (fun v w => v = none ∧ ∃ (a : Nat → Nat), a 0 = h0 ∧ w = [(a 0, .inr (7, [.ref (a 1), .int 0, .int 0, .int 0])), (a 1, .inl (V.2 0, 200, .inl ((fun _ => 0))))]) := by
  refine ga_met (cc := cX7_init) (maxL := 1) (rt := none) (by decide) rfl [(0, .ref h0)] rfl (Nat.le_of_ble_eq_true rfl) ?_
  intro G hR hE
  have hinX7 : ∀ w ∈ u_ws RX7 TX7 4, w ∈ wsX7_init := by decide +kernel
  have f9 : Cond.fieldLink RX7 9 "BoundaryRules$Text" "signs" "[I" ∈ wsX7_init := by decide +kernel
  refine ga_aload_n hR (pc := 0) 0 rfl rfl dX7_init_0 ?_
  refine ga_objInit hR (pc := 1) (by decide +kernel) (by decide +kernel) (by decide +kernel) (Nat.le_of_ble_eq_true rfl) (Nat.le_of_ble_eq_true rfl) dX7_init_1 ?_
  refine ga_aload_n hR (pc := 4) 0 rfl rfl dX7_init_4 ?_
  refine ga_sipush hR (pc := 5) (v := nI 200) (by decide) dX7_init_5 ?_
  refine ga_newa hR (pc := 8) (t := 0) (ty := .int) (N := 200) (z := nI 200) rfl rfl rfl (fun C h => by cases h) (by decide +kernel) (by decide) (by decide) (Nat.le_of_ble_eq_true rfl) (Nat.le_of_ble_eq_true rfl) (Nat.le_of_ble_eq_true rfl) dX7_init_8 (fun q_1 => ?_)
  refine ga_to [(h0, .inr (7, [.null, .int 0, .int 0, .int 0])), (q_1, .inl (V.2 0, 200, .inl ((fun _ => 0))))] [.ref (q_1), .ref (h0)] rfl rfl ?_
  refine ga_putF hR (pc := 10) (ws' := [(h0, .inr (7, [.ref (q_1), .int 0, .int 0, .int 0])), (q_1, .inl (V.2 0, 200, .inl ((fun _ => 0))))]) 0 rfl rfl hinX7 0 (by decide) f9 tyX7_ok nmX7 rfl rfl rfl rfl rfl (Nat.le_of_ble_eq_true rfl) rfl dX7_init_10 ?_
  exact ga_vret hE dX7_init_13 ⟨rfl, (fun k => [h0, q_1].getD k 0), rfl, rfl⟩

def rm_X2_init : Room := { frames := 1, cells := 3, slots := 48, locals := 12 }
theorem hd_X2_initS : yX2_init.cls ≠ "java/lang/invoke/MethodHandle" ∧ yX2_init.cls ≠ "java/lang/invoke/VarHandle" ∧ (parseMethodDescriptor yX2_init.desc).map (fun d => d.parameters.length) = some 0 := by decide +kernel
set_option maxHeartbeats 4000000 in
set_option maxRecDepth 100000 in
theorem c_X2_init (V : ga_V) (h0 : Nat) : ga_C V yX2_init wsX2_init rm_X2_init [.ref h0] [(h0, .inr (2, [.null, .null, .null, .int 0]))] 3 48 (fun v w => v = none ∧ ∃ (a : Nat → Nat), a 0 = h0 ∧ w = [(a 0, .inr (2, [.ref (a 1), .ref (a 2), .ref (a 3), .int 0])), (a 1, .inl (V.2 0, 16, .inl ((fun _ => 0)))), (a 2, .inl (V.2 0, 16, .inl ((fun _ => 0)))), (a 3, .inl (V.2 1, 16, .inl ((fun _ => 0))))]) := by
  refine ga_met (cc := cX2_init) (maxL := 1) (rt := none) (by decide) rfl [(0, .ref h0)] rfl (Nat.le_of_ble_eq_true rfl) ?_
  intro G hR hE
  have hinX2 : ∀ w ∈ u_ws RX2 TX2 4, w ∈ wsX2_init := by decide +kernel
  have f9 : Cond.fieldLink RX2 9 "BoundaryRules$Parts" "firsts" "[I" ∈ wsX2_init := by decide +kernel
  have f15 : Cond.fieldLink RX2 15 "BoundaryRules$Parts" "lasts" "[I" ∈ wsX2_init := by decide +kernel
  have f18 : Cond.fieldLink RX2 18 "BoundaryRules$Parts" "lacking" "[Z" ∈ wsX2_init := by decide +kernel
  refine ga_aload_n hR (pc := 0) 0 rfl rfl dX2_init_0 ?_
  refine ga_objInit hR (pc := 1) (by decide +kernel) (by decide +kernel) (by decide +kernel) (Nat.le_of_ble_eq_true rfl) (Nat.le_of_ble_eq_true rfl) dX2_init_1 ?_
  refine ga_aload_n hR (pc := 4) 0 rfl rfl dX2_init_4 ?_
  refine ga_bipush hR (pc := 5) (v := nI 16) (by decide) dX2_init_5 ?_
  refine ga_newa hR (pc := 7) (t := 0) (ty := .int) (N := 16) (z := nI 16) rfl rfl rfl (fun C h => by cases h) (by decide +kernel) (by decide) (by decide) (Nat.le_of_ble_eq_true rfl) (Nat.le_of_ble_eq_true rfl) (Nat.le_of_ble_eq_true rfl) dX2_init_7 (fun q_1 => ?_)
  refine ga_to [(h0, .inr (2, [.null, .null, .null, .int 0])), (q_1, .inl (V.2 0, 16, .inl ((fun _ => 0))))] [.ref (q_1), .ref (h0)] rfl rfl ?_
  refine ga_putF hR (pc := 9) (ws' := [(h0, .inr (2, [.ref (q_1), .null, .null, .int 0])), (q_1, .inl (V.2 0, 16, .inl ((fun _ => 0))))]) 0 rfl rfl hinX2 0 (by decide) f9 tyX2_ok nmX2 rfl rfl rfl rfl rfl (Nat.le_of_ble_eq_true rfl) rfl dX2_init_9 ?_
  refine ga_aload_n hR (pc := 12) 0 rfl rfl dX2_init_12 ?_
  refine ga_bipush hR (pc := 13) (v := nI 16) (by decide) dX2_init_13 ?_
  refine ga_newa hR (pc := 15) (t := 0) (ty := .int) (N := 16) (z := nI 16) rfl rfl rfl (fun C h => by cases h) (by decide +kernel) (by decide) (by decide) (Nat.le_of_ble_eq_true rfl) (Nat.le_of_ble_eq_true rfl) (Nat.le_of_ble_eq_true rfl) dX2_init_15 (fun q_2 => ?_)
  refine ga_to [(h0, .inr (2, [.ref (q_1), .null, .null, .int 0])), (q_1, .inl (V.2 0, 16, .inl ((fun _ => 0)))), (q_2, .inl (V.2 0, 16, .inl ((fun _ => 0))))] [.ref (q_2), .ref (h0)] rfl rfl ?_
  refine ga_putF hR (pc := 17) (ws' := [(h0, .inr (2, [.ref (q_1), .ref (q_2), .null, .int 0])), (q_1, .inl (V.2 0, 16, .inl ((fun _ => 0)))), (q_2, .inl (V.2 0, 16, .inl ((fun _ => 0))))]) 0 rfl rfl hinX2 1 (by decide) f15 tyX2_ok nmX2 rfl rfl rfl rfl rfl (Nat.le_of_ble_eq_true rfl) rfl dX2_init_17 ?_
  refine ga_aload_n hR (pc := 20) 0 rfl rfl dX2_init_20 ?_
  refine ga_bipush hR (pc := 21) (v := nI 16) (by decide) dX2_init_21 ?_
  refine ga_newa hR (pc := 23) (t := 1) (ty := .boolean) (N := 16) (z := nI 16) rfl rfl rfl (fun C h => by cases h) (by decide +kernel) (by decide) (by decide) (Nat.le_of_ble_eq_true rfl) (Nat.le_of_ble_eq_true rfl) (Nat.le_of_ble_eq_true rfl) dX2_init_23 (fun q_3 => ?_)
  refine ga_to [(h0, .inr (2, [.ref (q_1), .ref (q_2), .null, .int 0])), (q_1, .inl (V.2 0, 16, .inl ((fun _ => 0)))), (q_2, .inl (V.2 0, 16, .inl ((fun _ => 0)))), (q_3, .inl (V.2 1, 16, .inl ((fun _ => 0))))] [.ref (q_3), .ref (h0)] rfl rfl ?_
  refine ga_putF hR (pc := 25) (ws' := [(h0, .inr (2, [.ref (q_1), .ref (q_2), .ref (q_3), .int 0])), (q_1, .inl (V.2 0, 16, .inl ((fun _ => 0)))), (q_2, .inl (V.2 0, 16, .inl ((fun _ => 0)))), (q_3, .inl (V.2 1, 16, .inl ((fun _ => 0))))]) 0 rfl rfl hinX2 2 (by decide) f18 tyX2_ok nmX2 rfl rfl rfl rfl rfl (Nat.le_of_ble_eq_true rfl) rfl dX2_init_25 ?_
  exact ga_vret hE dX2_init_28 ⟨rfl, (fun k => [h0, q_1, q_2, q_3].getD k 0), rfl, rfl⟩

def rm_X4_init : Room := { frames := 2, cells := 9, slots := 84, locals := 32 }
theorem hd_X4_initS : yX4_init.cls ≠ "java/lang/invoke/MethodHandle" ∧ yX4_init.cls ≠ "java/lang/invoke/VarHandle" ∧ (parseMethodDescriptor yX4_init.desc).map (fun d => d.parameters.length) = some 0 := by decide +kernel
set_option maxHeartbeats 4000000 in
set_option maxRecDepth 100000 in
theorem c_X4_init (V : ga_V) (h0 : Nat) : ga_C V yX4_init wsX4_init rm_X4_init [.ref h0] [(h0, .inr (4, [.null, .null, .null, .null, .null, .null, .int 0, .int 0]))] 9 84 (fun v w => v = none ∧ ∃ (a : Nat → Nat), a 0 = h0 ∧ w = [(a 0, .inr (4, [.ref (a 1), .ref (a 2), .ref (a 3), .ref (a 4), .ref (a 5), .ref (a 6), .int 0, .int 0])), (a 1, .inl (V.2 0, 4, .inl ((fun _ => 0)))), (a 2, .inl (V.2 0, 4, .inl ((fun _ => 0)))), (a 3, .inl (V.2 0, 4, .inl ((fun _ => 0)))), (a 4, .inl (V.2 0, 10, .inl ((fun _ => 0)))), (a 5, .inl (V.2 0, 10, .inl ((fun _ => 0)))), (a 6, .inr (2, [.ref (a 7), .ref (a 8), .ref (a 9), .int 0])), (a 7, .inl (V.2 0, 16, .inl ((fun _ => 0)))), (a 8, .inl (V.2 0, 16, .inl ((fun _ => 0)))), (a 9, .inl (V.2 1, 16, .inl ((fun _ => 0))))]) := by
  refine ga_met (cc := cX4_init) (maxL := 1) (rt := none) (by decide) rfl [(0, .ref h0)] rfl (Nat.le_of_ble_eq_true rfl) ?_
  intro G hR hE
  have hinX4 : ∀ w ∈ u_ws RX4 TX4 8, w ∈ wsX4_init := by decide +kernel
  have hinX2 : ∀ w ∈ u_ws RX2 TX2 4, w ∈ wsX4_init := by decide +kernel
  have f9 : Cond.fieldLink RX4 9 "BoundaryRules$Rules" "places" "[I" ∈ wsX4_init := by decide +kernel
  have f15 : Cond.fieldLink RX4 15 "BoundaryRules$Rules" "firsts" "[I" ∈ wsX4_init := by decide +kernel
  have f18 : Cond.fieldLink RX4 18 "BoundaryRules$Rules" "wholes" "[I" ∈ wsX4_init := by decide +kernel
  have f21 : Cond.fieldLink RX4 21 "BoundaryRules$Rules" "taken" "[I" ∈ wsX4_init := by decide +kernel
  have f24 : Cond.fieldLink RX4 24 "BoundaryRules$Rules" "behinds" "[I" ∈ wsX4_init := by decide +kernel
  have f30 : Cond.fieldLink RX4 30 "BoundaryRules$Rules" "parts" "LBoundaryRules$Parts;" ∈ wsX4_init := by decide +kernel
  refine ga_aload_n hR (pc := 0) 0 rfl rfl dX4_init_0 ?_
  refine ga_objInit hR (pc := 1) (by decide +kernel) (by decide +kernel) (by decide +kernel) (Nat.le_of_ble_eq_true rfl) (Nat.le_of_ble_eq_true rfl) dX4_init_1 ?_
  refine ga_aload_n hR (pc := 4) 0 rfl rfl dX4_init_4 ?_
  refine ga_iconst hR (pc := 5) (v := nI 4) (by decide) dX4_init_5 ?_
  refine ga_newa hR (pc := 6) (t := 0) (ty := .int) (N := 4) (z := nI 4) rfl rfl rfl (fun C h => by cases h) (by decide +kernel) (by decide) (by decide) (Nat.le_of_ble_eq_true rfl) (Nat.le_of_ble_eq_true rfl) (Nat.le_of_ble_eq_true rfl) dX4_init_6 (fun q_1 => ?_)
  refine ga_to [(h0, .inr (4, [.null, .null, .null, .null, .null, .null, .int 0, .int 0])), (q_1, .inl (V.2 0, 4, .inl ((fun _ => 0))))] [.ref (q_1), .ref (h0)] rfl rfl ?_
  refine ga_putF hR (pc := 8) (ws' := [(h0, .inr (4, [.ref (q_1), .null, .null, .null, .null, .null, .int 0, .int 0])), (q_1, .inl (V.2 0, 4, .inl ((fun _ => 0))))]) 0 rfl rfl hinX4 0 (by decide) f9 tyX4_ok nmX4 rfl rfl rfl rfl rfl (Nat.le_of_ble_eq_true rfl) rfl dX4_init_8 ?_
  refine ga_aload_n hR (pc := 11) 0 rfl rfl dX4_init_11 ?_
  refine ga_iconst hR (pc := 12) (v := nI 4) (by decide) dX4_init_12 ?_
  refine ga_newa hR (pc := 13) (t := 0) (ty := .int) (N := 4) (z := nI 4) rfl rfl rfl (fun C h => by cases h) (by decide +kernel) (by decide) (by decide) (Nat.le_of_ble_eq_true rfl) (Nat.le_of_ble_eq_true rfl) (Nat.le_of_ble_eq_true rfl) dX4_init_13 (fun q_2 => ?_)
  refine ga_to [(h0, .inr (4, [.ref (q_1), .null, .null, .null, .null, .null, .int 0, .int 0])), (q_1, .inl (V.2 0, 4, .inl ((fun _ => 0)))), (q_2, .inl (V.2 0, 4, .inl ((fun _ => 0))))] [.ref (q_2), .ref (h0)] rfl rfl ?_
  refine ga_putF hR (pc := 15) (ws' := [(h0, .inr (4, [.ref (q_1), .ref (q_2), .null, .null, .null, .null, .int 0, .int 0])), (q_1, .inl (V.2 0, 4, .inl ((fun _ => 0)))), (q_2, .inl (V.2 0, 4, .inl ((fun _ => 0))))]) 0 rfl rfl hinX4 1 (by decide) f15 tyX4_ok nmX4 rfl rfl rfl rfl rfl (Nat.le_of_ble_eq_true rfl) rfl dX4_init_15 ?_
  refine ga_aload_n hR (pc := 18) 0 rfl rfl dX4_init_18 ?_
  refine ga_iconst hR (pc := 19) (v := nI 4) (by decide) dX4_init_19 ?_
  refine ga_newa hR (pc := 20) (t := 0) (ty := .int) (N := 4) (z := nI 4) rfl rfl rfl (fun C h => by cases h) (by decide +kernel) (by decide) (by decide) (Nat.le_of_ble_eq_true rfl) (Nat.le_of_ble_eq_true rfl) (Nat.le_of_ble_eq_true rfl) dX4_init_20 (fun q_3 => ?_)
  refine ga_to [(h0, .inr (4, [.ref (q_1), .ref (q_2), .null, .null, .null, .null, .int 0, .int 0])), (q_1, .inl (V.2 0, 4, .inl ((fun _ => 0)))), (q_2, .inl (V.2 0, 4, .inl ((fun _ => 0)))), (q_3, .inl (V.2 0, 4, .inl ((fun _ => 0))))] [.ref (q_3), .ref (h0)] rfl rfl ?_
  refine ga_putF hR (pc := 22) (ws' := [(h0, .inr (4, [.ref (q_1), .ref (q_2), .ref (q_3), .null, .null, .null, .int 0, .int 0])), (q_1, .inl (V.2 0, 4, .inl ((fun _ => 0)))), (q_2, .inl (V.2 0, 4, .inl ((fun _ => 0)))), (q_3, .inl (V.2 0, 4, .inl ((fun _ => 0))))]) 0 rfl rfl hinX4 2 (by decide) f18 tyX4_ok nmX4 rfl rfl rfl rfl rfl (Nat.le_of_ble_eq_true rfl) rfl dX4_init_22 ?_
  refine ga_aload_n hR (pc := 25) 0 rfl rfl dX4_init_25 ?_
  refine ga_bipush hR (pc := 26) (v := nI 10) (by decide) dX4_init_26 ?_
  refine ga_newa hR (pc := 28) (t := 0) (ty := .int) (N := 10) (z := nI 10) rfl rfl rfl (fun C h => by cases h) (by decide +kernel) (by decide) (by decide) (Nat.le_of_ble_eq_true rfl) (Nat.le_of_ble_eq_true rfl) (Nat.le_of_ble_eq_true rfl) dX4_init_28 (fun q_4 => ?_)
  refine ga_to [(h0, .inr (4, [.ref (q_1), .ref (q_2), .ref (q_3), .null, .null, .null, .int 0, .int 0])), (q_1, .inl (V.2 0, 4, .inl ((fun _ => 0)))), (q_2, .inl (V.2 0, 4, .inl ((fun _ => 0)))), (q_3, .inl (V.2 0, 4, .inl ((fun _ => 0)))), (q_4, .inl (V.2 0, 10, .inl ((fun _ => 0))))] [.ref (q_4), .ref (h0)] rfl rfl ?_
  refine ga_putF hR (pc := 30) (ws' := [(h0, .inr (4, [.ref (q_1), .ref (q_2), .ref (q_3), .ref (q_4), .null, .null, .int 0, .int 0])), (q_1, .inl (V.2 0, 4, .inl ((fun _ => 0)))), (q_2, .inl (V.2 0, 4, .inl ((fun _ => 0)))), (q_3, .inl (V.2 0, 4, .inl ((fun _ => 0)))), (q_4, .inl (V.2 0, 10, .inl ((fun _ => 0))))]) 0 rfl rfl hinX4 3 (by decide) f21 tyX4_ok nmX4 rfl rfl rfl rfl rfl (Nat.le_of_ble_eq_true rfl) rfl dX4_init_30 ?_
  refine ga_aload_n hR (pc := 33) 0 rfl rfl dX4_init_33 ?_
  refine ga_bipush hR (pc := 34) (v := nI 10) (by decide) dX4_init_34 ?_
  refine ga_newa hR (pc := 36) (t := 0) (ty := .int) (N := 10) (z := nI 10) rfl rfl rfl (fun C h => by cases h) (by decide +kernel) (by decide) (by decide) (Nat.le_of_ble_eq_true rfl) (Nat.le_of_ble_eq_true rfl) (Nat.le_of_ble_eq_true rfl) dX4_init_36 (fun q_5 => ?_)
  refine ga_to [(h0, .inr (4, [.ref (q_1), .ref (q_2), .ref (q_3), .ref (q_4), .null, .null, .int 0, .int 0])), (q_1, .inl (V.2 0, 4, .inl ((fun _ => 0)))), (q_2, .inl (V.2 0, 4, .inl ((fun _ => 0)))), (q_3, .inl (V.2 0, 4, .inl ((fun _ => 0)))), (q_4, .inl (V.2 0, 10, .inl ((fun _ => 0)))), (q_5, .inl (V.2 0, 10, .inl ((fun _ => 0))))] [.ref (q_5), .ref (h0)] rfl rfl ?_
  refine ga_putF hR (pc := 38) (ws' := [(h0, .inr (4, [.ref (q_1), .ref (q_2), .ref (q_3), .ref (q_4), .ref (q_5), .null, .int 0, .int 0])), (q_1, .inl (V.2 0, 4, .inl ((fun _ => 0)))), (q_2, .inl (V.2 0, 4, .inl ((fun _ => 0)))), (q_3, .inl (V.2 0, 4, .inl ((fun _ => 0)))), (q_4, .inl (V.2 0, 10, .inl ((fun _ => 0)))), (q_5, .inl (V.2 0, 10, .inl ((fun _ => 0))))]) 0 rfl rfl hinX4 4 (by decide) f24 tyX4_ok nmX4 rfl rfl rfl rfl rfl (Nat.le_of_ble_eq_true rfl) rfl dX4_init_38 ?_
  refine ga_aload_n hR (pc := 41) 0 rfl rfl dX4_init_41 ?_
  refine ga_new hR (pc := 42) (ci := 2) (N := 4) (C := RX2) rfl hinX2 tyX2_ok (by decide +kernel) (by decide +kernel) (by decide +kernel) [.null, .null, .null, .int 0] (fun j hj => by rcases (show j = 0 ∨ j = 1 ∨ j = 2 ∨ j = 3 by omega) with rfl | rfl | rfl | rfl <;> rfl) (Nat.le_of_ble_eq_true rfl) (Nat.le_of_ble_eq_true rfl) dX4_init_42 (fun q_6 => ?_)
  refine ga_to [(h0, .inr (4, [.ref (q_1), .ref (q_2), .ref (q_3), .ref (q_4), .ref (q_5), .null, .int 0, .int 0])), (q_1, .inl (V.2 0, 4, .inl ((fun _ => 0)))), (q_2, .inl (V.2 0, 4, .inl ((fun _ => 0)))), (q_3, .inl (V.2 0, 4, .inl ((fun _ => 0)))), (q_4, .inl (V.2 0, 10, .inl ((fun _ => 0)))), (q_5, .inl (V.2 0, 10, .inl ((fun _ => 0)))), (q_6, .inr (2, [.null, .null, .null, .int 0]))] [.ref (q_6), .ref (h0)] rfl rfl ?_
  refine ga_dup hR (pc := 45) rfl dX4_init_45 ?_
  refine ga_callIN hR (pc := 46) (As := []) (rest := [.ref (q_6), .ref (h0)]) (st0 := [.ref (q_6), .ref (q_6), .ref (h0)]) (b := (q_6)) (wr := [(h0, .inr (4, [.ref (q_1), .ref (q_2), .ref (q_3), .ref (q_4), .ref (q_5), .null, .int 0, .int 0])), (q_1, .inl (V.2 0, 4, .inl ((fun _ => 0)))), (q_2, .inl (V.2 0, 4, .inl ((fun _ => 0)))), (q_3, .inl (V.2 0, 4, .inl ((fun _ => 0)))), (q_4, .inl (V.2 0, 10, .inl ((fun _ => 0)))), (q_5, .inl (V.2 0, 10, .inl ((fun _ => 0))))]) 0 (c_X2_init V (q_6)) ggX4_init_X2_init rfl rfl rfl hd_X2_initS ⟨Nat.le_of_ble_eq_true rfl, Nat.le_of_ble_eq_true rfl⟩ rfl rfl (Nat.le_of_ble_eq_true rfl) ⟨Nat.le_of_ble_eq_true rfl, Nat.le_of_ble_eq_true rfl⟩ [6] [0, 1, 2, 3, 4, 5] rfl rfl (by decide) (by decide) (by decide) rfl (by decide +kernel) (by decide +kernel) (host := "BoundaryRules") (by decide +kernel) dX4_init_46 ?_
  rintro _ _ ⟨rfl, t_7, et_7, rfl⟩
  subst et_7
  refine ga_to [(h0, .inr (4, [.ref (q_1), .ref (q_2), .ref (q_3), .ref (q_4), .ref (q_5), .null, .int 0, .int 0])), (q_1, .inl (V.2 0, 4, .inl ((fun _ => 0)))), (q_2, .inl (V.2 0, 4, .inl ((fun _ => 0)))), (q_3, .inl (V.2 0, 4, .inl ((fun _ => 0)))), (q_4, .inl (V.2 0, 10, .inl ((fun _ => 0)))), (q_5, .inl (V.2 0, 10, .inl ((fun _ => 0)))), (t_7 0, .inr (2, [.ref (t_7 1), .ref (t_7 2), .ref (t_7 3), .int 0])), (t_7 1, .inl (V.2 0, 16, .inl ((fun _ => 0)))), (t_7 2, .inl (V.2 0, 16, .inl ((fun _ => 0)))), (t_7 3, .inl (V.2 1, 16, .inl ((fun _ => 0))))] [.ref (t_7 0), .ref (h0)] rfl rfl ?_
  refine ga_putF hR (pc := 49) (ws' := [(h0, .inr (4, [.ref (q_1), .ref (q_2), .ref (q_3), .ref (q_4), .ref (q_5), .ref (t_7 0), .int 0, .int 0])), (q_1, .inl (V.2 0, 4, .inl ((fun _ => 0)))), (q_2, .inl (V.2 0, 4, .inl ((fun _ => 0)))), (q_3, .inl (V.2 0, 4, .inl ((fun _ => 0)))), (q_4, .inl (V.2 0, 10, .inl ((fun _ => 0)))), (q_5, .inl (V.2 0, 10, .inl ((fun _ => 0)))), (t_7 0, .inr (2, [.ref (t_7 1), .ref (t_7 2), .ref (t_7 3), .int 0])), (t_7 1, .inl (V.2 0, 16, .inl ((fun _ => 0)))), (t_7 2, .inl (V.2 0, 16, .inl ((fun _ => 0)))), (t_7 3, .inl (V.2 1, 16, .inl ((fun _ => 0))))]) 0 rfl rfl hinX4 5 (by decide) f30 tyX4_ok nmX4 rfl rfl rfl rfl rfl (Nat.le_of_ble_eq_true rfl) rfl dX4_init_49 ?_
  exact ga_vret hE dX4_init_52 ⟨rfl, (fun k => [h0, q_1, q_2, q_3, q_4, q_5, t_7 0, t_7 1, t_7 2, t_7 3].getD k 0), rfl, rfl⟩

def rm_X6_init : Room := { frames := 1, cells := 3, slots := 60, locals := 12 }
theorem hd_X6_initS : yX6_init.cls ≠ "java/lang/invoke/MethodHandle" ∧ yX6_init.cls ≠ "java/lang/invoke/VarHandle" ∧ (parseMethodDescriptor yX6_init.desc).map (fun d => d.parameters.length) = some 0 := by decide +kernel
set_option maxHeartbeats 4000000 in
set_option maxRecDepth 100000 in
theorem c_X6_init (V : ga_V) (h0 : Nat) : ga_C V yX6_init wsX6_init rm_X6_init [.ref h0] [(h0, .inr (6, [.null, .null, .null, .int 0]))] 3 60 (fun v w => v = none ∧ ∃ (a : Nat → Nat), a 0 = h0 ∧ w = [(a 0, .inr (6, [.ref (a 1), .ref (a 2), .ref (a 3), .int 0])), (a 1, .inl (V.2 0, 26, .inl ((fun _ => 0)))), (a 2, .inl (V.2 0, 4, .inl ((fun _ => 0)))), (a 3, .inl (V.2 0, 30, .inl ((fun _ => 0))))]) := by
  refine ga_met (cc := cX6_init) (maxL := 1) (rt := none) (by decide) rfl [(0, .ref h0)] rfl (Nat.le_of_ble_eq_true rfl) ?_
  intro G hR hE
  have hinX6 : ∀ w ∈ u_ws RX6 TX6 4, w ∈ wsX6_init := by decide +kernel
  have f9 : Cond.fieldLink RX6 9 "BoundaryRules$Stock" "classes" "[I" ∈ wsX6_init := by decide +kernel
  have f15 : Cond.fieldLink RX6 15 "BoundaryRules$Stock" "kinds" "[I" ∈ wsX6_init := by decide +kernel
  have f18 : Cond.fieldLink RX6 18 "BoundaryRules$Stock" "line" "[I" ∈ wsX6_init := by decide +kernel
  refine ga_aload_n hR (pc := 0) 0 rfl rfl dX6_init_0 ?_
  refine ga_objInit hR (pc := 1) (by decide +kernel) (by decide +kernel) (by decide +kernel) (Nat.le_of_ble_eq_true rfl) (Nat.le_of_ble_eq_true rfl) dX6_init_1 ?_
  refine ga_aload_n hR (pc := 4) 0 rfl rfl dX6_init_4 ?_
  refine ga_bipush hR (pc := 5) (v := nI 26) (by decide) dX6_init_5 ?_
  refine ga_newa hR (pc := 7) (t := 0) (ty := .int) (N := 26) (z := nI 26) rfl rfl rfl (fun C h => by cases h) (by decide +kernel) (by decide) (by decide) (Nat.le_of_ble_eq_true rfl) (Nat.le_of_ble_eq_true rfl) (Nat.le_of_ble_eq_true rfl) dX6_init_7 (fun q_1 => ?_)
  refine ga_to [(h0, .inr (6, [.null, .null, .null, .int 0])), (q_1, .inl (V.2 0, 26, .inl ((fun _ => 0))))] [.ref (q_1), .ref (h0)] rfl rfl ?_
  refine ga_putF hR (pc := 9) (ws' := [(h0, .inr (6, [.ref (q_1), .null, .null, .int 0])), (q_1, .inl (V.2 0, 26, .inl ((fun _ => 0))))]) 0 rfl rfl hinX6 0 (by decide) f9 tyX6_ok nmX6 rfl rfl rfl rfl rfl (Nat.le_of_ble_eq_true rfl) rfl dX6_init_9 ?_
  refine ga_aload_n hR (pc := 12) 0 rfl rfl dX6_init_12 ?_
  refine ga_iconst hR (pc := 13) (v := nI 4) (by decide) dX6_init_13 ?_
  refine ga_newa hR (pc := 14) (t := 0) (ty := .int) (N := 4) (z := nI 4) rfl rfl rfl (fun C h => by cases h) (by decide +kernel) (by decide) (by decide) (Nat.le_of_ble_eq_true rfl) (Nat.le_of_ble_eq_true rfl) (Nat.le_of_ble_eq_true rfl) dX6_init_14 (fun q_2 => ?_)
  refine ga_to [(h0, .inr (6, [.ref (q_1), .null, .null, .int 0])), (q_1, .inl (V.2 0, 26, .inl ((fun _ => 0)))), (q_2, .inl (V.2 0, 4, .inl ((fun _ => 0))))] [.ref (q_2), .ref (h0)] rfl rfl ?_
  refine ga_putF hR (pc := 16) (ws' := [(h0, .inr (6, [.ref (q_1), .ref (q_2), .null, .int 0])), (q_1, .inl (V.2 0, 26, .inl ((fun _ => 0)))), (q_2, .inl (V.2 0, 4, .inl ((fun _ => 0))))]) 0 rfl rfl hinX6 1 (by decide) f15 tyX6_ok nmX6 rfl rfl rfl rfl rfl (Nat.le_of_ble_eq_true rfl) rfl dX6_init_16 ?_
  refine ga_aload_n hR (pc := 19) 0 rfl rfl dX6_init_19 ?_
  refine ga_bipush hR (pc := 20) (v := nI 30) (by decide) dX6_init_20 ?_
  refine ga_newa hR (pc := 22) (t := 0) (ty := .int) (N := 30) (z := nI 30) rfl rfl rfl (fun C h => by cases h) (by decide +kernel) (by decide) (by decide) (Nat.le_of_ble_eq_true rfl) (Nat.le_of_ble_eq_true rfl) (Nat.le_of_ble_eq_true rfl) dX6_init_22 (fun q_3 => ?_)
  refine ga_to [(h0, .inr (6, [.ref (q_1), .ref (q_2), .null, .int 0])), (q_1, .inl (V.2 0, 26, .inl ((fun _ => 0)))), (q_2, .inl (V.2 0, 4, .inl ((fun _ => 0)))), (q_3, .inl (V.2 0, 30, .inl ((fun _ => 0))))] [.ref (q_3), .ref (h0)] rfl rfl ?_
  refine ga_putF hR (pc := 24) (ws' := [(h0, .inr (6, [.ref (q_1), .ref (q_2), .ref (q_3), .int 0])), (q_1, .inl (V.2 0, 26, .inl ((fun _ => 0)))), (q_2, .inl (V.2 0, 4, .inl ((fun _ => 0)))), (q_3, .inl (V.2 0, 30, .inl ((fun _ => 0))))]) 0 rfl rfl hinX6 2 (by decide) f18 tyX6_ok nmX6 rfl rfl rfl rfl rfl (Nat.le_of_ble_eq_true rfl) rfl dX6_init_24 ?_
  exact ga_vret hE dX6_init_27 ⟨rfl, (fun k => [h0, q_1, q_2, q_3].getD k 0), rfl, rfl⟩

def rm_X0_init : Room := { frames := 1, cells := 3, slots := 24, locals := 12 }
theorem hd_X0_initS : yX0_init.cls ≠ "java/lang/invoke/MethodHandle" ∧ yX0_init.cls ≠ "java/lang/invoke/VarHandle" ∧ (parseMethodDescriptor yX0_init.desc).map (fun d => d.parameters.length) = some 0 := by decide +kernel
set_option maxHeartbeats 4000000 in
set_option maxRecDepth 100000 in
theorem c_X0_init (V : ga_V) (h0 : Nat) : ga_C V yX0_init wsX0_init rm_X0_init [.ref h0] [(h0, .inr (0, [.null, .null, .null, .int 0]))] 3 24 (fun v w => v = none ∧ ∃ (a : Nat → Nat), a 0 = h0 ∧ w = [(a 0, .inr (0, [.ref (a 1), .ref (a 2), .ref (a 3), .int 0])), (a 1, .inl (V.2 0, 8, .inl ((fun _ => 0)))), (a 2, .inl (V.2 0, 8, .inl ((fun _ => 0)))), (a 3, .inl (V.2 0, 8, .inl ((fun _ => 0))))]) := by
  refine ga_met (cc := cX0_init) (maxL := 1) (rt := none) (by decide) rfl [(0, .ref h0)] rfl (Nat.le_of_ble_eq_true rfl) ?_
  intro G hR hE
  have hinX0 : ∀ w ∈ u_ws RX0 TX0 4, w ∈ wsX0_init := by decide +kernel
  have f9 : Cond.fieldLink RX0 9 "BoundaryRules$Acts" "acts" "[I" ∈ wsX0_init := by decide +kernel
  have f15 : Cond.fieldLink RX0 15 "BoundaryRules$Acts" "wheres" "[I" ∈ wsX0_init := by decide +kernel
  have f18 : Cond.fieldLink RX0 18 "BoundaryRules$Acts" "befores" "[I" ∈ wsX0_init := by decide +kernel
  refine ga_aload_n hR (pc := 0) 0 rfl rfl dX0_init_0 ?_
  refine ga_objInit hR (pc := 1) (by decide +kernel) (by decide +kernel) (by decide +kernel) (Nat.le_of_ble_eq_true rfl) (Nat.le_of_ble_eq_true rfl) dX0_init_1 ?_
  refine ga_aload_n hR (pc := 4) 0 rfl rfl dX0_init_4 ?_
  refine ga_bipush hR (pc := 5) (v := nI 8) (by decide) dX0_init_5 ?_
  refine ga_newa hR (pc := 7) (t := 0) (ty := .int) (N := 8) (z := nI 8) rfl rfl rfl (fun C h => by cases h) (by decide +kernel) (by decide) (by decide) (Nat.le_of_ble_eq_true rfl) (Nat.le_of_ble_eq_true rfl) (Nat.le_of_ble_eq_true rfl) dX0_init_7 (fun q_1 => ?_)
  refine ga_to [(h0, .inr (0, [.null, .null, .null, .int 0])), (q_1, .inl (V.2 0, 8, .inl ((fun _ => 0))))] [.ref (q_1), .ref (h0)] rfl rfl ?_
  refine ga_putF hR (pc := 9) (ws' := [(h0, .inr (0, [.ref (q_1), .null, .null, .int 0])), (q_1, .inl (V.2 0, 8, .inl ((fun _ => 0))))]) 0 rfl rfl hinX0 0 (by decide) f9 tyX0_ok nmX0 rfl rfl rfl rfl rfl (Nat.le_of_ble_eq_true rfl) rfl dX0_init_9 ?_
  refine ga_aload_n hR (pc := 12) 0 rfl rfl dX0_init_12 ?_
  refine ga_bipush hR (pc := 13) (v := nI 8) (by decide) dX0_init_13 ?_
  refine ga_newa hR (pc := 15) (t := 0) (ty := .int) (N := 8) (z := nI 8) rfl rfl rfl (fun C h => by cases h) (by decide +kernel) (by decide) (by decide) (Nat.le_of_ble_eq_true rfl) (Nat.le_of_ble_eq_true rfl) (Nat.le_of_ble_eq_true rfl) dX0_init_15 (fun q_2 => ?_)
  refine ga_to [(h0, .inr (0, [.ref (q_1), .null, .null, .int 0])), (q_1, .inl (V.2 0, 8, .inl ((fun _ => 0)))), (q_2, .inl (V.2 0, 8, .inl ((fun _ => 0))))] [.ref (q_2), .ref (h0)] rfl rfl ?_
  refine ga_putF hR (pc := 17) (ws' := [(h0, .inr (0, [.ref (q_1), .ref (q_2), .null, .int 0])), (q_1, .inl (V.2 0, 8, .inl ((fun _ => 0)))), (q_2, .inl (V.2 0, 8, .inl ((fun _ => 0))))]) 0 rfl rfl hinX0 1 (by decide) f15 tyX0_ok nmX0 rfl rfl rfl rfl rfl (Nat.le_of_ble_eq_true rfl) rfl dX0_init_17 ?_
  refine ga_aload_n hR (pc := 20) 0 rfl rfl dX0_init_20 ?_
  refine ga_bipush hR (pc := 21) (v := nI 8) (by decide) dX0_init_21 ?_
  refine ga_newa hR (pc := 23) (t := 0) (ty := .int) (N := 8) (z := nI 8) rfl rfl rfl (fun C h => by cases h) (by decide +kernel) (by decide) (by decide) (Nat.le_of_ble_eq_true rfl) (Nat.le_of_ble_eq_true rfl) (Nat.le_of_ble_eq_true rfl) dX0_init_23 (fun q_3 => ?_)
  refine ga_to [(h0, .inr (0, [.ref (q_1), .ref (q_2), .null, .int 0])), (q_1, .inl (V.2 0, 8, .inl ((fun _ => 0)))), (q_2, .inl (V.2 0, 8, .inl ((fun _ => 0)))), (q_3, .inl (V.2 0, 8, .inl ((fun _ => 0))))] [.ref (q_3), .ref (h0)] rfl rfl ?_
  refine ga_putF hR (pc := 25) (ws' := [(h0, .inr (0, [.ref (q_1), .ref (q_2), .ref (q_3), .int 0])), (q_1, .inl (V.2 0, 8, .inl ((fun _ => 0)))), (q_2, .inl (V.2 0, 8, .inl ((fun _ => 0)))), (q_3, .inl (V.2 0, 8, .inl ((fun _ => 0))))]) 0 rfl rfl hinX0 2 (by decide) f18 tyX0_ok nmX0 rfl rfl rfl rfl rfl (Nat.le_of_ble_eq_true rfl) rfl dX0_init_25 ?_
  exact ga_vret hE dX0_init_28 ⟨rfl, (fun k => [h0, q_1, q_2, q_3].getD k 0), rfl, rfl⟩

def rm_X5_init : Room := { frames := 1, cells := 2, slots := 16, locals := 12 }
theorem hd_X5_initS : yX5_init.cls ≠ "java/lang/invoke/MethodHandle" ∧ yX5_init.cls ≠ "java/lang/invoke/VarHandle" ∧ (parseMethodDescriptor yX5_init.desc).map (fun d => d.parameters.length) = some 0 := by decide +kernel
set_option maxHeartbeats 4000000 in
set_option maxRecDepth 100000 in
theorem c_X5_init (V : ga_V) (h0 : Nat) : ga_C V yX5_init wsX5_init rm_X5_init [.ref h0] [(h0, .inr (5, [.null, .null, .int 0, .int 0]))] 2 16 (fun v w => v = none ∧ ∃ (a : Nat → Nat), a 0 = h0 ∧ w = [(a 0, .inr (5, [.ref (a 1), .ref (a 2), .int 0, .int 0])), (a 1, .inl (V.2 0, 10, .inl ((fun _ => 0)))), (a 2, .inl (V.2 0, 6, .inl ((fun _ => 0))))]) := by
  refine ga_met (cc := cX5_init) (maxL := 1) (rt := none) (by decide) rfl [(0, .ref h0)] rfl (Nat.le_of_ble_eq_true rfl) ?_
  intro G hR hE
  have hinX5 : ∀ w ∈ u_ws RX5 TX5 4, w ∈ wsX5_init := by decide +kernel
  have f9 : Cond.fieldLink RX5 9 "BoundaryRules$Steps" "onward" "[I" ∈ wsX5_init := by decide +kernel
  have f15 : Cond.fieldLink RX5 15 "BoundaryRules$Steps" "takers" "[I" ∈ wsX5_init := by decide +kernel
  refine ga_aload_n hR (pc := 0) 0 rfl rfl dX5_init_0 ?_
  refine ga_objInit hR (pc := 1) (by decide +kernel) (by decide +kernel) (by decide +kernel) (Nat.le_of_ble_eq_true rfl) (Nat.le_of_ble_eq_true rfl) dX5_init_1 ?_
  refine ga_aload_n hR (pc := 4) 0 rfl rfl dX5_init_4 ?_
  refine ga_bipush hR (pc := 5) (v := nI 10) (by decide) dX5_init_5 ?_
  refine ga_newa hR (pc := 7) (t := 0) (ty := .int) (N := 10) (z := nI 10) rfl rfl rfl (fun C h => by cases h) (by decide +kernel) (by decide) (by decide) (Nat.le_of_ble_eq_true rfl) (Nat.le_of_ble_eq_true rfl) (Nat.le_of_ble_eq_true rfl) dX5_init_7 (fun q_1 => ?_)
  refine ga_to [(h0, .inr (5, [.null, .null, .int 0, .int 0])), (q_1, .inl (V.2 0, 10, .inl ((fun _ => 0))))] [.ref (q_1), .ref (h0)] rfl rfl ?_
  refine ga_putF hR (pc := 9) (ws' := [(h0, .inr (5, [.ref (q_1), .null, .int 0, .int 0])), (q_1, .inl (V.2 0, 10, .inl ((fun _ => 0))))]) 0 rfl rfl hinX5 0 (by decide) f9 tyX5_ok nmX5 rfl rfl rfl rfl rfl (Nat.le_of_ble_eq_true rfl) rfl dX5_init_9 ?_
  refine ga_aload_n hR (pc := 12) 0 rfl rfl dX5_init_12 ?_
  refine ga_bipush hR (pc := 13) (v := nI 6) (by decide) dX5_init_13 ?_
  refine ga_newa hR (pc := 15) (t := 0) (ty := .int) (N := 6) (z := nI 6) rfl rfl rfl (fun C h => by cases h) (by decide +kernel) (by decide) (by decide) (Nat.le_of_ble_eq_true rfl) (Nat.le_of_ble_eq_true rfl) (Nat.le_of_ble_eq_true rfl) dX5_init_15 (fun q_2 => ?_)
  refine ga_to [(h0, .inr (5, [.ref (q_1), .null, .int 0, .int 0])), (q_1, .inl (V.2 0, 10, .inl ((fun _ => 0)))), (q_2, .inl (V.2 0, 6, .inl ((fun _ => 0))))] [.ref (q_2), .ref (h0)] rfl rfl ?_
  refine ga_putF hR (pc := 17) (ws' := [(h0, .inr (5, [.ref (q_1), .ref (q_2), .int 0, .int 0])), (q_1, .inl (V.2 0, 10, .inl ((fun _ => 0)))), (q_2, .inl (V.2 0, 6, .inl ((fun _ => 0))))]) 0 rfl rfl hinX5 1 (by decide) f15 tyX5_ok nmX5 rfl rfl rfl rfl rfl (Nat.le_of_ble_eq_true rfl) rfl dX5_init_17 ?_
  exact ga_vret hE dX5_init_20 ⟨rfl, (fun k => [h0, q_1, q_2].getD k 0), rfl, rfl⟩

def rm_X3_init : Room := { frames := 1, cells := 1, slots := 31, locals := 12 }
theorem hd_X3_initS : yX3_init.cls ≠ "java/lang/invoke/MethodHandle" ∧ yX3_init.cls ≠ "java/lang/invoke/VarHandle" ∧ (parseMethodDescriptor yX3_init.desc).map (fun d => d.parameters.length) = some 0 := by decide +kernel
set_option maxHeartbeats 4000000 in
set_option maxRecDepth 100000 in
theorem c_X3_init (V : ga_V) (h0 : Nat) : ga_C V yX3_init wsX3_init rm_X3_init [.ref h0] [(h0, .inr (3, [.null, .int 0, .int 0]))] 1 31 (fun v w => v = none ∧ ∃ (a : Nat → Nat), a 0 = h0 ∧ w = [(a 0, .inr (3, [.ref (a 1), .int 0, .int 0])), (a 1, .inl (V.2 0, 31, .inl ((fun _ => 0))))]) := by
  refine ga_met (cc := cX3_init) (maxL := 1) (rt := none) (by decide) rfl [(0, .ref h0)] rfl (Nat.le_of_ble_eq_true rfl) ?_
  intro G hR hE
  have hinX3 : ∀ w ∈ u_ws RX3 TX3 3, w ∈ wsX3_init := by decide +kernel
  have f9 : Cond.fieldLink RX3 9 "BoundaryRules$Pieces" "stands" "[I" ∈ wsX3_init := by decide +kernel
  refine ga_aload_n hR (pc := 0) 0 rfl rfl dX3_init_0 ?_
  refine ga_objInit hR (pc := 1) (by decide +kernel) (by decide +kernel) (by decide +kernel) (Nat.le_of_ble_eq_true rfl) (Nat.le_of_ble_eq_true rfl) dX3_init_1 ?_
  refine ga_aload_n hR (pc := 4) 0 rfl rfl dX3_init_4 ?_
  refine ga_bipush hR (pc := 5) (v := nI 31) (by decide) dX3_init_5 ?_
  refine ga_newa hR (pc := 7) (t := 0) (ty := .int) (N := 31) (z := nI 31) rfl rfl rfl (fun C h => by cases h) (by decide +kernel) (by decide) (by decide) (Nat.le_of_ble_eq_true rfl) (Nat.le_of_ble_eq_true rfl) (Nat.le_of_ble_eq_true rfl) dX3_init_7 (fun q_1 => ?_)
  refine ga_to [(h0, .inr (3, [.null, .int 0, .int 0])), (q_1, .inl (V.2 0, 31, .inl ((fun _ => 0))))] [.ref (q_1), .ref (h0)] rfl rfl ?_
  refine ga_putF hR (pc := 9) (ws' := [(h0, .inr (3, [.ref (q_1), .int 0, .int 0])), (q_1, .inl (V.2 0, 31, .inl ((fun _ => 0))))]) 0 rfl rfl hinX3 0 (by decide) f9 tyX3_ok nmX3 rfl rfl rfl rfl rfl (Nat.le_of_ble_eq_true rfl) rfl dX3_init_9 ?_
  exact ga_vret hE dX3_init_12 ⟨rfl, (fun k => [h0, q_1].getD k 0), rfl, rfl⟩

def rm_X1_init : Room := { frames := 1, cells := 4, slots := 5120, locals := 12 }
theorem hd_X1_initS : yX1_init.cls ≠ "java/lang/invoke/MethodHandle" ∧ yX1_init.cls ≠ "java/lang/invoke/VarHandle" ∧ (parseMethodDescriptor yX1_init.desc).map (fun d => d.parameters.length) = some 0 := by decide +kernel
set_option maxHeartbeats 4000000 in
set_option maxRecDepth 100000 in
theorem c_X1_init (V : ga_V) (h0 : Nat) : ga_C V yX1_init wsX1_init rm_X1_init [.ref h0] [(h0, .inr (1, [.null, .null, .null, .null]))] 4 5120 (fun v w => v = none ∧ ∃ (a : Nat → Nat), a 0 = h0 ∧ w = [(a 0, .inr (1, [.ref (a 1), .ref (a 2), .ref (a 3), .ref (a 4)])), (a 1, .inl (V.2 0, 1024, .inl ((fun _ => 0)))), (a 2, .inl (V.2 0, 1024, .inl ((fun _ => 0)))), (a 3, .inl (V.2 0, 2048, .inl ((fun _ => 0)))), (a 4, .inl (V.2 0, 1024, .inl ((fun _ => 0))))]) := by
  refine ga_met (cc := cX1_init) (maxL := 1) (rt := none) (by decide) rfl [(0, .ref h0)] rfl (Nat.le_of_ble_eq_true rfl) ?_
  intro G hR hE
  have hinX1 : ∀ w ∈ u_ws RX1 TX1 4, w ∈ wsX1_init := by decide +kernel
  have f9 : Cond.fieldLink RX1 9 "BoundaryRules$Groups" "groups" "[I" ∈ wsX1_init := by decide +kernel
  have f15 : Cond.fieldLink RX1 15 "BoundaryRules$Groups" "finer" "[I" ∈ wsX1_init := by decide +kernel
  have f18 : Cond.fieldLink RX1 18 "BoundaryRules$Groups" "buckets" "[I" ∈ wsX1_init := by decide +kernel
  have f21 : Cond.fieldLink RX1 21 "BoundaryRules$Groups" "chains" "[I" ∈ wsX1_init := by decide +kernel
  refine ga_aload_n hR (pc := 0) 0 rfl rfl dX1_init_0 ?_
  refine ga_objInit hR (pc := 1) (by decide +kernel) (by decide +kernel) (by decide +kernel) (Nat.le_of_ble_eq_true rfl) (Nat.le_of_ble_eq_true rfl) dX1_init_1 ?_
  refine ga_aload_n hR (pc := 4) 0 rfl rfl dX1_init_4 ?_
  refine ga_sipush hR (pc := 5) (v := nI 1024) (by decide) dX1_init_5 ?_
  refine ga_newa hR (pc := 8) (t := 0) (ty := .int) (N := 1024) (z := nI 1024) rfl rfl rfl (fun C h => by cases h) (by decide +kernel) (by decide) (by decide) (Nat.le_of_ble_eq_true rfl) (Nat.le_of_ble_eq_true rfl) (Nat.le_of_ble_eq_true rfl) dX1_init_8 (fun q_1 => ?_)
  refine ga_to [(h0, .inr (1, [.null, .null, .null, .null])), (q_1, .inl (V.2 0, 1024, .inl ((fun _ => 0))))] [.ref (q_1), .ref (h0)] rfl rfl ?_
  refine ga_putF hR (pc := 10) (ws' := [(h0, .inr (1, [.ref (q_1), .null, .null, .null])), (q_1, .inl (V.2 0, 1024, .inl ((fun _ => 0))))]) 0 rfl rfl hinX1 0 (by decide) f9 tyX1_ok nmX1 rfl rfl rfl rfl rfl (Nat.le_of_ble_eq_true rfl) rfl dX1_init_10 ?_
  refine ga_aload_n hR (pc := 13) 0 rfl rfl dX1_init_13 ?_
  refine ga_sipush hR (pc := 14) (v := nI 1024) (by decide) dX1_init_14 ?_
  refine ga_newa hR (pc := 17) (t := 0) (ty := .int) (N := 1024) (z := nI 1024) rfl rfl rfl (fun C h => by cases h) (by decide +kernel) (by decide) (by decide) (Nat.le_of_ble_eq_true rfl) (Nat.le_of_ble_eq_true rfl) (Nat.le_of_ble_eq_true rfl) dX1_init_17 (fun q_2 => ?_)
  refine ga_to [(h0, .inr (1, [.ref (q_1), .null, .null, .null])), (q_1, .inl (V.2 0, 1024, .inl ((fun _ => 0)))), (q_2, .inl (V.2 0, 1024, .inl ((fun _ => 0))))] [.ref (q_2), .ref (h0)] rfl rfl ?_
  refine ga_putF hR (pc := 19) (ws' := [(h0, .inr (1, [.ref (q_1), .ref (q_2), .null, .null])), (q_1, .inl (V.2 0, 1024, .inl ((fun _ => 0)))), (q_2, .inl (V.2 0, 1024, .inl ((fun _ => 0))))]) 0 rfl rfl hinX1 1 (by decide) f15 tyX1_ok nmX1 rfl rfl rfl rfl rfl (Nat.le_of_ble_eq_true rfl) rfl dX1_init_19 ?_
  refine ga_aload_n hR (pc := 22) 0 rfl rfl dX1_init_22 ?_
  refine ga_sipush hR (pc := 23) (v := nI 2048) (by decide) dX1_init_23 ?_
  refine ga_newa hR (pc := 26) (t := 0) (ty := .int) (N := 2048) (z := nI 2048) rfl rfl rfl (fun C h => by cases h) (by decide +kernel) (by decide) (by decide) (Nat.le_of_ble_eq_true rfl) (Nat.le_of_ble_eq_true rfl) (Nat.le_of_ble_eq_true rfl) dX1_init_26 (fun q_3 => ?_)
  refine ga_to [(h0, .inr (1, [.ref (q_1), .ref (q_2), .null, .null])), (q_1, .inl (V.2 0, 1024, .inl ((fun _ => 0)))), (q_2, .inl (V.2 0, 1024, .inl ((fun _ => 0)))), (q_3, .inl (V.2 0, 2048, .inl ((fun _ => 0))))] [.ref (q_3), .ref (h0)] rfl rfl ?_
  refine ga_putF hR (pc := 28) (ws' := [(h0, .inr (1, [.ref (q_1), .ref (q_2), .ref (q_3), .null])), (q_1, .inl (V.2 0, 1024, .inl ((fun _ => 0)))), (q_2, .inl (V.2 0, 1024, .inl ((fun _ => 0)))), (q_3, .inl (V.2 0, 2048, .inl ((fun _ => 0))))]) 0 rfl rfl hinX1 2 (by decide) f18 tyX1_ok nmX1 rfl rfl rfl rfl rfl (Nat.le_of_ble_eq_true rfl) rfl dX1_init_28 ?_
  refine ga_aload_n hR (pc := 31) 0 rfl rfl dX1_init_31 ?_
  refine ga_sipush hR (pc := 32) (v := nI 1024) (by decide) dX1_init_32 ?_
  refine ga_newa hR (pc := 35) (t := 0) (ty := .int) (N := 1024) (z := nI 1024) rfl rfl rfl (fun C h => by cases h) (by decide +kernel) (by decide) (by decide) (Nat.le_of_ble_eq_true rfl) (Nat.le_of_ble_eq_true rfl) (Nat.le_of_ble_eq_true rfl) dX1_init_35 (fun q_4 => ?_)
  refine ga_to [(h0, .inr (1, [.ref (q_1), .ref (q_2), .ref (q_3), .null])), (q_1, .inl (V.2 0, 1024, .inl ((fun _ => 0)))), (q_2, .inl (V.2 0, 1024, .inl ((fun _ => 0)))), (q_3, .inl (V.2 0, 2048, .inl ((fun _ => 0)))), (q_4, .inl (V.2 0, 1024, .inl ((fun _ => 0))))] [.ref (q_4), .ref (h0)] rfl rfl ?_
  refine ga_putF hR (pc := 37) (ws' := [(h0, .inr (1, [.ref (q_1), .ref (q_2), .ref (q_3), .ref (q_4)])), (q_1, .inl (V.2 0, 1024, .inl ((fun _ => 0)))), (q_2, .inl (V.2 0, 1024, .inl ((fun _ => 0)))), (q_3, .inl (V.2 0, 2048, .inl ((fun _ => 0)))), (q_4, .inl (V.2 0, 1024, .inl ((fun _ => 0))))]) 0 rfl rfl hinX1 3 (by decide) f21 tyX1_ok nmX1 rfl rfl rfl rfl rfl (Nat.le_of_ble_eq_true rfl) rfl dX1_init_37 ?_
  exact ga_vret hE dX1_init_40 ⟨rfl, (fun k => [h0, q_1, q_2, q_3, q_4].getD k 0), rfl, rfl⟩

def rm_X8_init : Room := { frames := 2, cells := 11, slots := 14382, locals := 32 }
theorem hd_X8_initS : yX8_init.cls ≠ "java/lang/invoke/MethodHandle" ∧ yX8_init.cls ≠ "java/lang/invoke/VarHandle" ∧ (parseMethodDescriptor yX8_init.desc).map (fun d => d.parameters.length) = some 0 := by decide +kernel
set_option maxHeartbeats 4000000 in
set_option maxRecDepth 100000 in
theorem c_X8_init (V : ga_V) (h0 : Nat) : ga_C V yX8_init wsX8_init rm_X8_init [.ref h0] [(h0, .inr (8, [.null, .null, .null, .null, .null, .null, .null, .int 0, .int 0, .int 0, .int 0]))] 11 14382 (fun v w => v = none ∧ ∃ (a : Nat → Nat), a 0 = h0 ∧ w = [(a 0, .inr (8, [.ref (a 1), .ref (a 2), .ref (a 3), .ref (a 4), .ref (a 5), .ref (a 6), .ref (a 7), .int 0, .int 0, .int 0, .int 0])), (a 1, .inl (V.2 0, 1024, .inl ((fun _ => 0)))), (a 2, .inl (V.2 0, 1024, .inl ((fun _ => 0)))), (a 3, .inl (V.2 0, 1024, .inl ((fun _ => 0)))), (a 4, .inl (V.2 0, 6144, .inl ((fun _ => 0)))), (a 5, .inl (V.2 0, 6, .inl ((fun _ => 0)))), (a 6, .inl (V.2 1, 36, .inl ((fun _ => 0)))), (a 7, .inr (1, [.ref (a 8), .ref (a 9), .ref (a 10), .ref (a 11)])), (a 8, .inl (V.2 0, 1024, .inl ((fun _ => 0)))), (a 9, .inl (V.2 0, 1024, .inl ((fun _ => 0)))), (a 10, .inl (V.2 0, 2048, .inl ((fun _ => 0)))), (a 11, .inl (V.2 0, 1024, .inl ((fun _ => 0))))]) := by
  refine ga_met (cc := cX8_init) (maxL := 1) (rt := none) (by decide) rfl [(0, .ref h0)] rfl (Nat.le_of_ble_eq_true rfl) ?_
  intro G hR hE
  have hinX8 : ∀ w ∈ u_ws RX8 TX8 11, w ∈ wsX8_init := by decide +kernel
  have hinX1 : ∀ w ∈ u_ws RX1 TX1 4, w ∈ wsX8_init := by decide +kernel
  have f9 : Cond.fieldLink RX8 9 "BoundaryRules$Ways" "stands" "[I" ∈ wsX8_init := by decide +kernel
  have f15 : Cond.fieldLink RX8 15 "BoundaryRules$Ways" "fewest" "[I" ∈ wsX8_init := by decide +kernel
  have f18 : Cond.fieldLink RX8 18 "BoundaryRules$Ways" "numberOf" "[I" ∈ wsX8_init := by decide +kernel
  have f21 : Cond.fieldLink RX8 21 "BoundaryRules$Ways" "nexts" "[I" ∈ wsX8_init := by decide +kernel
  have f24 : Cond.fieldLink RX8 24 "BoundaryRules$Ways" "begun" "[I" ∈ wsX8_init := by decide +kernel
  have f27 : Cond.fieldLink RX8 27 "BoundaryRules$Ways" "known" "[Z" ∈ wsX8_init := by decide +kernel
  have f34 : Cond.fieldLink RX8 34 "BoundaryRules$Ways" "groups" "LBoundaryRules$Groups;" ∈ wsX8_init := by decide +kernel
  refine ga_aload_n hR (pc := 0) 0 rfl rfl dX8_init_0 ?_
  refine ga_objInit hR (pc := 1) (by decide +kernel) (by decide +kernel) (by decide +kernel) (Nat.le_of_ble_eq_true rfl) (Nat.le_of_ble_eq_true rfl) dX8_init_1 ?_
  refine ga_aload_n hR (pc := 4) 0 rfl rfl dX8_init_4 ?_
  refine ga_sipush hR (pc := 5) (v := nI 1024) (by decide) dX8_init_5 ?_
  refine ga_newa hR (pc := 8) (t := 0) (ty := .int) (N := 1024) (z := nI 1024) rfl rfl rfl (fun C h => by cases h) (by decide +kernel) (by decide) (by decide) (Nat.le_of_ble_eq_true rfl) (Nat.le_of_ble_eq_true rfl) (Nat.le_of_ble_eq_true rfl) dX8_init_8 (fun q_1 => ?_)
  refine ga_to [(h0, .inr (8, [.null, .null, .null, .null, .null, .null, .null, .int 0, .int 0, .int 0, .int 0])), (q_1, .inl (V.2 0, 1024, .inl ((fun _ => 0))))] [.ref (q_1), .ref (h0)] rfl rfl ?_
  refine ga_putF hR (pc := 10) (ws' := [(h0, .inr (8, [.ref (q_1), .null, .null, .null, .null, .null, .null, .int 0, .int 0, .int 0, .int 0])), (q_1, .inl (V.2 0, 1024, .inl ((fun _ => 0))))]) 0 rfl rfl hinX8 0 (by decide) f9 tyX8_ok nmX8 rfl rfl rfl rfl rfl (Nat.le_of_ble_eq_true rfl) rfl dX8_init_10 ?_
  refine ga_aload_n hR (pc := 13) 0 rfl rfl dX8_init_13 ?_
  refine ga_sipush hR (pc := 14) (v := nI 1024) (by decide) dX8_init_14 ?_
  refine ga_newa hR (pc := 17) (t := 0) (ty := .int) (N := 1024) (z := nI 1024) rfl rfl rfl (fun C h => by cases h) (by decide +kernel) (by decide) (by decide) (Nat.le_of_ble_eq_true rfl) (Nat.le_of_ble_eq_true rfl) (Nat.le_of_ble_eq_true rfl) dX8_init_17 (fun q_2 => ?_)
  refine ga_to [(h0, .inr (8, [.ref (q_1), .null, .null, .null, .null, .null, .null, .int 0, .int 0, .int 0, .int 0])), (q_1, .inl (V.2 0, 1024, .inl ((fun _ => 0)))), (q_2, .inl (V.2 0, 1024, .inl ((fun _ => 0))))] [.ref (q_2), .ref (h0)] rfl rfl ?_
  refine ga_putF hR (pc := 19) (ws' := [(h0, .inr (8, [.ref (q_1), .ref (q_2), .null, .null, .null, .null, .null, .int 0, .int 0, .int 0, .int 0])), (q_1, .inl (V.2 0, 1024, .inl ((fun _ => 0)))), (q_2, .inl (V.2 0, 1024, .inl ((fun _ => 0))))]) 0 rfl rfl hinX8 1 (by decide) f15 tyX8_ok nmX8 rfl rfl rfl rfl rfl (Nat.le_of_ble_eq_true rfl) rfl dX8_init_19 ?_
  refine ga_aload_n hR (pc := 22) 0 rfl rfl dX8_init_22 ?_
  refine ga_sipush hR (pc := 23) (v := nI 1024) (by decide) dX8_init_23 ?_
  refine ga_newa hR (pc := 26) (t := 0) (ty := .int) (N := 1024) (z := nI 1024) rfl rfl rfl (fun C h => by cases h) (by decide +kernel) (by decide) (by decide) (Nat.le_of_ble_eq_true rfl) (Nat.le_of_ble_eq_true rfl) (Nat.le_of_ble_eq_true rfl) dX8_init_26 (fun q_3 => ?_)
  refine ga_to [(h0, .inr (8, [.ref (q_1), .ref (q_2), .null, .null, .null, .null, .null, .int 0, .int 0, .int 0, .int 0])), (q_1, .inl (V.2 0, 1024, .inl ((fun _ => 0)))), (q_2, .inl (V.2 0, 1024, .inl ((fun _ => 0)))), (q_3, .inl (V.2 0, 1024, .inl ((fun _ => 0))))] [.ref (q_3), .ref (h0)] rfl rfl ?_
  refine ga_putF hR (pc := 28) (ws' := [(h0, .inr (8, [.ref (q_1), .ref (q_2), .ref (q_3), .null, .null, .null, .null, .int 0, .int 0, .int 0, .int 0])), (q_1, .inl (V.2 0, 1024, .inl ((fun _ => 0)))), (q_2, .inl (V.2 0, 1024, .inl ((fun _ => 0)))), (q_3, .inl (V.2 0, 1024, .inl ((fun _ => 0))))]) 0 rfl rfl hinX8 2 (by decide) f18 tyX8_ok nmX8 rfl rfl rfl rfl rfl (Nat.le_of_ble_eq_true rfl) rfl dX8_init_28 ?_
  refine ga_aload_n hR (pc := 31) 0 rfl rfl dX8_init_31 ?_
  refine ga_sipush hR (pc := 32) (v := nI 6144) (by decide) dX8_init_32 ?_
  refine ga_newa hR (pc := 35) (t := 0) (ty := .int) (N := 6144) (z := nI 6144) rfl rfl rfl (fun C h => by cases h) (by decide +kernel) (by decide) (by decide) (Nat.le_of_ble_eq_true rfl) (Nat.le_of_ble_eq_true rfl) (Nat.le_of_ble_eq_true rfl) dX8_init_35 (fun q_4 => ?_)
  refine ga_to [(h0, .inr (8, [.ref (q_1), .ref (q_2), .ref (q_3), .null, .null, .null, .null, .int 0, .int 0, .int 0, .int 0])), (q_1, .inl (V.2 0, 1024, .inl ((fun _ => 0)))), (q_2, .inl (V.2 0, 1024, .inl ((fun _ => 0)))), (q_3, .inl (V.2 0, 1024, .inl ((fun _ => 0)))), (q_4, .inl (V.2 0, 6144, .inl ((fun _ => 0))))] [.ref (q_4), .ref (h0)] rfl rfl ?_
  refine ga_putF hR (pc := 37) (ws' := [(h0, .inr (8, [.ref (q_1), .ref (q_2), .ref (q_3), .ref (q_4), .null, .null, .null, .int 0, .int 0, .int 0, .int 0])), (q_1, .inl (V.2 0, 1024, .inl ((fun _ => 0)))), (q_2, .inl (V.2 0, 1024, .inl ((fun _ => 0)))), (q_3, .inl (V.2 0, 1024, .inl ((fun _ => 0)))), (q_4, .inl (V.2 0, 6144, .inl ((fun _ => 0))))]) 0 rfl rfl hinX8 3 (by decide) f21 tyX8_ok nmX8 rfl rfl rfl rfl rfl (Nat.le_of_ble_eq_true rfl) rfl dX8_init_37 ?_
  refine ga_aload_n hR (pc := 40) 0 rfl rfl dX8_init_40 ?_
  refine ga_bipush hR (pc := 41) (v := nI 6) (by decide) dX8_init_41 ?_
  refine ga_newa hR (pc := 43) (t := 0) (ty := .int) (N := 6) (z := nI 6) rfl rfl rfl (fun C h => by cases h) (by decide +kernel) (by decide) (by decide) (Nat.le_of_ble_eq_true rfl) (Nat.le_of_ble_eq_true rfl) (Nat.le_of_ble_eq_true rfl) dX8_init_43 (fun q_5 => ?_)
  refine ga_to [(h0, .inr (8, [.ref (q_1), .ref (q_2), .ref (q_3), .ref (q_4), .null, .null, .null, .int 0, .int 0, .int 0, .int 0])), (q_1, .inl (V.2 0, 1024, .inl ((fun _ => 0)))), (q_2, .inl (V.2 0, 1024, .inl ((fun _ => 0)))), (q_3, .inl (V.2 0, 1024, .inl ((fun _ => 0)))), (q_4, .inl (V.2 0, 6144, .inl ((fun _ => 0)))), (q_5, .inl (V.2 0, 6, .inl ((fun _ => 0))))] [.ref (q_5), .ref (h0)] rfl rfl ?_
  refine ga_putF hR (pc := 45) (ws' := [(h0, .inr (8, [.ref (q_1), .ref (q_2), .ref (q_3), .ref (q_4), .ref (q_5), .null, .null, .int 0, .int 0, .int 0, .int 0])), (q_1, .inl (V.2 0, 1024, .inl ((fun _ => 0)))), (q_2, .inl (V.2 0, 1024, .inl ((fun _ => 0)))), (q_3, .inl (V.2 0, 1024, .inl ((fun _ => 0)))), (q_4, .inl (V.2 0, 6144, .inl ((fun _ => 0)))), (q_5, .inl (V.2 0, 6, .inl ((fun _ => 0))))]) 0 rfl rfl hinX8 4 (by decide) f24 tyX8_ok nmX8 rfl rfl rfl rfl rfl (Nat.le_of_ble_eq_true rfl) rfl dX8_init_45 ?_
  refine ga_aload_n hR (pc := 48) 0 rfl rfl dX8_init_48 ?_
  refine ga_bipush hR (pc := 49) (v := nI 36) (by decide) dX8_init_49 ?_
  refine ga_newa hR (pc := 51) (t := 1) (ty := .boolean) (N := 36) (z := nI 36) rfl rfl rfl (fun C h => by cases h) (by decide +kernel) (by decide) (by decide) (Nat.le_of_ble_eq_true rfl) (Nat.le_of_ble_eq_true rfl) (Nat.le_of_ble_eq_true rfl) dX8_init_51 (fun q_6 => ?_)
  refine ga_to [(h0, .inr (8, [.ref (q_1), .ref (q_2), .ref (q_3), .ref (q_4), .ref (q_5), .null, .null, .int 0, .int 0, .int 0, .int 0])), (q_1, .inl (V.2 0, 1024, .inl ((fun _ => 0)))), (q_2, .inl (V.2 0, 1024, .inl ((fun _ => 0)))), (q_3, .inl (V.2 0, 1024, .inl ((fun _ => 0)))), (q_4, .inl (V.2 0, 6144, .inl ((fun _ => 0)))), (q_5, .inl (V.2 0, 6, .inl ((fun _ => 0)))), (q_6, .inl (V.2 1, 36, .inl ((fun _ => 0))))] [.ref (q_6), .ref (h0)] rfl rfl ?_
  refine ga_putF hR (pc := 53) (ws' := [(h0, .inr (8, [.ref (q_1), .ref (q_2), .ref (q_3), .ref (q_4), .ref (q_5), .ref (q_6), .null, .int 0, .int 0, .int 0, .int 0])), (q_1, .inl (V.2 0, 1024, .inl ((fun _ => 0)))), (q_2, .inl (V.2 0, 1024, .inl ((fun _ => 0)))), (q_3, .inl (V.2 0, 1024, .inl ((fun _ => 0)))), (q_4, .inl (V.2 0, 6144, .inl ((fun _ => 0)))), (q_5, .inl (V.2 0, 6, .inl ((fun _ => 0)))), (q_6, .inl (V.2 1, 36, .inl ((fun _ => 0))))]) 0 rfl rfl hinX8 5 (by decide) f27 tyX8_ok nmX8 rfl rfl rfl rfl rfl (Nat.le_of_ble_eq_true rfl) rfl dX8_init_53 ?_
  refine ga_aload_n hR (pc := 56) 0 rfl rfl dX8_init_56 ?_
  refine ga_new hR (pc := 57) (ci := 1) (N := 4) (C := RX1) rfl hinX1 tyX1_ok (by decide +kernel) (by decide +kernel) (by decide +kernel) [.null, .null, .null, .null] (fun j hj => by rcases (show j = 0 ∨ j = 1 ∨ j = 2 ∨ j = 3 by omega) with rfl | rfl | rfl | rfl <;> rfl) (Nat.le_of_ble_eq_true rfl) (Nat.le_of_ble_eq_true rfl) dX8_init_57 (fun q_7 => ?_)
  refine ga_to [(h0, .inr (8, [.ref (q_1), .ref (q_2), .ref (q_3), .ref (q_4), .ref (q_5), .ref (q_6), .null, .int 0, .int 0, .int 0, .int 0])), (q_1, .inl (V.2 0, 1024, .inl ((fun _ => 0)))), (q_2, .inl (V.2 0, 1024, .inl ((fun _ => 0)))), (q_3, .inl (V.2 0, 1024, .inl ((fun _ => 0)))), (q_4, .inl (V.2 0, 6144, .inl ((fun _ => 0)))), (q_5, .inl (V.2 0, 6, .inl ((fun _ => 0)))), (q_6, .inl (V.2 1, 36, .inl ((fun _ => 0)))), (q_7, .inr (1, [.null, .null, .null, .null]))] [.ref (q_7), .ref (h0)] rfl rfl ?_
  refine ga_dup hR (pc := 60) rfl dX8_init_60 ?_
  refine ga_callIN hR (pc := 61) (As := []) (rest := [.ref (q_7), .ref (h0)]) (st0 := [.ref (q_7), .ref (q_7), .ref (h0)]) (b := (q_7)) (wr := [(h0, .inr (8, [.ref (q_1), .ref (q_2), .ref (q_3), .ref (q_4), .ref (q_5), .ref (q_6), .null, .int 0, .int 0, .int 0, .int 0])), (q_1, .inl (V.2 0, 1024, .inl ((fun _ => 0)))), (q_2, .inl (V.2 0, 1024, .inl ((fun _ => 0)))), (q_3, .inl (V.2 0, 1024, .inl ((fun _ => 0)))), (q_4, .inl (V.2 0, 6144, .inl ((fun _ => 0)))), (q_5, .inl (V.2 0, 6, .inl ((fun _ => 0)))), (q_6, .inl (V.2 1, 36, .inl ((fun _ => 0))))]) 0 (c_X1_init V (q_7)) ggX8_init_X1_init rfl rfl rfl hd_X1_initS ⟨Nat.le_of_ble_eq_true rfl, Nat.le_of_ble_eq_true rfl⟩ rfl rfl (Nat.le_of_ble_eq_true rfl) ⟨Nat.le_of_ble_eq_true rfl, Nat.le_of_ble_eq_true rfl⟩ [7] [0, 1, 2, 3, 4, 5, 6] rfl rfl (by decide) (by decide) (by decide) rfl (by decide +kernel) (by decide +kernel) (host := "BoundaryRules") (by decide +kernel) dX8_init_61 ?_
  rintro _ _ ⟨rfl, t_8, et_8, rfl⟩
  subst et_8
  refine ga_to [(h0, .inr (8, [.ref (q_1), .ref (q_2), .ref (q_3), .ref (q_4), .ref (q_5), .ref (q_6), .null, .int 0, .int 0, .int 0, .int 0])), (q_1, .inl (V.2 0, 1024, .inl ((fun _ => 0)))), (q_2, .inl (V.2 0, 1024, .inl ((fun _ => 0)))), (q_3, .inl (V.2 0, 1024, .inl ((fun _ => 0)))), (q_4, .inl (V.2 0, 6144, .inl ((fun _ => 0)))), (q_5, .inl (V.2 0, 6, .inl ((fun _ => 0)))), (q_6, .inl (V.2 1, 36, .inl ((fun _ => 0)))), (t_8 0, .inr (1, [.ref (t_8 1), .ref (t_8 2), .ref (t_8 3), .ref (t_8 4)])), (t_8 1, .inl (V.2 0, 1024, .inl ((fun _ => 0)))), (t_8 2, .inl (V.2 0, 1024, .inl ((fun _ => 0)))), (t_8 3, .inl (V.2 0, 2048, .inl ((fun _ => 0)))), (t_8 4, .inl (V.2 0, 1024, .inl ((fun _ => 0))))] [.ref (t_8 0), .ref (h0)] rfl rfl ?_
  refine ga_putF hR (pc := 64) (ws' := [(h0, .inr (8, [.ref (q_1), .ref (q_2), .ref (q_3), .ref (q_4), .ref (q_5), .ref (q_6), .ref (t_8 0), .int 0, .int 0, .int 0, .int 0])), (q_1, .inl (V.2 0, 1024, .inl ((fun _ => 0)))), (q_2, .inl (V.2 0, 1024, .inl ((fun _ => 0)))), (q_3, .inl (V.2 0, 1024, .inl ((fun _ => 0)))), (q_4, .inl (V.2 0, 6144, .inl ((fun _ => 0)))), (q_5, .inl (V.2 0, 6, .inl ((fun _ => 0)))), (q_6, .inl (V.2 1, 36, .inl ((fun _ => 0)))), (t_8 0, .inr (1, [.ref (t_8 1), .ref (t_8 2), .ref (t_8 3), .ref (t_8 4)])), (t_8 1, .inl (V.2 0, 1024, .inl ((fun _ => 0)))), (t_8 2, .inl (V.2 0, 1024, .inl ((fun _ => 0)))), (t_8 3, .inl (V.2 0, 2048, .inl ((fun _ => 0)))), (t_8 4, .inl (V.2 0, 1024, .inl ((fun _ => 0))))]) 0 rfl rfl hinX8 6 (by decide) f34 tyX8_ok nmX8 rfl rfl rfl rfl rfl (Nat.le_of_ble_eq_true rfl) rfl dX8_init_64 ?_
  exact ga_vret hE dX8_init_67 ⟨rfl, (fun k => [h0, q_1, q_2, q_3, q_4, q_5, q_6, t_8 0, t_8 1, t_8 2, t_8 3, t_8 4].getD k 0), rfl, rfl⟩
