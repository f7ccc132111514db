def rm_X10_farthest : Room := { frames := 6, cells := 0, slots := 0, locals := 144 }
theorem hd_X10_farthestS : yX10_farthest.cls ≠ "java/lang/invoke/MethodHandle" ∧ yX10_farthest.cls ≠ "java/lang/invoke/VarHandle" ∧ (parseMethodDescriptor yX10_farthest.desc).map (fun d => d.parameters.length) = some 0 := by decide +kernel
theorem hd_X10_farthest : yX10_farthest.cls = RX10 ∧ yX10_farthest.cls ≠ "java/lang/invoke/MethodHandle" ∧ yX10_farthest.cls ≠ "java/lang/invoke/VarHandle" ∧ (parseMethodDescriptor yX10_farthest.desc).map (fun d => d.parameters.length) = some 0 := ⟨rfl, hd_X10_farthestS⟩
set_option maxHeartbeats 4000000 in
set_option maxRecDepth 100000 in
theorem c_X10_farthest (V : ga_V) (a : Nat → Nat) (x_newRules : Int32) (x_newPlaces : Int32) (x_acts : Int32) (x_kept : Int32) (x_length : Int32) (x_next : Int32) (x_place : Int32) (x_isWrong : Int32) (x_parts : Int32) (x_rules : Int32) (x_places : Int32) (x_without : Int32) (x_ways : Int32) (x_rule : Nat → Int32) (x_takes : Nat → Int32) (x_behind : Nat → Int32) (x_slot : Nat → Int32) (x_way : Nat → Int32) (K : Int32 → Prop) (h : wp_X10_farthest x_rules x_places x_without x_ways x_rule x_takes x_behind x_slot x_way K) : ga_C V yX10_farthest wsX10_farthest rm_X10_farthest [.ref (a 0)] [(a 0, .inr (10, [.int x_rules, .int x_places, .ref (a 1), .ref (a 2), .ref (a 3), .int x_newRules, .int x_newPlaces, .ref (a 4), .ref (a 5), .ref (a 6), .ref (a 7), .ref (a 8), .int x_acts, .int x_kept, .int x_length, .ref (a 9), .int x_next, .int x_place, .int x_isWrong, .ref (a 10), .ref (a 11), .ref (a 12), .int x_parts, .int x_without, .ref (a 13), .ref (a 14), .ref (a 15), .ref (a 16), .int x_ways, .ref (a 17), .ref (a 18), .ref (a 19), .ref (a 20)])), (a 1, .inl (V.2 0, 12, .inl x_rule)), (a 2, .inl (V.2 0, 10, .inl x_takes)), (a 3, .inl (V.2 0, 10, .inl x_behind)), (a 8, .inl (V.2 0, 732, .inl x_slot)), (a 16, .inl (V.2 0, 1024, .inl x_way))] 0 0 (ga_Fi (fun (u : Unit) => [(a 0, .inr (10, [.int x_rules, .int x_places, .ref (a 1), .ref (a 2), .ref (a 3), .int x_newRules, .int x_newPlaces, .ref (a 4), .ref (a 5), .ref (a 6), .ref (a 7), .ref (a 8), .int x_acts, .int x_kept, .int x_length, .ref (a 9), .int x_next, .int x_place, .int x_isWrong, .ref (a 10), .ref (a 11), .ref (a 12), .int x_parts, .int x_without, .ref (a 13), .ref (a 14), .ref (a 15), .ref (a 16), .int x_ways, .ref (a 17), .ref (a 18), .ref (a 19), .ref (a 20)])), (a 1, .inl (V.2 0, 12, .inl x_rule)), (a 2, .inl (V.2 0, 10, .inl x_takes)), (a 3, .inl (V.2 0, 10, .inl x_behind)), (a 8, .inl (V.2 0, 732, .inl x_slot)), (a 16, .inl (V.2 0, 1024, .inl x_way))]) (fun r u => K r)) := by
  refine ga_met (cc := cX10_farthest) (maxL := 3) (rt := (some .int)) (by decide) rfl [(0, .ref (a 0))] rfl (Nat.le_of_ble_eq_true rfl) ?_
  intro G hR hE
  have hinX10 : ∀ w ∈ u_ws RX10 TX10 33, w ∈ wsX10_farthest := by decide +kernel
  have f31 : Cond.fieldLink RX10 31 "BoundaryRulesModel" "slot" "[I" ∈ wsX10_farthest := by decide +kernel
  unfold wp_X10_farthest at h
  refine ga_iconst hR (pc := 0) (v := nI 0) (by decide) dX10_farthest_0 ?_
  refine ga_istore_n hR (pc := 1) (lv' := [(1, .int (nI 0)), (0, .ref (a 0))]) rfl (by decide) rfl dX10_farthest_1 ?_
  refine ga_iconst hR (pc := 2) (v := nI 0) (by decide) dX10_farthest_2 ?_
  refine ga_istore_n hR (pc := 3) (lv' := [(2, .int (nI 0)), (1, .int (nI 0)), (0, .ref (a 0))]) rfl (by decide) rfl dX10_farthest_3 ?_
  have hJ := h (fun (v1_1 : Int32) => G 0 0 [(a 0, .inr (10, [.int x_rules, .int x_places, .ref (a 1), .ref (a 2), .ref (a 3), .int x_newRules, .int x_newPlaces, .ref (a 4), .ref (a 5), .ref (a 6), .ref (a 7), .ref (a 8), .int x_acts, .int x_kept, .int x_length, .ref (a 9), .int x_next, .int x_place, .int x_isWrong, .ref (a 10), .ref (a 11), .ref (a 12), .int x_parts, .int x_without, .ref (a 13), .ref (a 14), .ref (a 15), .ref (a 16), .int x_ways, .ref (a 17), .ref (a 18), .ref (a 19), .ref (a 20)])), (a 1, .inl (V.2 0, 12, .inl x_rule)), (a 2, .inl (V.2 0, 10, .inl x_takes)), (a 3, .inl (V.2 0, 10, .inl x_behind)), (a 8, .inl (V.2 0, 732, .inl x_slot)), (a 16, .inl (V.2 0, 1024, .inl x_way))] 33 [(1, .int v1_1)] [])
  refine ga_bind hJ ?_ ?_
  · intro v1_1 h
    show G 0 0 [(a 0, .inr (10, [.int x_rules, .int x_places, .ref (a 1), .ref (a 2), .ref (a 3), .int x_newRules, .int x_newPlaces, .ref (a 4), .ref (a 5), .ref (a 6), .ref (a 7), .ref (a 8), .int x_acts, .int x_kept, .int x_length, .ref (a 9), .int x_next, .int x_place, .int x_isWrong, .ref (a 10), .ref (a 11), .ref (a 12), .int x_parts, .int x_without, .ref (a 13), .ref (a 14), .ref (a 15), .ref (a 16), .int x_ways, .ref (a 17), .ref (a 18), .ref (a 19), .ref (a 20)])), (a 1, .inl (V.2 0, 12, .inl x_rule)), (a 2, .inl (V.2 0, 10, .inl x_takes)), (a 3, .inl (V.2 0, 10, .inl x_behind)), (a 8, .inl (V.2 0, 732, .inl x_slot)), (a 16, .inl (V.2 0, 1024, .inl x_way))] 33 [(1, .int v1_1)] []
    refine ga_iload_n hR (pc := 33) 0 rfl rfl dX10_farthest_33 ?_
    exact ga_iret hE dX10_farthest_34 rfl (ga_ri () rfl h)
  · intro h
    obtain ⟨n, h⟩ := h
    have L4 : ∀ (n : Nat) (v1_6 : Int32) (v2_7 : Int32), lp_X10_farthest_4 x_rules x_places x_without x_ways x_rule x_takes x_behind x_slot x_way (fun (v1_1 : Int32) => G 0 0 [(a 0, .inr (10, [.int x_rules, .int x_places, .ref (a 1), .ref (a 2), .ref (a 3), .int x_newRules, .int x_newPlaces, .ref (a 4), .ref (a 5), .ref (a 6), .ref (a 7), .ref (a 8), .int x_acts, .int x_kept, .int x_length, .ref (a 9), .int x_next, .int x_place, .int x_isWrong, .ref (a 10), .ref (a 11), .ref (a 12), .int x_parts, .int x_without, .ref (a 13), .ref (a 14), .ref (a 15), .ref (a 16), .int x_ways, .ref (a 17), .ref (a 18), .ref (a 19), .ref (a 20)])), (a 1, .inl (V.2 0, 12, .inl x_rule)), (a 2, .inl (V.2 0, 10, .inl x_takes)), (a 3, .inl (V.2 0, 10, .inl x_behind)), (a 8, .inl (V.2 0, 732, .inl x_slot)), (a 16, .inl (V.2 0, 1024, .inl x_way))] 33 [(1, .int v1_1)] []) n v1_6 v2_7 → G 0 0 [(a 0, .inr (10, [.int x_rules, .int x_places, .ref (a 1), .ref (a 2), .ref (a 3), .int x_newRules, .int x_newPlaces, .ref (a 4), .ref (a 5), .ref (a 6), .ref (a 7), .ref (a 8), .int x_acts, .int x_kept, .int x_length, .ref (a 9), .int x_next, .int x_place, .int x_isWrong, .ref (a 10), .ref (a 11), .ref (a 12), .int x_parts, .int x_without, .ref (a 13), .ref (a 14), .ref (a 15), .ref (a 16), .int x_ways, .ref (a 17), .ref (a 18), .ref (a 19), .ref (a 20)])), (a 1, .inl (V.2 0, 12, .inl x_rule)), (a 2, .inl (V.2 0, 10, .inl x_takes)), (a 3, .inl (V.2 0, 10, .inl x_behind)), (a 8, .inl (V.2 0, 732, .inl x_slot)), (a 16, .inl (V.2 0, 1024, .inl x_way))] 4 [(0, .ref (a 0)), (1, .int v1_6), (2, .int v2_7)] [] := by
      intro n
      induction n with
      | zero => exact fun _ _ h => False.elim h
      | succ n ih =>
        intro v1_6 v2_7 h
        rw [lp_X10_farthest_4] at h
        refine ga_iload_n hR (pc := 4) 2 rfl rfl dX10_farthest_4 ?_
        refine ga_aload_n hR (pc := 5) 0 rfl rfl dX10_farthest_5 ?_
        refine ga_get hR (pc := 6) 0 rfl rfl hinX10 11 (by decide) f31 rfl dX10_farthest_6 ?_
        refine ga_bipush hR (pc := 9) (v := nI 30) (by decide) dX10_farthest_9 ?_
        refine ga_iald hR (pc := 11) 4 rfl h.1 dX10_farthest_11 ?_
        replace h := h.2
        refine ga_icmp_gt hR (pc := 12) 33 (by decide) dX10_farthest_12 (fun c12 => ?_) (fun c12 => ?_)
        · replace h := h.1 c12
          exact ga_lv hR [1] rfl h
        · replace h := h.2 c12
          refine ga_iload_n hR (pc := 15) 1 rfl rfl dX10_farthest_15 ?_
          refine ga_iload_n hR (pc := 16) 2 rfl rfl dX10_farthest_16 ?_
          refine ga_aload_n hR (pc := 17) 0 rfl rfl dX10_farthest_17 ?_
          refine ga_iload_n hR (pc := 18) 2 rfl rfl dX10_farthest_18 ?_
          refine ga_callV hR (pc := 19) (As := [.int v2_7]) (rest := [.int v2_7, .int v1_6]) (st0 := [.int v2_7, .ref (a 0), .int v2_7, .int v1_6]) (b := (a 0)) 1 (c_X10_backFrom V a x_newRules x_newPlaces x_acts x_kept x_length x_next x_place x_isWrong x_parts x_rules x_places x_without x_ways x_rule x_takes x_behind x_slot x_way v2_7 _ h) (ga_same_i fun _ => rfl) gX10_farthest_X10_backFrom rfl rfl rfl hd_X10_backFrom ⟨Nat.le_of_ble_eq_true rfl, Nat.le_of_ble_eq_true rfl⟩ rfl rfl (Nat.le_of_ble_eq_true rfl) ⟨Nat.zero_le _, Nat.zero_le _⟩ [0, 1, 2, 3, 4, 5] rfl rfl 0 rfl rfl dX10_farthest_19 ?_
          rintro _ _ ⟨r_8, ⟨⟩, rfl, rfl, h⟩
          refine ga_to [(a 0, .inr (10, [.int x_rules, .int x_places, .ref (a 1), .ref (a 2), .ref (a 3), .int x_newRules, .int x_newPlaces, .ref (a 4), .ref (a 5), .ref (a 6), .ref (a 7), .ref (a 8), .int x_acts, .int x_kept, .int x_length, .ref (a 9), .int x_next, .int x_place, .int x_isWrong, .ref (a 10), .ref (a 11), .ref (a 12), .int x_parts, .int x_without, .ref (a 13), .ref (a 14), .ref (a 15), .ref (a 16), .int x_ways, .ref (a 17), .ref (a 18), .ref (a 19), .ref (a 20)])), (a 1, .inl (V.2 0, 12, .inl x_rule)), (a 2, .inl (V.2 0, 10, .inl x_takes)), (a 3, .inl (V.2 0, 10, .inl x_behind)), (a 8, .inl (V.2 0, 732, .inl x_slot)), (a 16, .inl (V.2 0, 1024, .inl x_way))] [.int r_8, .int v2_7, .int v1_6] rfl rfl ?_
          try dsimp only at h
          refine ga_isub hR (pc := 22) dX10_farthest_22 ?_
          refine ga_callS hR (pc := 23) (As := [.int v1_6, .int (v2_7 - r_8)]) (rest := []) (st0 := [.int (v2_7 - r_8), .int v1_6]) 2 (c_X10_larger V v1_6 (v2_7 - r_8) _ h) (ga_same_i fun _ => rfl) gX10_farthest_X10_larger rfl rfl rfl hd_X10_largerS ⟨Nat.le_of_ble_eq_true rfl, Nat.le_of_ble_eq_true rfl⟩ rfl rfl (Nat.le_of_ble_eq_true rfl) ⟨Nat.zero_le _, Nat.zero_le _⟩ [] rfl rfl dX10_farthest_23 ?_
          rintro _ _ ⟨r_9, ⟨⟩, rfl, rfl, h⟩
          refine ga_to [(a 0, .inr (10, [.int x_rules, .int x_places, .ref (a 1), .ref (a 2), .ref (a 3), .int x_newRules, .int x_newPlaces, .ref (a 4), .ref (a 5), .ref (a 6), .ref (a 7), .ref (a 8), .int x_acts, .int x_kept, .int x_length, .ref (a 9), .int x_next, .int x_place, .int x_isWrong, .ref (a 10), .ref (a 11), .ref (a 12), .int x_parts, .int x_without, .ref (a 13), .ref (a 14), .ref (a 15), .ref (a 16), .int x_ways, .ref (a 17), .ref (a 18), .ref (a 19), .ref (a 20)])), (a 1, .inl (V.2 0, 12, .inl x_rule)), (a 2, .inl (V.2 0, 10, .inl x_takes)), (a 3, .inl (V.2 0, 10, .inl x_behind)), (a 8, .inl (V.2 0, 732, .inl x_slot)), (a 16, .inl (V.2 0, 1024, .inl x_way))] [.int r_9] rfl rfl ?_
          try dsimp only at h
          refine ga_istore_n hR (pc := 26) (lv' := [(1, .int r_9), (0, .ref (a 0)), (2, .int v2_7)]) rfl (by decide) rfl dX10_farthest_26 ?_
          obtain ⟨v2_10, ev2_10⟩ : ∃ v : Int32, v = v2_7 + (nI 1) := ⟨_, rfl⟩
          replace h := h v2_10 ev2_10
          refine ga_iinc hR (pc := 27) (lv' := [(2, .int v2_10), (1, .int r_9), (0, .ref (a 0))]) 2 (by decide) rfl ev2_10 (by decide) rfl dX10_farthest_27 ?_
          refine ga_goto hR (pc := 30) 4 (by decide) dX10_farthest_30 ?_
          exact ga_lv hR [2, 1, 0] rfl (ih _ _ h)
    exact ga_lv hR [2, 1, 0] rfl (L4 n _ _ h)

def rm_X10_machine : Room := { frames := 7, cells := 0, slots := 0, locals := 166 }
theorem hd_X10_machineS : yX10_machine.cls ≠ "java/lang/invoke/MethodHandle" ∧ yX10_machine.cls ≠ "java/lang/invoke/VarHandle" ∧ (parseMethodDescriptor yX10_machine.desc).map (fun d => d.parameters.length) = some 1 := by decide +kernel
theorem hd_X10_machine : yX10_machine.cls = RX10 ∧ yX10_machine.cls ≠ "java/lang/invoke/MethodHandle" ∧ yX10_machine.cls ≠ "java/lang/invoke/VarHandle" ∧ (parseMethodDescriptor yX10_machine.desc).map (fun d => d.parameters.length) = some 1 := ⟨rfl, hd_X10_machineS⟩
set_option maxHeartbeats 4000000 in
set_option maxRecDepth 100000 in
theorem c_X10_machine (V : ga_V) (a : Nat → Nat) (x_newRules : Int32) (x_newPlaces : Int32) (x_acts : Int32) (x_kept : Int32) (x_length : Int32) (x_next : Int32) (x_place : Int32) (x_isWrong : Int32) (x_parts : Int32) (x_rules : Int32) (x_places : Int32) (x_without : Int32) (x_ways : Int32) (x_rule : Nat → Int32) (x_takes : Nat → Int32) (x_behind : Nat → Int32) (x_slot : Nat → Int32) (x_way : Nat → Int32) (x_at : Nat → Int32) (x_alike : Nat → Int32) (x_finer : Nat → Int32) (x_on : Nat → Int32) (p1 : Int32) (K : Int32 → Int32 → (Nat → Int32) → (Nat → Int32) → (Nat → Int32) → (Nat → Int32) → (Nat → Int32) → Prop) (h : wp_X10_machine x_rules x_places x_without x_ways x_rule x_takes x_behind x_slot x_way x_at x_alike x_finer x_on p1 K) : ga_C V yX10_machine wsX10_machine rm_X10_machine [.ref (a 0), .int p1] [(a 0, .inr (10, [.int x_rules, .int x_places, .ref (a 1), .ref (a 2), .ref (a 3), .int x_newRules, .int x_newPlaces, .ref (a 4), .ref (a 5), .ref (a 6), .ref (a 7), .ref (a 8), .int x_acts, .int x_kept, .int x_length, .ref (a 9), .int x_next, .int x_place, .int x_isWrong, .ref (a 10), .ref (a 11), .ref (a 12), .int x_parts, .int x_without, .ref (a 13), .ref (a 14), .ref (a 15), .ref (a 16), .int x_ways, .ref (a 17), .ref (a 18), .ref (a 19), .ref (a 20)])), (a 1, .inl (V.2 0, 12, .inl x_rule)), (a 2, .inl (V.2 0, 10, .inl x_takes)), (a 3, .inl (V.2 0, 10, .inl x_behind)), (a 8, .inl (V.2 0, 732, .inl x_slot)), (a 16, .inl (V.2 0, 1024, .inl x_way)), (a 17, .inl (V.2 0, 1024, .inl x_at)), (a 18, .inl (V.2 0, 1024, .inl x_alike)), (a 19, .inl (V.2 0, 1024, .inl x_finer)), (a 20, .inl (V.2 0, 6144, .inl x_on))] 0 0 (ga_Fi (fun (u : Int32 × (Nat → Int32) × (Nat → Int32) × (Nat → Int32) × (Nat → Int32) × (Nat → Int32)) => [(a 0, .inr (10, [.int x_rules, .int x_places, .ref (a 1), .ref (a 2), .ref (a 3), .int x_newRules, .int x_newPlaces, .ref (a 4), .ref (a 5), .ref (a 6), .ref (a 7), .ref (a 8), .int x_acts, .int x_kept, .int x_length, .ref (a 9), .int x_next, .int x_place, .int x_isWrong, .ref (a 10), .ref (a 11), .ref (a 12), .int x_parts, .int x_without, .ref (a 13), .ref (a 14), .ref (a 15), .ref (a 16), .int u.1, .ref (a 17), .ref (a 18), .ref (a 19), .ref (a 20)])), (a 1, .inl (V.2 0, 12, .inl x_rule)), (a 2, .inl (V.2 0, 10, .inl x_takes)), (a 3, .inl (V.2 0, 10, .inl x_behind)), (a 8, .inl (V.2 0, 732, .inl x_slot)), (a 16, .inl (V.2 0, 1024, .inl u.2.1)), (a 17, .inl (V.2 0, 1024, .inl u.2.2.1)), (a 18, .inl (V.2 0, 1024, .inl u.2.2.2.1)), (a 19, .inl (V.2 0, 1024, .inl u.2.2.2.2.1)), (a 20, .inl (V.2 0, 6144, .inl u.2.2.2.2.2))]) (fun r u => K r u.1 u.2.1 u.2.2.1 u.2.2.2.1 u.2.2.2.2.1 u.2.2.2.2.2)) := by
  refine ga_met (cc := cX10_machine) (maxL := 2) (rt := (some .int)) (by decide) rfl [(0, .ref (a 0)), (1, .int p1)] rfl (Nat.le_of_ble_eq_true rfl) ?_
  intro G hR hE
  have hinX10 : ∀ w ∈ u_ws RX10 TX10 33, w ∈ wsX10_machine := by decide +kernel
  have f251 : Cond.fieldLink RX10 251 "BoundaryRulesModel" "ways" "I" ∈ wsX10_machine := by decide +kernel
  unfold wp_X10_machine at h
  refine ga_iload_n hR (pc := 0) 1 rfl rfl dX10_machine_0 ?_
  refine ga_i2l hR (pc := 1) dX10_machine_1 ?_
  refine ga_lconst hR (pc := 2) (v := lN 0) (by decide) dX10_machine_2 ?_
  refine ga_ldc2 hR (pc := 3) (v := lN 4) (by decide +kernel) dX10_machine_3 ?_
  refine ga_callS hR (pc := 6) (As := [.long p1.toInt64, .long (lN 0), .long (lN 4)]) (rest := []) (st0 := [.long (lN 4), .long (lN 0), .long p1.toInt64]) 3 (c_X10_in V p1.toInt64 (lN 0) (lN 4) _ h) (ga_same_i fun _ => rfl) gX10_machine_X10_in rfl rfl rfl hd_X10_inS ⟨Nat.le_of_ble_eq_true rfl, Nat.le_of_ble_eq_true rfl⟩ rfl rfl (Nat.le_of_ble_eq_true rfl) ⟨Nat.zero_le _, Nat.zero_le _⟩ [] rfl rfl dX10_machine_6 ?_
  rintro _ _ ⟨r_1, ⟨⟩, rfl, rfl, h⟩
  refine ga_to [(a 0, .inr (10, [.int x_rules, .int x_places, .ref (a 1), .ref (a 2), .ref (a 3), .int x_newRules, .int x_newPlaces, .ref (a 4), .ref (a 5), .ref (a 6), .ref (a 7), .ref (a 8), .int x_acts, .int x_kept, .int x_length, .ref (a 9), .int x_next, .int x_place, .int x_isWrong, .ref (a 10), .ref (a 11), .ref (a 12), .int x_parts, .int x_without, .ref (a 13), .ref (a 14), .ref (a 15), .ref (a 16), .int x_ways, .ref (a 17), .ref (a 18), .ref (a 19), .ref (a 20)])), (a 1, .inl (V.2 0, 12, .inl x_rule)), (a 2, .inl (V.2 0, 10, .inl x_takes)), (a 3, .inl (V.2 0, 10, .inl x_behind)), (a 8, .inl (V.2 0, 732, .inl x_slot)), (a 16, .inl (V.2 0, 1024, .inl x_way)), (a 17, .inl (V.2 0, 1024, .inl x_at)), (a 18, .inl (V.2 0, 1024, .inl x_alike)), (a 19, .inl (V.2 0, 1024, .inl x_finer)), (a 20, .inl (V.2 0, 6144, .inl x_on))] [.int r_1] rfl rfl ?_
  try dsimp only at h
  refine ga_if_ne hR (pc := 9) 14 (by decide) dX10_machine_9 (fun c9 => ?_) (fun c9 => ?_)
  · replace h := h.1 c9
    refine ga_aload_n hR (pc := 14) 0 rfl rfl dX10_machine_14 ?_
    refine ga_callV hR (pc := 15) (As := []) (rest := []) (st0 := [.ref (a 0)]) (b := (a 0)) 0 (c_X10_allWays V a x_newRules x_newPlaces x_acts x_kept x_length x_next x_place x_isWrong x_parts x_rules x_places x_without x_ways x_rule x_takes x_behind x_slot x_way x_at x_on _ h) (ga_same_v fun _ => rfl) gX10_machine_X10_allWays rfl rfl rfl hd_X10_allWays ⟨Nat.le_of_ble_eq_true rfl, Nat.le_of_ble_eq_true rfl⟩ rfl rfl (Nat.le_of_ble_eq_true rfl) ⟨Nat.zero_le _, Nat.zero_le _⟩ [0, 1, 2, 3, 4, 5, 6, 9] rfl rfl 0 rfl rfl dX10_machine_15 ?_
    rintro _ _ ⟨⟨x_ways_2, x_way_3, x_at_4, x_on_5⟩, rfl, rfl, h⟩
    refine ga_to [(a 0, .inr (10, [.int x_rules, .int x_places, .ref (a 1), .ref (a 2), .ref (a 3), .int x_newRules, .int x_newPlaces, .ref (a 4), .ref (a 5), .ref (a 6), .ref (a 7), .ref (a 8), .int x_acts, .int x_kept, .int x_length, .ref (a 9), .int x_next, .int x_place, .int x_isWrong, .ref (a 10), .ref (a 11), .ref (a 12), .int x_parts, .int x_without, .ref (a 13), .ref (a 14), .ref (a 15), .ref (a 16), .int x_ways_2, .ref (a 17), .ref (a 18), .ref (a 19), .ref (a 20)])), (a 1, .inl (V.2 0, 12, .inl x_rule)), (a 2, .inl (V.2 0, 10, .inl x_takes)), (a 3, .inl (V.2 0, 10, .inl x_behind)), (a 8, .inl (V.2 0, 732, .inl x_slot)), (a 16, .inl (V.2 0, 1024, .inl x_way_3)), (a 17, .inl (V.2 0, 1024, .inl x_at_4)), (a 18, .inl (V.2 0, 1024, .inl x_alike)), (a 19, .inl (V.2 0, 1024, .inl x_finer)), (a 20, .inl (V.2 0, 6144, .inl x_on_5))] [] rfl rfl ?_
    try dsimp only at h
    refine ga_iload_n hR (pc := 18) 1 rfl rfl dX10_machine_18 ?_
    refine ga_if_ne hR (pc := 19) 29 (by decide) dX10_machine_19 (fun c19 => ?_) (fun c19 => ?_)
    · replace h := h.1 c19
      refine ga_iload_n hR (pc := 29) 1 rfl rfl dX10_machine_29 ?_
      refine ga_iconst hR (pc := 30) (v := nI 1) (by decide) dX10_machine_30 ?_
      refine ga_icmp_ne hR (pc := 31) 41 (by decide) dX10_machine_31 (fun c31 => ?_) (fun c31 => ?_)
      · replace h := h.1 c31
        refine ga_iload_n hR (pc := 41) 1 rfl rfl dX10_machine_41 ?_
        refine ga_iconst hR (pc := 42) (v := nI 2) (by decide) dX10_machine_42 ?_
        refine ga_icmp_ne hR (pc := 43) 53 (by decide) dX10_machine_43 (fun c43 => ?_) (fun c43 => ?_)
        · replace h := h.1 c43
          refine ga_iload_n hR (pc := 53) 1 rfl rfl dX10_machine_53 ?_
          refine ga_iconst hR (pc := 54) (v := nI 3) (by decide) dX10_machine_54 ?_
          refine ga_icmp_ne hR (pc := 55) 65 (by decide) dX10_machine_55 (fun c55 => ?_) (fun c55 => ?_)
          · replace h := h.1 c55
            refine ga_aload_n hR (pc := 65) 0 rfl rfl dX10_machine_65 ?_
            refine ga_callV hR (pc := 66) (As := []) (rest := []) (st0 := [.ref (a 0)]) (b := (a 0)) 0 (c_X10_farthest V a x_newRules x_newPlaces x_acts x_kept x_length x_next x_place x_isWrong x_parts x_rules x_places x_without x_ways_2 x_rule x_takes x_behind x_slot x_way_3 _ h) (ga_same_i fun _ => rfl) gX10_machine_X10_farthest rfl rfl rfl hd_X10_farthest ⟨Nat.le_of_ble_eq_true rfl, Nat.le_of_ble_eq_true rfl⟩ rfl rfl (Nat.le_of_ble_eq_true rfl) ⟨Nat.zero_le _, Nat.zero_le _⟩ [0, 1, 2, 3, 4, 5] rfl rfl 0 rfl rfl dX10_machine_66 ?_
            rintro _ _ ⟨r_6, ⟨⟩, rfl, rfl, h⟩
            refine ga_to [(a 0, .inr (10, [.int x_rules, .int x_places, .ref (a 1), .ref (a 2), .ref (a 3), .int x_newRules, .int x_newPlaces, .ref (a 4), .ref (a 5), .ref (a 6), .ref (a 7), .ref (a 8), .int x_acts, .int x_kept, .int x_length, .ref (a 9), .int x_next, .int x_place, .int x_isWrong, .ref (a 10), .ref (a 11), .ref (a 12), .int x_parts, .int x_without, .ref (a 13), .ref (a 14), .ref (a 15), .ref (a 16), .int x_ways_2, .ref (a 17), .ref (a 18), .ref (a 19), .ref (a 20)])), (a 1, .inl (V.2 0, 12, .inl x_rule)), (a 2, .inl (V.2 0, 10, .inl x_takes)), (a 3, .inl (V.2 0, 10, .inl x_behind)), (a 8, .inl (V.2 0, 732, .inl x_slot)), (a 16, .inl (V.2 0, 1024, .inl x_way_3)), (a 17, .inl (V.2 0, 1024, .inl x_at_4)), (a 18, .inl (V.2 0, 1024, .inl x_alike)), (a 19, .inl (V.2 0, 1024, .inl x_finer)), (a 20, .inl (V.2 0, 6144, .inl x_on_5))] [.int r_6] rfl rfl ?_
            try dsimp only at h
            exact ga_iret hE dX10_machine_69 rfl (ga_ri (x_ways_2, x_way_3, x_at_4, x_alike, x_finer, x_on_5) rfl h)
          · replace h := h.2 c55
            refine ga_aload_n hR (pc := 58) 0 rfl rfl dX10_machine_58 ?_
            refine ga_callV hR (pc := 59) (As := []) (rest := []) (st0 := [.ref (a 0)]) (b := (a 0)) 0 (c_X10_fours V a x_rules x_places x_newRules x_newPlaces x_acts x_kept x_length x_next x_place x_isWrong x_parts x_without x_ways_2 x_slot _ h) (ga_same_i fun _ => rfl) gX10_machine_X10_fours rfl rfl rfl hd_X10_fours ⟨Nat.le_of_ble_eq_true rfl, Nat.le_of_ble_eq_true rfl⟩ rfl rfl (Nat.le_of_ble_eq_true rfl) ⟨Nat.zero_le _, Nat.zero_le _⟩ [0, 4] rfl rfl 0 rfl rfl dX10_machine_59 ?_
            rintro _ _ ⟨r_7, ⟨⟩, rfl, rfl, h⟩
            refine ga_to [(a 0, .inr (10, [.int x_rules, .int x_places, .ref (a 1), .ref (a 2), .ref (a 3), .int x_newRules, .int x_newPlaces, .ref (a 4), .ref (a 5), .ref (a 6), .ref (a 7), .ref (a 8), .int x_acts, .int x_kept, .int x_length, .ref (a 9), .int x_next, .int x_place, .int x_isWrong, .ref (a 10), .ref (a 11), .ref (a 12), .int x_parts, .int x_without, .ref (a 13), .ref (a 14), .ref (a 15), .ref (a 16), .int x_ways_2, .ref (a 17), .ref (a 18), .ref (a 19), .ref (a 20)])), (a 1, .inl (V.2 0, 12, .inl x_rule)), (a 2, .inl (V.2 0, 10, .inl x_takes)), (a 3, .inl (V.2 0, 10, .inl x_behind)), (a 8, .inl (V.2 0, 732, .inl x_slot)), (a 16, .inl (V.2 0, 1024, .inl x_way_3)), (a 17, .inl (V.2 0, 1024, .inl x_at_4)), (a 18, .inl (V.2 0, 1024, .inl x_alike)), (a 19, .inl (V.2 0, 1024, .inl x_finer)), (a 20, .inl (V.2 0, 6144, .inl x_on_5))] [.int r_7] rfl rfl ?_
            try dsimp only at h
            refine ga_goto hR (pc := 62) 69 (by decide) dX10_machine_62 ?_
            exact ga_iret hE dX10_machine_69 rfl (ga_ri (x_ways_2, x_way_3, x_at_4, x_alike, x_finer, x_on_5) rfl h)
        · replace h := h.2 c43
          refine ga_aload_n hR (pc := 46) 0 rfl rfl dX10_machine_46 ?_
          refine ga_callV hR (pc := 47) (As := []) (rest := []) (st0 := [.ref (a 0)]) (b := (a 0)) 0 (c_X10_knownPairs V a x_newRules x_newPlaces x_acts x_kept x_length x_next x_place x_isWrong x_parts x_rules x_places x_without x_ways_2 x_rule x_takes x_behind x_slot x_way_3 _ h) (ga_same_i fun _ => rfl) gX10_machine_X10_knownPairs rfl rfl rfl hd_X10_knownPairs ⟨Nat.le_of_ble_eq_true rfl, Nat.le_of_ble_eq_true rfl⟩ rfl rfl (Nat.le_of_ble_eq_true rfl) ⟨Nat.zero_le _, Nat.zero_le _⟩ [0, 1, 2, 3, 4, 5] rfl rfl 0 rfl rfl dX10_machine_47 ?_
          rintro _ _ ⟨r_8, ⟨⟩, rfl, rfl, h⟩
          refine ga_to [(a 0, .inr (10, [.int x_rules, .int x_places, .ref (a 1), .ref (a 2), .ref (a 3), .int x_newRules, .int x_newPlaces, .ref (a 4), .ref (a 5), .ref (a 6), .ref (a 7), .ref (a 8), .int x_acts, .int x_kept, .int x_length, .ref (a 9), .int x_next, .int x_place, .int x_isWrong, .ref (a 10), .ref (a 11), .ref (a 12), .int x_parts, .int x_without, .ref (a 13), .ref (a 14), .ref (a 15), .ref (a 16), .int x_ways_2, .ref (a 17), .ref (a 18), .ref (a 19), .ref (a 20)])), (a 1, .inl (V.2 0, 12, .inl x_rule)), (a 2, .inl (V.2 0, 10, .inl x_takes)), (a 3, .inl (V.2 0, 10, .inl x_behind)), (a 8, .inl (V.2 0, 732, .inl x_slot)), (a 16, .inl (V.2 0, 1024, .inl x_way_3)), (a 17, .inl (V.2 0, 1024, .inl x_at_4)), (a 18, .inl (V.2 0, 1024, .inl x_alike)), (a 19, .inl (V.2 0, 1024, .inl x_finer)), (a 20, .inl (V.2 0, 6144, .inl x_on_5))] [.int r_8] rfl rfl ?_
          try dsimp only at h
          refine ga_goto hR (pc := 50) 69 (by decide) dX10_machine_50 ?_
          exact ga_iret hE dX10_machine_69 rfl (ga_ri (x_ways_2, x_way_3, x_at_4, x_alike, x_finer, x_on_5) rfl h)
      · replace h := h.2 c31
        refine ga_aload_n hR (pc := 34) 0 rfl rfl dX10_machine_34 ?_
        refine ga_callV hR (pc := 35) (As := []) (rest := []) (st0 := [.ref (a 0)]) (b := (a 0)) 0 (c_X10_unlikeWays V a x_rules x_places x_newRules x_newPlaces x_acts x_kept x_length x_next x_place x_isWrong x_parts x_without x_ways_2 x_alike x_finer x_on_5 _ h) (ga_same_i fun _ => rfl) gX10_machine_X10_unlikeWays rfl rfl rfl hd_X10_unlikeWays ⟨Nat.le_of_ble_eq_true rfl, Nat.le_of_ble_eq_true rfl⟩ rfl rfl (Nat.le_of_ble_eq_true rfl) ⟨Nat.zero_le _, Nat.zero_le _⟩ [0, 7, 8, 9] rfl rfl 0 rfl rfl dX10_machine_35 ?_
        rintro _ _ ⟨r_11, ⟨x_alike_9, x_finer_10⟩, rfl, rfl, h⟩
        refine ga_to [(a 0, .inr (10, [.int x_rules, .int x_places, .ref (a 1), .ref (a 2), .ref (a 3), .int x_newRules, .int x_newPlaces, .ref (a 4), .ref (a 5), .ref (a 6), .ref (a 7), .ref (a 8), .int x_acts, .int x_kept, .int x_length, .ref (a 9), .int x_next, .int x_place, .int x_isWrong, .ref (a 10), .ref (a 11), .ref (a 12), .int x_parts, .int x_without, .ref (a 13), .ref (a 14), .ref (a 15), .ref (a 16), .int x_ways_2, .ref (a 17), .ref (a 18), .ref (a 19), .ref (a 20)])), (a 1, .inl (V.2 0, 12, .inl x_rule)), (a 2, .inl (V.2 0, 10, .inl x_takes)), (a 3, .inl (V.2 0, 10, .inl x_behind)), (a 8, .inl (V.2 0, 732, .inl x_slot)), (a 16, .inl (V.2 0, 1024, .inl x_way_3)), (a 17, .inl (V.2 0, 1024, .inl x_at_4)), (a 18, .inl (V.2 0, 1024, .inl x_alike_9)), (a 19, .inl (V.2 0, 1024, .inl x_finer_10)), (a 20, .inl (V.2 0, 6144, .inl x_on_5))] [.int r_11] rfl rfl ?_
        try dsimp only at h
        refine ga_goto hR (pc := 38) 69 (by decide) dX10_machine_38 ?_
        exact ga_iret hE dX10_machine_69 rfl (ga_ri (x_ways_2, x_way_3, x_at_4, x_alike_9, x_finer_10, x_on_5) rfl h)
    · replace h := h.2 c19
      refine ga_aload_n hR (pc := 22) 0 rfl rfl dX10_machine_22 ?_
      refine ga_get hR (pc := 23) 0 rfl rfl hinX10 28 (by decide) f251 rfl dX10_machine_23 ?_
      refine ga_goto hR (pc := 26) 69 (by decide) dX10_machine_26 ?_
      exact ga_iret hE dX10_machine_69 rfl (ga_ri (x_ways_2, x_way_3, x_at_4, x_alike, x_finer, x_on_5) rfl h)
  · replace h := h.2 c9
    refine ga_iconst hR (pc := 12) (v := -1) (by decide) dX10_machine_12 ?_
    exact ga_iret hE dX10_machine_13 rfl (ga_ri (x_ways, x_way, x_at, x_alike, x_finer, x_on) rfl h)

def rm_X10_alike : Room := { frames := 4, cells := 0, slots := 0, locals := 97 }
theorem hd_X10_alikeS : yX10_alike.cls ≠ "java/lang/invoke/MethodHandle" ∧ yX10_alike.cls ≠ "java/lang/invoke/VarHandle" ∧ (parseMethodDescriptor yX10_alike.desc).map (fun d => d.parameters.length) = some 2 := by decide +kernel
theorem hd_X10_alike : yX10_alike.cls = RX10 ∧ yX10_alike.cls ≠ "java/lang/invoke/MethodHandle" ∧ yX10_alike.cls ≠ "java/lang/invoke/VarHandle" ∧ (parseMethodDescriptor yX10_alike.desc).map (fun d => d.parameters.length) = some 2 := ⟨rfl, hd_X10_alikeS⟩
set_option maxHeartbeats 4000000 in
set_option maxRecDepth 100000 in
theorem c_X10_alike (V : ga_V) (a : Nat → Nat) (x_newRules : Int32) (x_newPlaces : Int32) (x_acts : Int32) (x_kept : Int32) (x_length : Int32) (x_next : Int32) (x_place : Int32) (x_isWrong : Int32) (x_parts : Int32) (x_rules : Int32) (x_places : Int32) (x_without : Int32) (x_ways : Int32) (x_rule : Nat → Int32) (x_takes : Nat → Int32) (x_behind : Nat → Int32) (x_slot : Nat → Int32) (x_way : Nat → Int32) (x_at : Nat → Int32) (x_on : Nat → Int32) (p1 : Int32) (p2 : Int32) (K : Int32 → Int32 → (Nat → Int32) → (Nat → Int32) → (Nat → Int32) → Prop) (h : wp_X10_alike x_rules x_places x_without x_ways x_rule x_takes x_behind x_slot x_way x_at x_on p1 p2 K) : ga_C V yX10_alike wsX10_alike rm_X10_alike [.ref (a 0), .int p1, .int p2] [(a 0, .inr (10, [.int x_rules, .int x_places, .ref (a 1), .ref (a 2), .ref (a 3), .int x_newRules, .int x_newPlaces, .ref (a 4), .ref (a 5), .ref (a 6), .ref (a 7), .ref (a 8), .int x_acts, .int x_kept, .int x_length, .ref (a 9), .int x_next, .int x_place, .int x_isWrong, .ref (a 10), .ref (a 11), .ref (a 12), .int x_parts, .int x_without, .ref (a 13), .ref (a 14), .ref (a 15), .ref (a 16), .int x_ways, .ref (a 17), .ref (a 18), .ref (a 19), .ref (a 20)])), (a 1, .inl (V.2 0, 12, .inl x_rule)), (a 2, .inl (V.2 0, 10, .inl x_takes)), (a 3, .inl (V.2 0, 10, .inl x_behind)), (a 8, .inl (V.2 0, 732, .inl x_slot)), (a 16, .inl (V.2 0, 1024, .inl x_way)), (a 17, .inl (V.2 0, 1024, .inl x_at)), (a 20, .inl (V.2 0, 6144, .inl x_on))] 0 0 (ga_Fi (fun (u : Int32 × (Nat → Int32) × (Nat → Int32) × (Nat → Int32)) => [(a 0, .inr (10, [.int x_rules, .int x_places, .ref (a 1), .ref (a 2), .ref (a 3), .int x_newRules, .int x_newPlaces, .ref (a 4), .ref (a 5), .ref (a 6), .ref (a 7), .ref (a 8), .int x_acts, .int x_kept, .int x_length, .ref (a 9), .int x_next, .int x_place, .int x_isWrong, .ref (a 10), .ref (a 11), .ref (a 12), .int x_parts, .int x_without, .ref (a 13), .ref (a 14), .ref (a 15), .ref (a 16), .int u.1, .ref (a 17), .ref (a 18), .ref (a 19), .ref (a 20)])), (a 1, .inl (V.2 0, 12, .inl x_rule)), (a 2, .inl (V.2 0, 10, .inl x_takes)), (a 3, .inl (V.2 0, 10, .inl x_behind)), (a 8, .inl (V.2 0, 732, .inl x_slot)), (a 16, .inl (V.2 0, 1024, .inl u.2.1)), (a 17, .inl (V.2 0, 1024, .inl u.2.2.1)), (a 20, .inl (V.2 0, 6144, .inl u.2.2.2))]) (fun r u => K r u.1 u.2.1 u.2.2.1 u.2.2.2)) := by
  refine ga_met (cc := cX10_alike) (maxL := 5) (rt := (some .int)) (by decide) rfl [(0, .ref (a 0)), (1, .int p1), (2, .int p2)] rfl (Nat.le_of_ble_eq_true rfl) ?_
  intro G hR hE
  have hinX10 : ∀ w ∈ u_ws RX10 TX10 33, w ∈ wsX10_alike := by decide +kernel
  have f251 : Cond.fieldLink RX10 251 "BoundaryRulesModel" "ways" "I" ∈ wsX10_alike := by decide +kernel
  have f57 : Cond.fieldLink RX10 57 "BoundaryRulesModel" "way" "[I" ∈ wsX10_alike := by decide +kernel
  unfold wp_X10_alike at h
  refine ga_iload_n hR (pc := 0) 1 rfl rfl dX10_alike_0 ?_
  refine ga_i2l hR (pc := 1) dX10_alike_1 ?_
  refine ga_lconst hR (pc := 2) (v := lN 0) (by decide) dX10_alike_2 ?_
  refine ga_ldc2 hR (pc := 3) (v := lN 5) (by decide +kernel) dX10_alike_3 ?_
  refine ga_callS hR (pc := 6) (As := [.long p1.toInt64, .long (lN 0), .long (lN 5)]) (rest := []) (st0 := [.long (lN 5), .long (lN 0), .long p1.toInt64]) 3 (c_X10_in V p1.toInt64 (lN 0) (lN 5) _ h) (ga_same_i fun _ => rfl) gX10_alike_X10_in rfl rfl rfl hd_X10_inS ⟨Nat.le_of_ble_eq_true rfl, Nat.le_of_ble_eq_true rfl⟩ rfl rfl (Nat.le_of_ble_eq_true rfl) ⟨Nat.zero_le _, Nat.zero_le _⟩ [] rfl rfl dX10_alike_6 ?_
  rintro _ _ ⟨r_1, ⟨⟩, rfl, rfl, h⟩
  refine ga_to [(a 0, .inr (10, [.int x_rules, .int x_places, .ref (a 1), .ref (a 2), .ref (a 3), .int x_newRules, .int x_newPlaces, .ref (a 4), .ref (a 5), .ref (a 6), .ref (a 7), .ref (a 8), .int x_acts, .int x_kept, .int x_length, .ref (a 9), .int x_next, .int x_place, .int x_isWrong, .ref (a 10), .ref (a 11), .ref (a 12), .int x_parts, .int x_without, .ref (a 13), .ref (a 14), .ref (a 15), .ref (a 16), .int x_ways, .ref (a 17), .ref (a 18), .ref (a 19), .ref (a 20)])), (a 1, .inl (V.2 0, 12, .inl x_rule)), (a 2, .inl (V.2 0, 10, .inl x_takes)), (a 3, .inl (V.2 0, 10, .inl x_behind)), (a 8, .inl (V.2 0, 732, .inl x_slot)), (a 16, .inl (V.2 0, 1024, .inl x_way)), (a 17, .inl (V.2 0, 1024, .inl x_at)), (a 20, .inl (V.2 0, 6144, .inl x_on))] [.int r_1] rfl rfl ?_
  try dsimp only at h
  refine ga_if_eq hR (pc := 9) 24 (by decide) dX10_alike_9 (fun c9 => ?_) (fun c9 => ?_)
  · replace h := h.1 c9
    refine ga_iconst hR (pc := 24) (v := -1) (by decide) dX10_alike_24 ?_
    exact ga_iret hE dX10_alike_25 rfl (ga_ri (x_ways, x_way, x_at, x_on) rfl h)
  · replace h := h.2 c9
    refine ga_iload_n hR (pc := 12) 2 rfl rfl dX10_alike_12 ?_
    refine ga_i2l hR (pc := 13) dX10_alike_13 ?_
    refine ga_lconst hR (pc := 14) (v := lN 0) (by decide) dX10_alike_14 ?_
    refine ga_ldc2 hR (pc := 15) (v := lN 5) (by decide +kernel) dX10_alike_15 ?_
    refine ga_callS hR (pc := 18) (As := [.long p2.toInt64, .long (lN 0), .long (lN 5)]) (rest := []) (st0 := [.long (lN 5), .long (lN 0), .long p2.toInt64]) 3 (c_X10_in V p2.toInt64 (lN 0) (lN 5) _ h) (ga_same_i fun _ => rfl) gX10_alike_X10_in rfl rfl rfl hd_X10_inS ⟨Nat.le_of_ble_eq_true rfl, Nat.le_of_ble_eq_true rfl⟩ rfl rfl (Nat.le_of_ble_eq_true rfl) ⟨Nat.zero_le _, Nat.zero_le _⟩ [] rfl rfl dX10_alike_18 ?_
    rintro _ _ ⟨r_2, ⟨⟩, rfl, rfl, h⟩
    refine ga_to [(a 0, .inr (10, [.int x_rules, .int x_places, .ref (a 1), .ref (a 2), .ref (a 3), .int x_newRules, .int x_newPlaces, .ref (a 4), .ref (a 5), .ref (a 6), .ref (a 7), .ref (a 8), .int x_acts, .int x_kept, .int x_length, .ref (a 9), .int x_next, .int x_place, .int x_isWrong, .ref (a 10), .ref (a 11), .ref (a 12), .int x_parts, .int x_without, .ref (a 13), .ref (a 14), .ref (a 15), .ref (a 16), .int x_ways, .ref (a 17), .ref (a 18), .ref (a 19), .ref (a 20)])), (a 1, .inl (V.2 0, 12, .inl x_rule)), (a 2, .inl (V.2 0, 10, .inl x_takes)), (a 3, .inl (V.2 0, 10, .inl x_behind)), (a 8, .inl (V.2 0, 732, .inl x_slot)), (a 16, .inl (V.2 0, 1024, .inl x_way)), (a 17, .inl (V.2 0, 1024, .inl x_at)), (a 20, .inl (V.2 0, 6144, .inl x_on))] [.int r_2] rfl rfl ?_
    try dsimp only at h
    refine ga_if_ne hR (pc := 21) 26 (by decide) dX10_alike_21 (fun c21 => ?_) (fun c21 => ?_)
    · replace h := h.1 c21
      refine ga_aload_n hR (pc := 26) 0 rfl rfl dX10_alike_26 ?_
      refine ga_callV hR (pc := 27) (As := []) (rest := []) (st0 := [.ref (a 0)]) (b := (a 0)) 0 (c_X10_allWays V a x_newRules x_newPlaces x_acts x_kept x_length x_next x_place x_isWrong x_parts x_rules x_places x_without x_ways x_rule x_takes x_behind x_slot x_way x_at x_on _ h) (ga_same_v fun _ => rfl) gX10_alike_X10_allWays rfl rfl rfl hd_X10_allWays ⟨Nat.le_of_ble_eq_true rfl, Nat.le_of_ble_eq_true rfl⟩ rfl rfl (Nat.le_of_ble_eq_true rfl) ⟨Nat.zero_le _, Nat.zero_le _⟩ [0, 1, 2, 3, 4, 5, 6, 7] rfl rfl 0 rfl rfl dX10_alike_27 ?_
      rintro _ _ ⟨⟨x_ways_3, x_way_4, x_at_5, x_on_6⟩, rfl, rfl, h⟩
      refine ga_to [(a 0, .inr (10, [.int x_rules, .int x_places, .ref (a 1), .ref (a 2), .ref (a 3), .int x_newRules, .int x_newPlaces, .ref (a 4), .ref (a 5), .ref (a 6), .ref (a 7), .ref (a 8), .int x_acts, .int x_kept, .int x_length, .ref (a 9), .int x_next, .int x_place, .int x_isWrong, .ref (a 10), .ref (a 11), .ref (a 12), .int x_parts, .int x_without, .ref (a 13), .ref (a 14), .ref (a 15), .ref (a 16), .int x_ways_3, .ref (a 17), .ref (a 18), .ref (a 19), .ref (a 20)])), (a 1, .inl (V.2 0, 12, .inl x_rule)), (a 2, .inl (V.2 0, 10, .inl x_takes)), (a 3, .inl (V.2 0, 10, .inl x_behind)), (a 8, .inl (V.2 0, 732, .inl x_slot)), (a 16, .inl (V.2 0, 1024, .inl x_way_4)), (a 17, .inl (V.2 0, 1024, .inl x_at_5)), (a 20, .inl (V.2 0, 6144, .inl x_on_6))] [] rfl rfl ?_
      try dsimp only at h
      refine ga_aload_n hR (pc := 30) 0 rfl rfl dX10_alike_30 ?_
      refine ga_iload_n hR (pc := 31) 1 rfl rfl dX10_alike_31 ?_
      refine ga_callV hR (pc := 32) (As := [.int p1]) (rest := []) (st0 := [.int p1, .ref (a 0)]) (b := (a 0)) 1 (c_X10_begun V a x_newRules x_newPlaces x_acts x_kept x_length x_next x_place x_isWrong x_parts x_ways_3 x_rules x_places x_without x_rule x_takes p1 _ h) (ga_same_i fun _ => rfl) gX10_alike_X10_begun rfl rfl rfl hd_X10_begun ⟨Nat.le_of_ble_eq_true rfl, Nat.le_of_ble_eq_true rfl⟩ rfl rfl (Nat.le_of_ble_eq_true rfl) ⟨Nat.zero_le _, Nat.zero_le _⟩ [0, 1, 2] rfl rfl 0 rfl rfl dX10_alike_32 ?_
      rintro _ _ ⟨r_7, ⟨⟩, rfl, rfl, h⟩
      refine ga_to [(a 0, .inr (10, [.int x_rules, .int x_places, .ref (a 1), .ref (a 2), .ref (a 3), .int x_newRules, .int x_newPlaces, .ref (a 4), .ref (a 5), .ref (a 6), .ref (a 7), .ref (a 8), .int x_acts, .int x_kept, .int x_length, .ref (a 9), .int x_next, .int x_place, .int x_isWrong, .ref (a 10), .ref (a 11), .ref (a 12), .int x_parts, .int x_without, .ref (a 13), .ref (a 14), .ref (a 15), .ref (a 16), .int x_ways_3, .ref (a 17), .ref (a 18), .ref (a 19), .ref (a 20)])), (a 1, .inl (V.2 0, 12, .inl x_rule)), (a 2, .inl (V.2 0, 10, .inl x_takes)), (a 3, .inl (V.2 0, 10, .inl x_behind)), (a 8, .inl (V.2 0, 732, .inl x_slot)), (a 16, .inl (V.2 0, 1024, .inl x_way_4)), (a 17, .inl (V.2 0, 1024, .inl x_at_5)), (a 20, .inl (V.2 0, 6144, .inl x_on_6))] [.int r_7] rfl rfl ?_
      try dsimp only at h
      refine ga_aload_n hR (pc := 35) 0 rfl rfl dX10_alike_35 ?_
      refine ga_iload_n hR (pc := 36) 2 rfl rfl dX10_alike_36 ?_
      refine ga_callV hR (pc := 37) (As := [.int p2]) (rest := [.int r_7]) (st0 := [.int p2, .ref (a 0), .int r_7]) (b := (a 0)) 1 (c_X10_begun V a x_newRules x_newPlaces x_acts x_kept x_length x_next x_place x_isWrong x_parts x_ways_3 x_rules x_places x_without x_rule x_takes p2 _ h) (ga_same_i fun _ => rfl) gX10_alike_X10_begun rfl rfl rfl hd_X10_begun ⟨Nat.le_of_ble_eq_true rfl, Nat.le_of_ble_eq_true rfl⟩ rfl rfl (Nat.le_of_ble_eq_true rfl) ⟨Nat.zero_le _, Nat.zero_le _⟩ [0, 1, 2] rfl rfl 0 rfl rfl dX10_alike_37 ?_
      rintro _ _ ⟨r_8, ⟨⟩, rfl, rfl, h⟩
      refine ga_to [(a 0, .inr (10, [.int x_rules, .int x_places, .ref (a 1), .ref (a 2), .ref (a 3), .int x_newRules, .int x_newPlaces, .ref (a 4), .ref (a 5), .ref (a 6), .ref (a 7), .ref (a 8), .int x_acts, .int x_kept, .int x_length, .ref (a 9), .int x_next, .int x_place, .int x_isWrong, .ref (a 10), .ref (a 11), .ref (a 12), .int x_parts, .int x_without, .ref (a 13), .ref (a 14), .ref (a 15), .ref (a 16), .int x_ways_3, .ref (a 17), .ref (a 18), .ref (a 19), .ref (a 20)])), (a 1, .inl (V.2 0, 12, .inl x_rule)), (a 2, .inl (V.2 0, 10, .inl x_takes)), (a 3, .inl (V.2 0, 10, .inl x_behind)), (a 8, .inl (V.2 0, 732, .inl x_slot)), (a 16, .inl (V.2 0, 1024, .inl x_way_4)), (a 17, .inl (V.2 0, 1024, .inl x_at_5)), (a 20, .inl (V.2 0, 6144, .inl x_on_6))] [.int r_8, .int r_7] rfl rfl ?_
      try dsimp only at h
      have hJ := h (fun (s0_9 : Int32) => G 0 0 [(a 0, .inr (10, [.int x_rules, .int x_places, .ref (a 1), .ref (a 2), .ref (a 3), .int x_newRules, .int x_newPlaces, .ref (a 4), .ref (a 5), .ref (a 6), .ref (a 7), .ref (a 8), .int x_acts, .int x_kept, .int x_length, .ref (a 9), .int x_next, .int x_place, .int x_isWrong, .ref (a 10), .ref (a 11), .ref (a 12), .int x_parts, .int x_without, .ref (a 13), .ref (a 14), .ref (a 15), .ref (a 16), .int x_ways_3, .ref (a 17), .ref (a 18), .ref (a 19), .ref (a 20)])), (a 1, .inl (V.2 0, 12, .inl x_rule)), (a 2, .inl (V.2 0, 10, .inl x_takes)), (a 3, .inl (V.2 0, 10, .inl x_behind)), (a 8, .inl (V.2 0, 732, .inl x_slot)), (a 16, .inl (V.2 0, 1024, .inl x_way_4)), (a 17, .inl (V.2 0, 1024, .inl x_at_5)), (a 20, .inl (V.2 0, 6144, .inl x_on_6))] 48 [(0, .ref (a 0)), (1, .int p1), (2, .int p2)] [.int s0_9])
      refine ga_bind hJ ?_ ?_
      · intro s0_9 h
        show G 0 0 [(a 0, .inr (10, [.int x_rules, .int x_places, .ref (a 1), .ref (a 2), .ref (a 3), .int x_newRules, .int x_newPlaces, .ref (a 4), .ref (a 5), .ref (a 6), .ref (a 7), .ref (a 8), .int x_acts, .int x_kept, .int x_length, .ref (a 9), .int x_next, .int x_place, .int x_isWrong, .ref (a 10), .ref (a 11), .ref (a 12), .int x_parts, .int x_without, .ref (a 13), .ref (a 14), .ref (a 15), .ref (a 16), .int x_ways_3, .ref (a 17), .ref (a 18), .ref (a 19), .ref (a 20)])), (a 1, .inl (V.2 0, 12, .inl x_rule)), (a 2, .inl (V.2 0, 10, .inl x_takes)), (a 3, .inl (V.2 0, 10, .inl x_behind)), (a 8, .inl (V.2 0, 732, .inl x_slot)), (a 16, .inl (V.2 0, 1024, .inl x_way_4)), (a 17, .inl (V.2 0, 1024, .inl x_at_5)), (a 20, .inl (V.2 0, 6144, .inl x_on_6))] 48 [(0, .ref (a 0)), (1, .int p1), (2, .int p2)] [.int s0_9]
        refine ga_istore_n hR (pc := 48) (lv' := [(3, .int s0_9), (0, .ref (a 0)), (1, .int p1), (2, .int p2)]) rfl (by decide) rfl dX10_alike_48 ?_
        refine ga_iconst hR (pc := 49) (v := nI 0) (by decide) dX10_alike_49 ?_
        refine ga_istore hR (pc := 50) (lv' := [(4, .int (nI 0)), (3, .int s0_9), (0, .ref (a 0)), (1, .int p1), (2, .int p2)]) (by decide) rfl dX10_alike_50 ?_
        have hJ := h (fun (v3_11 : Int32) => G 0 0 [(a 0, .inr (10, [.int x_rules, .int x_places, .ref (a 1), .ref (a 2), .ref (a 3), .int x_newRules, .int x_newPlaces, .ref (a 4), .ref (a 5), .ref (a 6), .ref (a 7), .ref (a 8), .int x_acts, .int x_kept, .int x_length, .ref (a 9), .int x_next, .int x_place, .int x_isWrong, .ref (a 10), .ref (a 11), .ref (a 12), .int x_parts, .int x_without, .ref (a 13), .ref (a 14), .ref (a 15), .ref (a 16), .int x_ways_3, .ref (a 17), .ref (a 18), .ref (a 19), .ref (a 20)])), (a 1, .inl (V.2 0, 12, .inl x_rule)), (a 2, .inl (V.2 0, 10, .inl x_takes)), (a 3, .inl (V.2 0, 10, .inl x_behind)), (a 8, .inl (V.2 0, 732, .inl x_slot)), (a 16, .inl (V.2 0, 1024, .inl x_way_4)), (a 17, .inl (V.2 0, 1024, .inl x_at_5)), (a 20, .inl (V.2 0, 6144, .inl x_on_6))] 104 [(3, .int v3_11)] [])
        refine ga_bind hJ ?_ ?_
        · intro v3_11 h
          show G 0 0 [(a 0, .inr (10, [.int x_rules, .int x_places, .ref (a 1), .ref (a 2), .ref (a 3), .int x_newRules, .int x_newPlaces, .ref (a 4), .ref (a 5), .ref (a 6), .ref (a 7), .ref (a 8), .int x_acts, .int x_kept, .int x_length, .ref (a 9), .int x_next, .int x_place, .int x_isWrong, .ref (a 10), .ref (a 11), .ref (a 12), .int x_parts, .int x_without, .ref (a 13), .ref (a 14), .ref (a 15), .ref (a 16), .int x_ways_3, .ref (a 17), .ref (a 18), .ref (a 19), .ref (a 20)])), (a 1, .inl (V.2 0, 12, .inl x_rule)), (a 2, .inl (V.2 0, 10, .inl x_takes)), (a 3, .inl (V.2 0, 10, .inl x_behind)), (a 8, .inl (V.2 0, 732, .inl x_slot)), (a 16, .inl (V.2 0, 1024, .inl x_way_4)), (a 17, .inl (V.2 0, 1024, .inl x_at_5)), (a 20, .inl (V.2 0, 6144, .inl x_on_6))] 104 [(3, .int v3_11)] []
          refine ga_iload_n hR (pc := 104) 0 rfl rfl dX10_alike_104 ?_
          refine ga_if_eq hR (pc := 105) 112 (by decide) dX10_alike_105 (fun c105 => ?_) (fun c105 => ?_)
          · replace h := h.1 c105
            refine ga_iconst hR (pc := 112) (v := nI 0) (by decide) dX10_alike_112 ?_
            exact ga_iret hE dX10_alike_113 rfl (ga_ri (x_ways_3, x_way_4, x_at_5, x_on_6) rfl h)
          · replace h := h.2 c105
            refine ga_iconst hR (pc := 108) (v := nI 1) (by decide) dX10_alike_108 ?_
            refine ga_goto hR (pc := 109) 113 (by decide) dX10_alike_109 ?_
            exact ga_iret hE dX10_alike_113 rfl (ga_ri (x_ways_3, x_way_4, x_at_5, x_on_6) rfl h)
        · intro h
          obtain ⟨n, h⟩ := h
          have L52 : ∀ (n : Nat) (v3_17 : Int32) (v4_18 : Int32), lp_X10_alike_52 x_rules x_places x_ways_3 x_rule x_takes x_behind x_slot x_way_4 p1 p2 (fun (v3_11 : Int32) => G 0 0 [(a 0, .inr (10, [.int x_rules, .int x_places, .ref (a 1), .ref (a 2), .ref (a 3), .int x_newRules, .int x_newPlaces, .ref (a 4), .ref (a 5), .ref (a 6), .ref (a 7), .ref (a 8), .int x_acts, .int x_kept, .int x_length, .ref (a 9), .int x_next, .int x_place, .int x_isWrong, .ref (a 10), .ref (a 11), .ref (a 12), .int x_parts, .int x_without, .ref (a 13), .ref (a 14), .ref (a 15), .ref (a 16), .int x_ways_3, .ref (a 17), .ref (a 18), .ref (a 19), .ref (a 20)])), (a 1, .inl (V.2 0, 12, .inl x_rule)), (a 2, .inl (V.2 0, 10, .inl x_takes)), (a 3, .inl (V.2 0, 10, .inl x_behind)), (a 8, .inl (V.2 0, 732, .inl x_slot)), (a 16, .inl (V.2 0, 1024, .inl x_way_4)), (a 17, .inl (V.2 0, 1024, .inl x_at_5)), (a 20, .inl (V.2 0, 6144, .inl x_on_6))] 104 [(3, .int v3_11)] []) n v3_17 v4_18 → G 0 0 [(a 0, .inr (10, [.int x_rules, .int x_places, .ref (a 1), .ref (a 2), .ref (a 3), .int x_newRules, .int x_newPlaces, .ref (a 4), .ref (a 5), .ref (a 6), .ref (a 7), .ref (a 8), .int x_acts, .int x_kept, .int x_length, .ref (a 9), .int x_next, .int x_place, .int x_isWrong, .ref (a 10), .ref (a 11), .ref (a 12), .int x_parts, .int x_without, .ref (a 13), .ref (a 14), .ref (a 15), .ref (a 16), .int x_ways_3, .ref (a 17), .ref (a 18), .ref (a 19), .ref (a 20)])), (a 1, .inl (V.2 0, 12, .inl x_rule)), (a 2, .inl (V.2 0, 10, .inl x_takes)), (a 3, .inl (V.2 0, 10, .inl x_behind)), (a 8, .inl (V.2 0, 732, .inl x_slot)), (a 16, .inl (V.2 0, 1024, .inl x_way_4)), (a 17, .inl (V.2 0, 1024, .inl x_at_5)), (a 20, .inl (V.2 0, 6144, .inl x_on_6))] 52 [(0, .ref (a 0)), (1, .int p1), (2, .int p2), (3, .int v3_17), (4, .int v4_18)] [] := by
            intro n
            induction n with
            | zero => exact fun _ _ h => False.elim h
            | succ n ih =>
              intro v3_17 v4_18 h
              rw [lp_X10_alike_52] at h
              refine ga_iload hR (pc := 52) 4 rfl dX10_alike_52 ?_
              refine ga_aload_n hR (pc := 54) 0 rfl rfl dX10_alike_54 ?_
              refine ga_get hR (pc := 55) 0 rfl rfl hinX10 28 (by decide) f251 rfl dX10_alike_55 ?_
              refine ga_icmp_ge hR (pc := 58) 104 (by decide) dX10_alike_58 (fun c58 => ?_) (fun c58 => ?_)
              · replace h := h.1 c58
                exact ga_lv hR [3] rfl h
              · replace h := h.2 c58
                refine ga_iload_n hR (pc := 61) 3 rfl rfl dX10_alike_61 ?_
                refine ga_if_eq hR (pc := 62) 104 (by decide) dX10_alike_62 (fun c62 => ?_) (fun c62 => ?_)
                · replace h := h.1 c62
                  exact ga_lv hR [3] rfl h
                · replace h := h.2 c62
                  refine ga_aload_n hR (pc := 65) 0 rfl rfl dX10_alike_65 ?_
                  refine ga_aload_n hR (pc := 66) 0 rfl rfl dX10_alike_66 ?_
                  refine ga_get hR (pc := 67) 0 rfl rfl hinX10 27 (by decide) f57 rfl dX10_alike_67 ?_
                  refine ga_iload hR (pc := 70) 4 rfl dX10_alike_70 ?_
                  refine ga_iald hR (pc := 72) 5 rfl h.1 dX10_alike_72 ?_
                  replace h := h.2
                  refine ga_iload_n hR (pc := 73) 1 rfl rfl dX10_alike_73 ?_
                  refine ga_callV hR (pc := 74) (As := [.int (x_way_4 v4_18.toNatClampNeg), .int p1]) (rest := []) (st0 := [.int p1, .int (x_way_4 v4_18.toNatClampNeg), .ref (a 0)]) (b := (a 0)) 2 (c_X10_goes V a x_newRules x_newPlaces x_acts x_kept x_length x_next x_place x_isWrong x_parts x_without x_ways_3 x_rules x_places x_rule x_takes x_behind x_slot (x_way_4 v4_18.toNatClampNeg) p1 _ h) (ga_same_i fun _ => rfl) gX10_alike_X10_goes rfl rfl rfl hd_X10_goes ⟨Nat.le_of_ble_eq_true rfl, Nat.le_of_ble_eq_true rfl⟩ rfl rfl (Nat.le_of_ble_eq_true rfl) ⟨Nat.zero_le _, Nat.zero_le _⟩ [0, 1, 2, 3, 4] rfl rfl 0 rfl rfl dX10_alike_74 ?_
                  rintro _ _ ⟨r_19, ⟨⟩, rfl, rfl, h⟩
                  refine ga_to [(a 0, .inr (10, [.int x_rules, .int x_places, .ref (a 1), .ref (a 2), .ref (a 3), .int x_newRules, .int x_newPlaces, .ref (a 4), .ref (a 5), .ref (a 6), .ref (a 7), .ref (a 8), .int x_acts, .int x_kept, .int x_length, .ref (a 9), .int x_next, .int x_place, .int x_isWrong, .ref (a 10), .ref (a 11), .ref (a 12), .int x_parts, .int x_without, .ref (a 13), .ref (a 14), .ref (a 15), .ref (a 16), .int x_ways_3, .ref (a 17), .ref (a 18), .ref (a 19), .ref (a 20)])), (a 1, .inl (V.2 0, 12, .inl x_rule)), (a 2, .inl (V.2 0, 10, .inl x_takes)), (a 3, .inl (V.2 0, 10, .inl x_behind)), (a 8, .inl (V.2 0, 732, .inl x_slot)), (a 16, .inl (V.2 0, 1024, .inl x_way_4)), (a 17, .inl (V.2 0, 1024, .inl x_at_5)), (a 20, .inl (V.2 0, 6144, .inl x_on_6))] [.int r_19] rfl rfl ?_
                  try dsimp only at h
                  refine ga_aload_n hR (pc := 77) 0 rfl rfl dX10_alike_77 ?_
                  refine ga_aload_n hR (pc := 78) 0 rfl rfl dX10_alike_78 ?_
                  refine ga_get hR (pc := 79) 0 rfl rfl hinX10 27 (by decide) f57 rfl dX10_alike_79 ?_
                  refine ga_iload hR (pc := 82) 4 rfl dX10_alike_82 ?_
                  refine ga_iald hR (pc := 84) 5 rfl h.1 dX10_alike_84 ?_
                  replace h := h.2
                  refine ga_iload_n hR (pc := 85) 2 rfl rfl dX10_alike_85 ?_
                  refine ga_callV hR (pc := 86) (As := [.int (x_way_4 v4_18.toNatClampNeg), .int p2]) (rest := [.int r_19]) (st0 := [.int p2, .int (x_way_4 v4_18.toNatClampNeg), .ref (a 0), .int r_19]) (b := (a 0)) 2 (c_X10_goes V a x_newRules x_newPlaces x_acts x_kept x_length x_next x_place x_isWrong x_parts x_without x_ways_3 x_rules x_places x_rule x_takes x_behind x_slot (x_way_4 v4_18.toNatClampNeg) p2 _ h) (ga_same_i fun _ => rfl) gX10_alike_X10_goes rfl rfl rfl hd_X10_goes ⟨Nat.le_of_ble_eq_true rfl, Nat.le_of_ble_eq_true rfl⟩ rfl rfl (Nat.le_of_ble_eq_true rfl) ⟨Nat.zero_le _, Nat.zero_le _⟩ [0, 1, 2, 3, 4] rfl rfl 0 rfl rfl dX10_alike_86 ?_
                  rintro _ _ ⟨r_20, ⟨⟩, rfl, rfl, h⟩
                  refine ga_to [(a 0, .inr (10, [.int x_rules, .int x_places, .ref (a 1), .ref (a 2), .ref (a 3), .int x_newRules, .int x_newPlaces, .ref (a 4), .ref (a 5), .ref (a 6), .ref (a 7), .ref (a 8), .int x_acts, .int x_kept, .int x_length, .ref (a 9), .int x_next, .int x_place, .int x_isWrong, .ref (a 10), .ref (a 11), .ref (a 12), .int x_parts, .int x_without, .ref (a 13), .ref (a 14), .ref (a 15), .ref (a 16), .int x_ways_3, .ref (a 17), .ref (a 18), .ref (a 19), .ref (a 20)])), (a 1, .inl (V.2 0, 12, .inl x_rule)), (a 2, .inl (V.2 0, 10, .inl x_takes)), (a 3, .inl (V.2 0, 10, .inl x_behind)), (a 8, .inl (V.2 0, 732, .inl x_slot)), (a 16, .inl (V.2 0, 1024, .inl x_way_4)), (a 17, .inl (V.2 0, 1024, .inl x_at_5)), (a 20, .inl (V.2 0, 6144, .inl x_on_6))] [.int r_20, .int r_19] rfl rfl ?_
                  try dsimp only at h
                  refine ga_icmp_ne hR (pc := 89) 96 (by decide) dX10_alike_89 (fun c89 => ?_) (fun c89 => ?_)
                  · replace h := h.1 c89
                    refine ga_iconst hR (pc := 96) (v := nI 0) (by decide) dX10_alike_96 ?_
                    refine ga_istore_n hR (pc := 97) (lv' := [(3, .int (nI 0)), (0, .ref (a 0)), (1, .int p1), (2, .int p2), (4, .int v4_18)]) rfl (by decide) rfl dX10_alike_97 ?_
                    obtain ⟨v4_21, ev4_21⟩ : ∃ v : Int32, v = v4_18 + (nI 1) := ⟨_, rfl⟩
                    replace h := h v4_21 ev4_21
                    refine ga_iinc hR (pc := 98) (lv' := [(4, .int v4_21), (3, .int (nI 0)), (0, .ref (a 0)), (1, .int p1), (2, .int p2)]) 4 (by decide) rfl ev4_21 (by decide) rfl dX10_alike_98 ?_
                    refine ga_goto hR (pc := 101) 52 (by decide) dX10_alike_101 ?_
                    exact ga_lv hR [2, 3, 4, 1, 0] rfl (ih _ _ h)
                  · replace h := h.2 c89
                    refine ga_iconst hR (pc := 92) (v := nI 1) (by decide) dX10_alike_92 ?_
                    refine ga_goto hR (pc := 93) 97 (by decide) dX10_alike_93 ?_
                    refine ga_istore_n hR (pc := 97) (lv' := [(3, .int (nI 1)), (0, .ref (a 0)), (1, .int p1), (2, .int p2), (4, .int v4_18)]) rfl (by decide) rfl dX10_alike_97 ?_
                    obtain ⟨v4_22, ev4_22⟩ : ∃ v : Int32, v = v4_18 + (nI 1) := ⟨_, rfl⟩
                    replace h := h v4_22 ev4_22
                    refine ga_iinc hR (pc := 98) (lv' := [(4, .int v4_22), (3, .int (nI 1)), (0, .ref (a 0)), (1, .int p1), (2, .int p2)]) 4 (by decide) rfl ev4_22 (by decide) rfl dX10_alike_98 ?_
                    refine ga_goto hR (pc := 101) 52 (by decide) dX10_alike_101 ?_
                    exact ga_lv hR [2, 3, 4, 1, 0] rfl (ih _ _ h)
          exact ga_lv hR [2, 3, 4, 1, 0] rfl (L52 n _ _ h)
      · intro h
        refine ga_icmp_ne hR (pc := 40) 47 (by decide) dX10_alike_40 (fun c40 => ?_) (fun c40 => ?_)
        · replace h := h.1 c40
          refine ga_iconst hR (pc := 47) (v := nI 0) (by decide) dX10_alike_47 ?_
          exact ga_lv hR [0, 1, 2] rfl h
        · replace h := h.2 c40
          refine ga_iconst hR (pc := 43) (v := nI 1) (by decide) dX10_alike_43 ?_
          refine ga_goto hR (pc := 44) 48 (by decide) dX10_alike_44 ?_
          exact ga_lv hR [0, 1, 2] rfl h
    · replace h := h.2 c21
      refine ga_iconst hR (pc := 24) (v := -1) (by decide) dX10_alike_24 ?_
      exact ga_iret hE dX10_alike_25 rfl (ga_ri (x_ways, x_way, x_at, x_on) rfl h)

def rm_X10_known_ : Room := { frames := 5, cells := 0, slots := 0, locals := 122 }
theorem hd_X10_known_S : yX10_known_.cls ≠ "java/lang/invoke/MethodHandle" ∧ yX10_known_.cls ≠ "java/lang/invoke/VarHandle" ∧ (parseMethodDescriptor yX10_known_.desc).map (fun d => d.parameters.length) = some 2 := by decide +kernel
theorem hd_X10_known_ : yX10_known_.cls = RX10 ∧ yX10_known_.cls ≠ "java/lang/invoke/MethodHandle" ∧ yX10_known_.cls ≠ "java/lang/invoke/VarHandle" ∧ (parseMethodDescriptor yX10_known_.desc).map (fun d => d.parameters.length) = some 2 := ⟨rfl, hd_X10_known_S⟩
set_option maxHeartbeats 4000000 in
set_option maxRecDepth 100000 in
theorem c_X10_known_ (V : ga_V) (a : Nat → Nat) (x_newRules : Int32) (x_newPlaces : Int32) (x_acts : Int32) (x_kept : Int32) (x_length : Int32) (x_next : Int32) (x_place : Int32) (x_isWrong : Int32) (x_parts : Int32) (x_rules : Int32) (x_places : Int32) (x_without : Int32) (x_ways : Int32) (x_rule : Nat → Int32) (x_takes : Nat → Int32) (x_behind : Nat → Int32) (x_slot : Nat → Int32) (x_way : Nat → Int32) (x_at : Nat → Int32) (x_on : Nat → Int32) (p1 : Int32) (p2 : Int32) (K : Int32 → Int32 → (Nat → Int32) → (Nat → Int32) → (Nat → Int32) → Prop) (h : wp_X10_known_ x_rules x_places x_without x_ways x_rule x_takes x_behind x_slot x_way x_at x_on p1 p2 K) : ga_C V yX10_known_ wsX10_known_ rm_X10_known_ [.ref (a 0), .int p1, .int p2] [(a 0, .inr (10, [.int x_rules, .int x_places, .ref (a 1), .ref (a 2), .ref (a 3), .int x_newRules, .int x_newPlaces, .ref (a 4), .ref (a 5), .ref (a 6), .ref (a 7), .ref (a 8), .int x_acts, .int x_kept, .int x_length, .ref (a 9), .int x_next, .int x_place, .int x_isWrong, .ref (a 10), .ref (a 11), .ref (a 12), .int x_parts, .int x_without, .ref (a 13), .ref (a 14), .ref (a 15), .ref (a 16), .int x_ways, .ref (a 17), .ref (a 18), .ref (a 19), .ref (a 20)])), (a 1, .inl (V.2 0, 12, .inl x_rule)), (a 2, .inl (V.2 0, 10, .inl x_takes)), (a 3, .inl (V.2 0, 10, .inl x_behind)), (a 8, .inl (V.2 0, 732, .inl x_slot)), (a 16, .inl (V.2 0, 1024, .inl x_way)), (a 17, .inl (V.2 0, 1024, .inl x_at)), (a 20, .inl (V.2 0, 6144, .inl x_on))] 0 0 (ga_Fi (fun (u : Int32 × (Nat → Int32) × (Nat → Int32) × (Nat → Int32)) => [(a 0, .inr (10, [.int x_rules, .int x_places, .ref (a 1), .ref (a 2), .ref (a 3), .int x_newRules, .int x_newPlaces, .ref (a 4), .ref (a 5), .ref (a 6), .ref (a 7), .ref (a 8), .int x_acts, .int x_kept, .int x_length, .ref (a 9), .int x_next, .int x_place, .int x_isWrong, .ref (a 10), .ref (a 11), .ref (a 12), .int x_parts, .int x_without, .ref (a 13), .ref (a 14), .ref (a 15), .ref (a 16), .int u.1, .ref (a 17), .ref (a 18), .ref (a 19), .ref (a 20)])), (a 1, .inl (V.2 0, 12, .inl x_rule)), (a 2, .inl (V.2 0, 10, .inl x_takes)), (a 3, .inl (V.2 0, 10, .inl x_behind)), (a 8, .inl (V.2 0, 732, .inl x_slot)), (a 16, .inl (V.2 0, 1024, .inl u.2.1)), (a 17, .inl (V.2 0, 1024, .inl u.2.2.1)), (a 20, .inl (V.2 0, 6144, .inl u.2.2.2))]) (fun r u => K r u.1 u.2.1 u.2.2.1 u.2.2.2)) := by
  refine ga_met (cc := cX10_known_) (maxL := 3) (rt := (some .int)) (by decide) rfl [(0, .ref (a 0)), (1, .int p1), (2, .int p2)] rfl (Nat.le_of_ble_eq_true rfl) ?_
  intro G hR hE
  unfold wp_X10_known_ at h
  refine ga_iload_n hR (pc := 0) 1 rfl rfl dX10_known__0 ?_
  refine ga_i2l hR (pc := 1) dX10_known__1 ?_
  refine ga_lconst hR (pc := 2) (v := lN 0) (by decide) dX10_known__2 ?_
  refine ga_ldc2 hR (pc := 3) (v := lN 5) (by decide +kernel) dX10_known__3 ?_
  refine ga_callS hR (pc := 6) (As := [.long p1.toInt64, .long (lN 0), .long (lN 5)]) (rest := []) (st0 := [.long (lN 5), .long (lN 0), .long p1.toInt64]) 3 (c_X10_in V p1.toInt64 (lN 0) (lN 5) _ h) (ga_same_i fun _ => rfl) gX10_known__X10_in rfl rfl rfl hd_X10_inS ⟨Nat.le_of_ble_eq_true rfl, Nat.le_of_ble_eq_true rfl⟩ rfl rfl (Nat.le_of_ble_eq_true rfl) ⟨Nat.zero_le _, Nat.zero_le _⟩ [] rfl rfl dX10_known__6 ?_
  rintro _ _ ⟨r_1, ⟨⟩, rfl, rfl, h⟩
  refine ga_to [(a 0, .inr (10, [.int x_rules, .int x_places, .ref (a 1), .ref (a 2), .ref (a 3), .int x_newRules, .int x_newPlaces, .ref (a 4), .ref (a 5), .ref (a 6), .ref (a 7), .ref (a 8), .int x_acts, .int x_kept, .int x_length, .ref (a 9), .int x_next, .int x_place, .int x_isWrong, .ref (a 10), .ref (a 11), .ref (a 12), .int x_parts, .int x_without, .ref (a 13), .ref (a 14), .ref (a 15), .ref (a 16), .int x_ways, .ref (a 17), .ref (a 18), .ref (a 19), .ref (a 20)])), (a 1, .inl (V.2 0, 12, .inl x_rule)), (a 2, .inl (V.2 0, 10, .inl x_takes)), (a 3, .inl (V.2 0, 10, .inl x_behind)), (a 8, .inl (V.2 0, 732, .inl x_slot)), (a 16, .inl (V.2 0, 1024, .inl x_way)), (a 17, .inl (V.2 0, 1024, .inl x_at)), (a 20, .inl (V.2 0, 6144, .inl x_on))] [.int r_1] rfl rfl ?_
  try dsimp only at h
  refine ga_if_eq hR (pc := 9) 24 (by decide) dX10_known__9 (fun c9 => ?_) (fun c9 => ?_)
  · replace h := h.1 c9
    refine ga_iconst hR (pc := 24) (v := -1) (by decide) dX10_known__24 ?_
    exact ga_iret hE dX10_known__25 rfl (ga_ri (x_ways, x_way, x_at, x_on) rfl h)
  · replace h := h.2 c9
    refine ga_iload_n hR (pc := 12) 2 rfl rfl dX10_known__12 ?_
    refine ga_i2l hR (pc := 13) dX10_known__13 ?_
    refine ga_lconst hR (pc := 14) (v := lN 0) (by decide) dX10_known__14 ?_
    refine ga_ldc2 hR (pc := 15) (v := lN 5) (by decide +kernel) dX10_known__15 ?_
    refine ga_callS hR (pc := 18) (As := [.long p2.toInt64, .long (lN 0), .long (lN 5)]) (rest := []) (st0 := [.long (lN 5), .long (lN 0), .long p2.toInt64]) 3 (c_X10_in V p2.toInt64 (lN 0) (lN 5) _ h) (ga_same_i fun _ => rfl) gX10_known__X10_in rfl rfl rfl hd_X10_inS ⟨Nat.le_of_ble_eq_true rfl, Nat.le_of_ble_eq_true rfl⟩ rfl rfl (Nat.le_of_ble_eq_true rfl) ⟨Nat.zero_le _, Nat.zero_le _⟩ [] rfl rfl dX10_known__18 ?_
    rintro _ _ ⟨r_2, ⟨⟩, rfl, rfl, h⟩
    refine ga_to [(a 0, .inr (10, [.int x_rules, .int x_places, .ref (a 1), .ref (a 2), .ref (a 3), .int x_newRules, .int x_newPlaces, .ref (a 4), .ref (a 5), .ref (a 6), .ref (a 7), .ref (a 8), .int x_acts, .int x_kept, .int x_length, .ref (a 9), .int x_next, .int x_place, .int x_isWrong, .ref (a 10), .ref (a 11), .ref (a 12), .int x_parts, .int x_without, .ref (a 13), .ref (a 14), .ref (a 15), .ref (a 16), .int x_ways, .ref (a 17), .ref (a 18), .ref (a 19), .ref (a 20)])), (a 1, .inl (V.2 0, 12, .inl x_rule)), (a 2, .inl (V.2 0, 10, .inl x_takes)), (a 3, .inl (V.2 0, 10, .inl x_behind)), (a 8, .inl (V.2 0, 732, .inl x_slot)), (a 16, .inl (V.2 0, 1024, .inl x_way)), (a 17, .inl (V.2 0, 1024, .inl x_at)), (a 20, .inl (V.2 0, 6144, .inl x_on))] [.int r_2] rfl rfl ?_
    try dsimp only at h
    refine ga_if_ne hR (pc := 21) 26 (by decide) dX10_known__21 (fun c21 => ?_) (fun c21 => ?_)
    · replace h := h.1 c21
      refine ga_aload_n hR (pc := 26) 0 rfl rfl dX10_known__26 ?_
      refine ga_callV hR (pc := 27) (As := []) (rest := []) (st0 := [.ref (a 0)]) (b := (a 0)) 0 (c_X10_allWays V a x_newRules x_newPlaces x_acts x_kept x_length x_next x_place x_isWrong x_parts x_rules x_places x_without x_ways x_rule x_takes x_behind x_slot x_way x_at x_on _ h) (ga_same_v fun _ => rfl) gX10_known__X10_allWays rfl rfl rfl hd_X10_allWays ⟨Nat.le_of_ble_eq_true rfl, Nat.le_of_ble_eq_true rfl⟩ rfl rfl (Nat.le_of_ble_eq_true rfl) ⟨Nat.zero_le _, Nat.zero_le _⟩ [0, 1, 2, 3, 4, 5, 6, 7] rfl rfl 0 rfl rfl dX10_known__27 ?_
      rintro _ _ ⟨⟨x_ways_3, x_way_4, x_at_5, x_on_6⟩, rfl, rfl, h⟩
      refine ga_to [(a 0, .inr (10, [.int x_rules, .int x_places, .ref (a 1), .ref (a 2), .ref (a 3), .int x_newRules, .int x_newPlaces, .ref (a 4), .ref (a 5), .ref (a 6), .ref (a 7), .ref (a 8), .int x_acts, .int x_kept, .int x_length, .ref (a 9), .int x_next, .int x_place, .int x_isWrong, .ref (a 10), .ref (a 11), .ref (a 12), .int x_parts, .int x_without, .ref (a 13), .ref (a 14), .ref (a 15), .ref (a 16), .int x_ways_3, .ref (a 17), .ref (a 18), .ref (a 19), .ref (a 20)])), (a 1, .inl (V.2 0, 12, .inl x_rule)), (a 2, .inl (V.2 0, 10, .inl x_takes)), (a 3, .inl (V.2 0, 10, .inl x_behind)), (a 8, .inl (V.2 0, 732, .inl x_slot)), (a 16, .inl (V.2 0, 1024, .inl x_way_4)), (a 17, .inl (V.2 0, 1024, .inl x_at_5)), (a 20, .inl (V.2 0, 6144, .inl x_on_6))] [] rfl rfl ?_
      try dsimp only at h
      refine ga_aload_n hR (pc := 30) 0 rfl rfl dX10_known__30 ?_
      refine ga_iload_n hR (pc := 31) 1 rfl rfl dX10_known__31 ?_
      refine ga_iload_n hR (pc := 32) 2 rfl rfl dX10_known__32 ?_
      refine ga_callV hR (pc := 33) (As := [.int p1, .int p2]) (rest := []) (st0 := [.int p2, .int p1, .ref (a 0)]) (b := (a 0)) 2 (c_X10_isKnown V a x_newRules x_newPlaces x_acts x_kept x_length x_next x_place x_isWrong x_parts x_rules x_places x_without x_ways_3 x_rule x_takes x_behind x_slot x_way_4 p1 p2 _ h) (ga_same_i fun _ => rfl) gX10_known__X10_isKnown rfl rfl rfl hd_X10_isKnown ⟨Nat.le_of_ble_eq_true rfl, Nat.le_of_ble_eq_true rfl⟩ rfl rfl (Nat.le_of_ble_eq_true rfl) ⟨Nat.zero_le _, Nat.zero_le _⟩ [0, 1, 2, 3, 4, 5] rfl rfl 0 rfl rfl dX10_known__33 ?_
      rintro _ _ ⟨r_7, ⟨⟩, rfl, rfl, h⟩
      refine ga_to [(a 0, .inr (10, [.int x_rules, .int x_places, .ref (a 1), .ref (a 2), .ref (a 3), .int x_newRules, .int x_newPlaces, .ref (a 4), .ref (a 5), .ref (a 6), .ref (a 7), .ref (a 8), .int x_acts, .int x_kept, .int x_length, .ref (a 9), .int x_next, .int x_place, .int x_isWrong, .ref (a 10), .ref (a 11), .ref (a 12), .int x_parts, .int x_without, .ref (a 13), .ref (a 14), .ref (a 15), .ref (a 16), .int x_ways_3, .ref (a 17), .ref (a 18), .ref (a 19), .ref (a 20)])), (a 1, .inl (V.2 0, 12, .inl x_rule)), (a 2, .inl (V.2 0, 10, .inl x_takes)), (a 3, .inl (V.2 0, 10, .inl x_behind)), (a 8, .inl (V.2 0, 732, .inl x_slot)), (a 16, .inl (V.2 0, 1024, .inl x_way_4)), (a 17, .inl (V.2 0, 1024, .inl x_at_5)), (a 20, .inl (V.2 0, 6144, .inl x_on_6))] [.int r_7] rfl rfl ?_
      try dsimp only at h
      refine ga_if_eq hR (pc := 36) 43 (by decide) dX10_known__36 (fun c36 => ?_) (fun c36 => ?_)
      · replace h := h.1 c36
        refine ga_iconst hR (pc := 43) (v := nI 0) (by decide) dX10_known__43 ?_
        exact ga_iret hE dX10_known__44 rfl (ga_ri (x_ways_3, x_way_4, x_at_5, x_on_6) rfl h)
      · replace h := h.2 c36
        refine ga_iconst hR (pc := 39) (v := nI 1) (by decide) dX10_known__39 ?_
        refine ga_goto hR (pc := 40) 44 (by decide) dX10_known__40 ?_
        exact ga_iret hE dX10_known__44 rfl (ga_ri (x_ways_3, x_way_4, x_at_5, x_on_6) rfl h)
    · replace h := h.2 c21
      refine ga_iconst hR (pc := 24) (v := -1) (by decide) dX10_known__24 ?_
      exact ga_iret hE dX10_known__25 rfl (ga_ri (x_ways, x_way, x_at, x_on) rfl h)

def rm_X10_back : Room := { frames := 6, cells := 0, slots := 0, locals := 144 }
theorem hd_X10_backS : yX10_back.cls ≠ "java/lang/invoke/MethodHandle" ∧ yX10_back.cls ≠ "java/lang/invoke/VarHandle" ∧ (parseMethodDescriptor yX10_back.desc).map (fun d => d.parameters.length) = some 2 := by decide +kernel
theorem hd_X10_back : yX10_back.cls = RX10 ∧ yX10_back.cls ≠ "java/lang/invoke/MethodHandle" ∧ yX10_back.cls ≠ "java/lang/invoke/VarHandle" ∧ (parseMethodDescriptor yX10_back.desc).map (fun d => d.parameters.length) = some 2 := ⟨rfl, hd_X10_backS⟩
set_option maxHeartbeats 4000000 in
set_option maxRecDepth 100000 in
theorem c_X10_back (V : ga_V) (a : Nat → Nat) (x_newRules : Int32) (x_newPlaces : Int32) (x_acts : Int32) (x_kept : Int32) (x_length : Int32) (x_next : Int32) (x_place : Int32) (x_isWrong : Int32) (x_parts : Int32) (x_rules : Int32) (x_places : Int32) (x_without : Int32) (x_ways : Int32) (x_rule : Nat → Int32) (x_takes : Nat → Int32) (x_behind : Nat → Int32) (x_slot : Nat → Int32) (x_way : Nat → Int32) (x_at : Nat → Int32) (x_on : Nat → Int32) (p1 : Int32) (p2 : Int32) (K : Int32 → Int32 → (Nat → Int32) → (Nat → Int32) → (Nat → Int32) → Prop) (h : wp_X10_back x_rules x_places x_without x_ways x_rule x_takes x_behind x_slot x_way x_at x_on p1 p2 K) : ga_C V yX10_back wsX10_back rm_X10_back [.ref (a 0), .int p1, .int p2] [(a 0, .inr (10, [.int x_rules, .int x_places, .ref (a 1), .ref (a 2), .ref (a 3), .int x_newRules, .int x_newPlaces, .ref (a 4), .ref (a 5), .ref (a 6), .ref (a 7), .ref (a 8), .int x_acts, .int x_kept, .int x_length, .ref (a 9), .int x_next, .int x_place, .int x_isWrong, .ref (a 10), .ref (a 11), .ref (a 12), .int x_parts, .int x_without, .ref (a 13), .ref (a 14), .ref (a 15), .ref (a 16), .int x_ways, .ref (a 17), .ref (a 18), .ref (a 19), .ref (a 20)])), (a 1, .inl (V.2 0, 12, .inl x_rule)), (a 2, .inl (V.2 0, 10, .inl x_takes)), (a 3, .inl (V.2 0, 10, .inl x_behind)), (a 8, .inl (V.2 0, 732, .inl x_slot)), (a 16, .inl (V.2 0, 1024, .inl x_way)), (a 17, .inl (V.2 0, 1024, .inl x_at)), (a 20, .inl (V.2 0, 6144, .inl x_on))] 0 0 (ga_Fi (fun (u : Int32 × (Nat → Int32) × (Nat → Int32) × (Nat → Int32)) => [(a 0, .inr (10, [.int x_rules, .int x_places, .ref (a 1), .ref (a 2), .ref (a 3), .int x_newRules, .int x_newPlaces, .ref (a 4), .ref (a 5), .ref (a 6), .ref (a 7), .ref (a 8), .int x_acts, .int x_kept, .int x_length, .ref (a 9), .int x_next, .int x_place, .int x_isWrong, .ref (a 10), .ref (a 11), .ref (a 12), .int x_parts, .int x_without, .ref (a 13), .ref (a 14), .ref (a 15), .ref (a 16), .int u.1, .ref (a 17), .ref (a 18), .ref (a 19), .ref (a 20)])), (a 1, .inl (V.2 0, 12, .inl x_rule)), (a 2, .inl (V.2 0, 10, .inl x_takes)), (a 3, .inl (V.2 0, 10, .inl x_behind)), (a 8, .inl (V.2 0, 732, .inl x_slot)), (a 16, .inl (V.2 0, 1024, .inl u.2.1)), (a 17, .inl (V.2 0, 1024, .inl u.2.2.1)), (a 20, .inl (V.2 0, 6144, .inl u.2.2.2))]) (fun r u => K r u.1 u.2.1 u.2.2.1 u.2.2.2)) := by
  refine ga_met (cc := cX10_back) (maxL := 4) (rt := (some .int)) (by decide) rfl [(0, .ref (a 0)), (1, .int p1), (2, .int p2)] rfl (Nat.le_of_ble_eq_true rfl) ?_
  intro G hR hE
  unfold wp_X10_back at h
  refine ga_aload_n hR (pc := 0) 0 rfl rfl dX10_back_0 ?_
  refine ga_iload_n hR (pc := 1) 1 rfl rfl dX10_back_1 ?_
  refine ga_callV hR (pc := 2) (As := [.int p1]) (rest := []) (st0 := [.int p1, .ref (a 0)]) (b := (a 0)) 1 (c_X10_isPlace V a x_rules x_places x_newRules x_newPlaces x_acts x_kept x_length x_next x_place x_isWrong x_parts x_without x_ways x_slot p1 _ h) (ga_same_i fun _ => rfl) gX10_back_X10_isPlace rfl rfl rfl hd_X10_isPlace ⟨Nat.le_of_ble_eq_true rfl, Nat.le_of_ble_eq_true rfl⟩ rfl rfl (Nat.le_of_ble_eq_true rfl) ⟨Nat.zero_le _, Nat.zero_le _⟩ [0, 4] rfl rfl 0 rfl rfl dX10_back_2 ?_
  rintro _ _ ⟨r_1, ⟨⟩, rfl, rfl, h⟩
  refine ga_to [(a 0, .inr (10, [.int x_rules, .int x_places, .ref (a 1), .ref (a 2), .ref (a 3), .int x_newRules, .int x_newPlaces, .ref (a 4), .ref (a 5), .ref (a 6), .ref (a 7), .ref (a 8), .int x_acts, .int x_kept, .int x_length, .ref (a 9), .int x_next, .int x_place, .int x_isWrong, .ref (a 10), .ref (a 11), .ref (a 12), .int x_parts, .int x_without, .ref (a 13), .ref (a 14), .ref (a 15), .ref (a 16), .int x_ways, .ref (a 17), .ref (a 18), .ref (a 19), .ref (a 20)])), (a 1, .inl (V.2 0, 12, .inl x_rule)), (a 2, .inl (V.2 0, 10, .inl x_takes)), (a 3, .inl (V.2 0, 10, .inl x_behind)), (a 8, .inl (V.2 0, 732, .inl x_slot)), (a 16, .inl (V.2 0, 1024, .inl x_way)), (a 17, .inl (V.2 0, 1024, .inl x_at)), (a 20, .inl (V.2 0, 6144, .inl x_on))] [.int r_1] rfl rfl ?_
  try dsimp only at h
  refine ga_if_eq hR (pc := 5) 18 (by decide) dX10_back_5 (fun c5 => ?_) (fun c5 => ?_)
  · replace h := h.1 c5
    refine ga_iconst hR (pc := 18) (v := -1) (by decide) dX10_back_18 ?_
    exact ga_iret hE dX10_back_19 rfl (ga_ri (x_ways, x_way, x_at, x_on) rfl h)
  · replace h := h.2 c5
    refine ga_iload_n hR (pc := 8) 2 rfl rfl dX10_back_8 ?_
    refine ga_i2l hR (pc := 9) dX10_back_9 ?_
    refine ga_lconst hR (pc := 10) (v := lN 0) (by decide) dX10_back_10 ?_
    refine ga_lconst hR (pc := 11) (v := lN 1) (by decide) dX10_back_11 ?_
    refine ga_callS hR (pc := 12) (As := [.long p2.toInt64, .long (lN 0), .long (lN 1)]) (rest := []) (st0 := [.long (lN 1), .long (lN 0), .long p2.toInt64]) 3 (c_X10_in V p2.toInt64 (lN 0) (lN 1) _ h) (ga_same_i fun _ => rfl) gX10_back_X10_in rfl rfl rfl hd_X10_inS ⟨Nat.le_of_ble_eq_true rfl, Nat.le_of_ble_eq_true rfl⟩ rfl rfl (Nat.le_of_ble_eq_true rfl) ⟨Nat.zero_le _, Nat.zero_le _⟩ [] rfl rfl dX10_back_12 ?_
    rintro _ _ ⟨r_2, ⟨⟩, rfl, rfl, h⟩
    refine ga_to [(a 0, .inr (10, [.int x_rules, .int x_places, .ref (a 1), .ref (a 2), .ref (a 3), .int x_newRules, .int x_newPlaces, .ref (a 4), .ref (a 5), .ref (a 6), .ref (a 7), .ref (a 8), .int x_acts, .int x_kept, .int x_length, .ref (a 9), .int x_next, .int x_place, .int x_isWrong, .ref (a 10), .ref (a 11), .ref (a 12), .int x_parts, .int x_without, .ref (a 13), .ref (a 14), .ref (a 15), .ref (a 16), .int x_ways, .ref (a 17), .ref (a 18), .ref (a 19), .ref (a 20)])), (a 1, .inl (V.2 0, 12, .inl x_rule)), (a 2, .inl (V.2 0, 10, .inl x_takes)), (a 3, .inl (V.2 0, 10, .inl x_behind)), (a 8, .inl (V.2 0, 732, .inl x_slot)), (a 16, .inl (V.2 0, 1024, .inl x_way)), (a 17, .inl (V.2 0, 1024, .inl x_at)), (a 20, .inl (V.2 0, 6144, .inl x_on))] [.int r_2] rfl rfl ?_
    try dsimp only at h
    refine ga_if_ne hR (pc := 15) 20 (by decide) dX10_back_15 (fun c15 => ?_) (fun c15 => ?_)
    · replace h := h.1 c15
      refine ga_aload_n hR (pc := 20) 0 rfl rfl dX10_back_20 ?_
      refine ga_callV hR (pc := 21) (As := []) (rest := []) (st0 := [.ref (a 0)]) (b := (a 0)) 0 (c_X10_allWays V a x_newRules x_newPlaces x_acts x_kept x_length x_next x_place x_isWrong x_parts x_rules x_places x_without x_ways x_rule x_takes x_behind x_slot x_way x_at x_on _ h) (ga_same_v fun _ => rfl) gX10_back_X10_allWays rfl rfl rfl hd_X10_allWays ⟨Nat.le_of_ble_eq_true rfl, Nat.le_of_ble_eq_true rfl⟩ rfl rfl (Nat.le_of_ble_eq_true rfl) ⟨Nat.zero_le _, Nat.zero_le _⟩ [0, 1, 2, 3, 4, 5, 6, 7] rfl rfl 0 rfl rfl dX10_back_21 ?_
      rintro _ _ ⟨⟨x_ways_3, x_way_4, x_at_5, x_on_6⟩, rfl, rfl, h⟩
      refine ga_to [(a 0, .inr (10, [.int x_rules, .int x_places, .ref (a 1), .ref (a 2), .ref (a 3), .int x_newRules, .int x_newPlaces, .ref (a 4), .ref (a 5), .ref (a 6), .ref (a 7), .ref (a 8), .int x_acts, .int x_kept, .int x_length, .ref (a 9), .int x_next, .int x_place, .int x_isWrong, .ref (a 10), .ref (a 11), .ref (a 12), .int x_parts, .int x_without, .ref (a 13), .ref (a 14), .ref (a 15), .ref (a 16), .int x_ways_3, .ref (a 17), .ref (a 18), .ref (a 19), .ref (a 20)])), (a 1, .inl (V.2 0, 12, .inl x_rule)), (a 2, .inl (V.2 0, 10, .inl x_takes)), (a 3, .inl (V.2 0, 10, .inl x_behind)), (a 8, .inl (V.2 0, 732, .inl x_slot)), (a 16, .inl (V.2 0, 1024, .inl x_way_4)), (a 17, .inl (V.2 0, 1024, .inl x_at_5)), (a 20, .inl (V.2 0, 6144, .inl x_on_6))] [] rfl rfl ?_
      try dsimp only at h
      refine ga_aload_n hR (pc := 24) 0 rfl rfl dX10_back_24 ?_
      refine ga_iload_n hR (pc := 25) 1 rfl rfl dX10_back_25 ?_
      refine ga_callV hR (pc := 26) (As := [.int p1]) (rest := []) (st0 := [.int p1, .ref (a 0)]) (b := (a 0)) 1 (c_X10_backFrom V a x_newRules x_newPlaces x_acts x_kept x_length x_next x_place x_isWrong x_parts x_rules x_places x_without x_ways_3 x_rule x_takes x_behind x_slot x_way_4 p1 _ h) (ga_same_i fun _ => rfl) gX10_back_X10_backFrom rfl rfl rfl hd_X10_backFrom ⟨Nat.le_of_ble_eq_true rfl, Nat.le_of_ble_eq_true rfl⟩ rfl rfl (Nat.le_of_ble_eq_true rfl) ⟨Nat.zero_le _, Nat.zero_le _⟩ [0, 1, 2, 3, 4, 5] rfl rfl 0 rfl rfl dX10_back_26 ?_
      rintro _ _ ⟨r_7, ⟨⟩, rfl, rfl, h⟩
      refine ga_to [(a 0, .inr (10, [.int x_rules, .int x_places, .ref (a 1), .ref (a 2), .ref (a 3), .int x_newRules, .int x_newPlaces, .ref (a 4), .ref (a 5), .ref (a 6), .ref (a 7), .ref (a 8), .int x_acts, .int x_kept, .int x_length, .ref (a 9), .int x_next, .int x_place, .int x_isWrong, .ref (a 10), .ref (a 11), .ref (a 12), .int x_parts, .int x_without, .ref (a 13), .ref (a 14), .ref (a 15), .ref (a 16), .int x_ways_3, .ref (a 17), .ref (a 18), .ref (a 19), .ref (a 20)])), (a 1, .inl (V.2 0, 12, .inl x_rule)), (a 2, .inl (V.2 0, 10, .inl x_takes)), (a 3, .inl (V.2 0, 10, .inl x_behind)), (a 8, .inl (V.2 0, 732, .inl x_slot)), (a 16, .inl (V.2 0, 1024, .inl x_way_4)), (a 17, .inl (V.2 0, 1024, .inl x_at_5)), (a 20, .inl (V.2 0, 6144, .inl x_on_6))] [.int r_7] rfl rfl ?_
      try dsimp only at h
      refine ga_istore_n hR (pc := 29) (lv' := [(3, .int r_7), (0, .ref (a 0)), (1, .int p1), (2, .int p2)]) rfl (by decide) rfl dX10_back_29 ?_
      refine ga_iload_n hR (pc := 30) 3 rfl rfl dX10_back_30 ?_
      refine ga_if_ne hR (pc := 31) 38 (by decide) dX10_back_31 (fun c31 => ?_) (fun c31 => ?_)
      · replace h := h.1 c31
        refine ga_iload_n hR (pc := 38) 2 rfl rfl dX10_back_38 ?_
        refine ga_iload_n hR (pc := 39) 0 rfl rfl dX10_back_39 ?_
        refine ga_isub hR (pc := 40) dX10_back_40 ?_
        exact ga_iret hE dX10_back_41 rfl (ga_ri (x_ways_3, x_way_4, x_at_5, x_on_6) rfl h)
      · replace h := h.2 c31
        refine ga_iload_n hR (pc := 34) 0 rfl rfl dX10_back_34 ?_
        refine ga_goto hR (pc := 35) 41 (by decide) dX10_back_35 ?_
        exact ga_iret hE dX10_back_41 rfl (ga_ri (x_ways_3, x_way_4, x_at_5, x_on_6) rfl h)
    · replace h := h.2 c15
      refine ga_iconst hR (pc := 18) (v := -1) (by decide) dX10_back_18 ?_
      exact ga_iret hE dX10_back_19 rfl (ga_ri (x_ways, x_way, x_at, x_on) rfl h)

def rm_X10_idle : Room := { frames := 4, cells := 0, slots := 0, locals := 99 }
theorem hd_X10_idleS : yX10_idle.cls ≠ "java/lang/invoke/MethodHandle" ∧ yX10_idle.cls ≠ "java/lang/invoke/VarHandle" ∧ (parseMethodDescriptor yX10_idle.desc).map (fun d => d.parameters.length) = some 0 := by decide +kernel
theorem hd_X10_idle : yX10_idle.cls = RX10 ∧ yX10_idle.cls ≠ "java/lang/invoke/MethodHandle" ∧ yX10_idle.cls ≠ "java/lang/invoke/VarHandle" ∧ (parseMethodDescriptor yX10_idle.desc).map (fun d => d.parameters.length) = some 0 := ⟨rfl, hd_X10_idleS⟩
set_option maxHeartbeats 4000000 in
set_option maxRecDepth 100000 in
theorem c_X10_idle (V : ga_V) (a : Nat → Nat) (x_newRules : Int32) (x_newPlaces : Int32) (x_acts : Int32) (x_kept : Int32) (x_length : Int32) (x_next : Int32) (x_place : Int32) (x_isWrong : Int32) (x_parts : Int32) (x_ways : Int32) (x_rules : Int32) (x_places : Int32) (x_without : Int32) (x_rule : Nat → Int32) (x_takes : Nat → Int32) (x_behind : Nat → Int32) (x_slot : Nat → Int32) (x_stood : Nat → Int32) (x_parted : Nat → Int32) (x_other : Nat → Int32) (K : Int32 → Int32 → (Nat → Int32) → (Nat → Int32) → (Nat → Int32) → Prop) (h : wp_X10_idle x_rules x_places x_without x_rule x_takes x_behind x_slot x_stood x_parted x_other K) : ga_C V yX10_idle wsX10_idle rm_X10_idle [.ref (a 0)] [(a 0, .inr (10, [.int x_rules, .int x_places, .ref (a 1), .ref (a 2), .ref (a 3), .int x_newRules, .int x_newPlaces, .ref (a 4), .ref (a 5), .ref (a 6), .ref (a 7), .ref (a 8), .int x_acts, .int x_kept, .int x_length, .ref (a 9), .int x_next, .int x_place, .int x_isWrong, .ref (a 10), .ref (a 11), .ref (a 12), .int x_parts, .int x_without, .ref (a 13), .ref (a 14), .ref (a 15), .ref (a 16), .int x_ways, .ref (a 17), .ref (a 18), .ref (a 19), .ref (a 20)])), (a 1, .inl (V.2 0, 12, .inl x_rule)), (a 2, .inl (V.2 0, 10, .inl x_takes)), (a 3, .inl (V.2 0, 10, .inl x_behind)), (a 8, .inl (V.2 0, 732, .inl x_slot)), (a 13, .inl (V.2 0, 31, .inl x_stood)), (a 14, .inl (V.2 1, 31, .inl x_parted)), (a 15, .inl (V.2 0, 31, .inl x_other))] 0 0 (ga_Fi (fun (u : Int32 × (Nat → Int32) × (Nat → Int32) × (Nat → Int32)) => [(a 0, .inr (10, [.int x_rules, .int x_places, .ref (a 1), .ref (a 2), .ref (a 3), .int x_newRules, .int x_newPlaces, .ref (a 4), .ref (a 5), .ref (a 6), .ref (a 7), .ref (a 8), .int x_acts, .int x_kept, .int x_length, .ref (a 9), .int x_next, .int x_place, .int x_isWrong, .ref (a 10), .ref (a 11), .ref (a 12), .int x_parts, .int u.1, .ref (a 13), .ref (a 14), .ref (a 15), .ref (a 16), .int x_ways, .ref (a 17), .ref (a 18), .ref (a 19), .ref (a 20)])), (a 1, .inl (V.2 0, 12, .inl x_rule)), (a 2, .inl (V.2 0, 10, .inl x_takes)), (a 3, .inl (V.2 0, 10, .inl x_behind)), (a 8, .inl (V.2 0, 732, .inl x_slot)), (a 13, .inl (V.2 0, 31, .inl u.2.1)), (a 14, .inl (V.2 1, 31, .inl u.2.2.1)), (a 15, .inl (V.2 0, 31, .inl u.2.2.2))]) (fun r u => K r u.1 u.2.1 u.2.2.1 u.2.2.2)) := by
  refine ga_met (cc := cX10_idle) (maxL := 5) (rt := (some .int)) (by decide) rfl [(0, .ref (a 0))] rfl (Nat.le_of_ble_eq_true rfl) ?_
  intro G hR hE
  have hinX10 : ∀ w ∈ u_ws RX10 TX10 33, w ∈ wsX10_idle := by decide +kernel
  have f230 : Cond.fieldLink RX10 230 "BoundaryRulesModel" "without" "I" ∈ wsX10_idle := by decide +kernel
  have f118 : Cond.fieldLink RX10 118 "BoundaryRulesModel" "rules" "I" ∈ wsX10_idle := by decide +kernel
  have f31 : Cond.fieldLink RX10 31 "BoundaryRulesModel" "slot" "[I" ∈ wsX10_idle := by decide +kernel
  have f51 : Cond.fieldLink RX10 51 "BoundaryRulesModel" "parted" "[Z" ∈ wsX10_idle := by decide +kernel
  have f54 : Cond.fieldLink RX10 54 "BoundaryRulesModel" "other" "[I" ∈ wsX10_idle := by decide +kernel
  unfold wp_X10_idle at h
  refine ga_aload_n hR (pc := 0) 0 rfl rfl dX10_idle_0 ?_
  refine ga_iconst hR (pc := 1) (v := nI 0) (by decide) dX10_idle_1 ?_
  refine ga_callV hR (pc := 2) (As := [.int (nI 0)]) (rest := []) (st0 := [.int (nI 0), .ref (a 0)]) (b := (a 0)) 1 (c_X10_walks V a x_newRules x_newPlaces x_acts x_kept x_length x_next x_place x_isWrong x_parts x_ways x_rules x_places x_without x_rule x_takes x_behind x_slot x_stood x_parted (nI 0) _ h) (ga_same_v fun _ => rfl) gX10_idle_X10_walks rfl rfl rfl hd_X10_walks ⟨Nat.le_of_ble_eq_true rfl, Nat.le_of_ble_eq_true rfl⟩ rfl rfl (Nat.le_of_ble_eq_true rfl) ⟨Nat.zero_le _, Nat.zero_le _⟩ [0, 1, 2, 3, 4, 5, 6] rfl rfl 0 rfl rfl dX10_idle_2 ?_
  rintro _ _ ⟨⟨x_stood_1, x_parted_2⟩, rfl, rfl, h⟩
  refine ga_to [(a 0, .inr (10, [.int x_rules, .int x_places, .ref (a 1), .ref (a 2), .ref (a 3), .int x_newRules, .int x_newPlaces, .ref (a 4), .ref (a 5), .ref (a 6), .ref (a 7), .ref (a 8), .int x_acts, .int x_kept, .int x_length, .ref (a 9), .int x_next, .int x_place, .int x_isWrong, .ref (a 10), .ref (a 11), .ref (a 12), .int x_parts, .int x_without, .ref (a 13), .ref (a 14), .ref (a 15), .ref (a 16), .int x_ways, .ref (a 17), .ref (a 18), .ref (a 19), .ref (a 20)])), (a 1, .inl (V.2 0, 12, .inl x_rule)), (a 2, .inl (V.2 0, 10, .inl x_takes)), (a 3, .inl (V.2 0, 10, .inl x_behind)), (a 8, .inl (V.2 0, 732, .inl x_slot)), (a 13, .inl (V.2 0, 31, .inl x_stood_1)), (a 14, .inl (V.2 1, 31, .inl x_parted_2)), (a 15, .inl (V.2 0, 31, .inl x_other))] [] rfl rfl ?_
  try dsimp only at h
  refine ga_iconst hR (pc := 5) (v := nI 0) (by decide) dX10_idle_5 ?_
  refine ga_istore_n hR (pc := 6) (lv' := [(1, .int (nI 0)), (0, .ref (a 0))]) rfl (by decide) rfl dX10_idle_6 ?_
  have hJ := h (fun (x_other_3 : Nat → Int32) => G 0 0 [(a 0, .inr (10, [.int x_rules, .int x_places, .ref (a 1), .ref (a 2), .ref (a 3), .int x_newRules, .int x_newPlaces, .ref (a 4), .ref (a 5), .ref (a 6), .ref (a 7), .ref (a 8), .int x_acts, .int x_kept, .int x_length, .ref (a 9), .int x_next, .int x_place, .int x_isWrong, .ref (a 10), .ref (a 11), .ref (a 12), .int x_parts, .int x_without, .ref (a 13), .ref (a 14), .ref (a 15), .ref (a 16), .int x_ways, .ref (a 17), .ref (a 18), .ref (a 19), .ref (a 20)])), (a 1, .inl (V.2 0, 12, .inl x_rule)), (a 2, .inl (V.2 0, 10, .inl x_takes)), (a 3, .inl (V.2 0, 10, .inl x_behind)), (a 8, .inl (V.2 0, 732, .inl x_slot)), (a 13, .inl (V.2 0, 31, .inl x_stood_1)), (a 14, .inl (V.2 1, 31, .inl x_parted_2)), (a 15, .inl (V.2 0, 31, .inl x_other_3))] 44 [(0, .ref (a 0))] [])
  refine ga_bind hJ ?_ ?_
  · intro x_other_3 h
    show G 0 0 [(a 0, .inr (10, [.int x_rules, .int x_places, .ref (a 1), .ref (a 2), .ref (a 3), .int x_newRules, .int x_newPlaces, .ref (a 4), .ref (a 5), .ref (a 6), .ref (a 7), .ref (a 8), .int x_acts, .int x_kept, .int x_length, .ref (a 9), .int x_next, .int x_place, .int x_isWrong, .ref (a 10), .ref (a 11), .ref (a 12), .int x_parts, .int x_without, .ref (a 13), .ref (a 14), .ref (a 15), .ref (a 16), .int x_ways, .ref (a 17), .ref (a 18), .ref (a 19), .ref (a 20)])), (a 1, .inl (V.2 0, 12, .inl x_rule)), (a 2, .inl (V.2 0, 10, .inl x_takes)), (a 3, .inl (V.2 0, 10, .inl x_behind)), (a 8, .inl (V.2 0, 732, .inl x_slot)), (a 13, .inl (V.2 0, 31, .inl x_stood_1)), (a 14, .inl (V.2 1, 31, .inl x_parted_2)), (a 15, .inl (V.2 0, 31, .inl x_other_3))] 44 [(0, .ref (a 0))] []
    refine ga_iconst hR (pc := 44) (v := nI 0) (by decide) dX10_idle_44 ?_
    refine ga_istore_n hR (pc := 45) (lv' := [(1, .int (nI 0)), (0, .ref (a 0))]) rfl (by decide) rfl dX10_idle_45 ?_
    refine ga_iconst hR (pc := 46) (v := nI 0) (by decide) dX10_idle_46 ?_
    refine ga_istore_n hR (pc := 47) (lv' := [(2, .int (nI 0)), (1, .int (nI 0)), (0, .ref (a 0))]) rfl (by decide) rfl dX10_idle_47 ?_
    have hJ := h (fun (v1_5 : Int32) (x_without_6 : Int32) (x_stood_7 : Nat → Int32) (x_parted_8 : Nat → Int32) => G 0 0 [(a 0, .inr (10, [.int x_rules, .int x_places, .ref (a 1), .ref (a 2), .ref (a 3), .int x_newRules, .int x_newPlaces, .ref (a 4), .ref (a 5), .ref (a 6), .ref (a 7), .ref (a 8), .int x_acts, .int x_kept, .int x_length, .ref (a 9), .int x_next, .int x_place, .int x_isWrong, .ref (a 10), .ref (a 11), .ref (a 12), .int x_parts, .int x_without_6, .ref (a 13), .ref (a 14), .ref (a 15), .ref (a 16), .int x_ways, .ref (a 17), .ref (a 18), .ref (a 19), .ref (a 20)])), (a 1, .inl (V.2 0, 12, .inl x_rule)), (a 2, .inl (V.2 0, 10, .inl x_takes)), (a 3, .inl (V.2 0, 10, .inl x_behind)), (a 8, .inl (V.2 0, 732, .inl x_slot)), (a 13, .inl (V.2 0, 31, .inl x_stood_7)), (a 14, .inl (V.2 1, 31, .inl x_parted_8)), (a 15, .inl (V.2 0, 31, .inl x_other_3))] 147 [(0, .ref (a 0)), (1, .int v1_5)] [])
    refine ga_bind hJ ?_ ?_
    · intro v1_5 x_without_6 x_stood_7 x_parted_8 h
      show G 0 0 [(a 0, .inr (10, [.int x_rules, .int x_places, .ref (a 1), .ref (a 2), .ref (a 3), .int x_newRules, .int x_newPlaces, .ref (a 4), .ref (a 5), .ref (a 6), .ref (a 7), .ref (a 8), .int x_acts, .int x_kept, .int x_length, .ref (a 9), .int x_next, .int x_place, .int x_isWrong, .ref (a 10), .ref (a 11), .ref (a 12), .int x_parts, .int x_without_6, .ref (a 13), .ref (a 14), .ref (a 15), .ref (a 16), .int x_ways, .ref (a 17), .ref (a 18), .ref (a 19), .ref (a 20)])), (a 1, .inl (V.2 0, 12, .inl x_rule)), (a 2, .inl (V.2 0, 10, .inl x_takes)), (a 3, .inl (V.2 0, 10, .inl x_behind)), (a 8, .inl (V.2 0, 732, .inl x_slot)), (a 13, .inl (V.2 0, 31, .inl x_stood_7)), (a 14, .inl (V.2 1, 31, .inl x_parted_8)), (a 15, .inl (V.2 0, 31, .inl x_other_3))] 147 [(0, .ref (a 0)), (1, .int v1_5)] []
      refine ga_aload_n hR (pc := 147) 0 rfl rfl dX10_idle_147 ?_
      refine ga_iconst hR (pc := 148) (v := nI 0) (by decide) dX10_idle_148 ?_
      refine ga_putf hR (pc := 149) (ws' := [(a 0, .inr (10, [.int x_rules, .int x_places, .ref (a 1), .ref (a 2), .ref (a 3), .int x_newRules, .int x_newPlaces, .ref (a 4), .ref (a 5), .ref (a 6), .ref (a 7), .ref (a 8), .int x_acts, .int x_kept, .int x_length, .ref (a 9), .int x_next, .int x_place, .int x_isWrong, .ref (a 10), .ref (a 11), .ref (a 12), .int x_parts, .int (nI 0), .ref (a 13), .ref (a 14), .ref (a 15), .ref (a 16), .int x_ways, .ref (a 17), .ref (a 18), .ref (a 19), .ref (a 20)])), (a 1, .inl (V.2 0, 12, .inl x_rule)), (a 2, .inl (V.2 0, 10, .inl x_takes)), (a 3, .inl (V.2 0, 10, .inl x_behind)), (a 8, .inl (V.2 0, 732, .inl x_slot)), (a 13, .inl (V.2 0, 31, .inl x_stood_7)), (a 14, .inl (V.2 1, 31, .inl x_parted_8)), (a 15, .inl (V.2 0, 31, .inl x_other_3))]) 0 rfl rfl hinX10 23 (by decide) f230 tyX10_ok nmX10 rfl rfl rfl (Nat.le_of_ble_eq_true rfl) rfl dX10_idle_149 ?_
      refine ga_iload_n hR (pc := 152) 1 rfl rfl dX10_idle_152 ?_
      exact ga_iret hE dX10_idle_153 rfl (ga_ri (nI 0, x_stood_7, x_parted_8, x_other_3) rfl h)
    · intro h
      obtain ⟨n, h⟩ := h
      have L48 : ∀ (n : Nat) (v1_31 : Int32) (v2_32 : Int32) (x_without_33 : Int32) (x_stood_34 : Nat → Int32) (x_parted_35 : Nat → Int32), lp_X10_idle_48 x_rules x_places x_rule x_takes x_behind x_slot x_other_3 (fun (v1_5 : Int32) (x_without_6 : Int32) (x_stood_7 : Nat → Int32) (x_parted_8 : Nat → Int32) => G 0 0 [(a 0, .inr (10, [.int x_rules, .int x_places, .ref (a 1), .ref (a 2), .ref (a 3), .int x_newRules, .int x_newPlaces, .ref (a 4), .ref (a 5), .ref (a 6), .ref (a 7), .ref (a 8), .int x_acts, .int x_kept, .int x_length, .ref (a 9), .int x_next, .int x_place, .int x_isWrong, .ref (a 10), .ref (a 11), .ref (a 12), .int x_parts, .int x_without_6, .ref (a 13), .ref (a 14), .ref (a 15), .ref (a 16), .int x_ways, .ref (a 17), .ref (a 18), .ref (a 19), .ref (a 20)])), (a 1, .inl (V.2 0, 12, .inl x_rule)), (a 2, .inl (V.2 0, 10, .inl x_takes)), (a 3, .inl (V.2 0, 10, .inl x_behind)), (a 8, .inl (V.2 0, 732, .inl x_slot)), (a 13, .inl (V.2 0, 31, .inl x_stood_7)), (a 14, .inl (V.2 1, 31, .inl x_parted_8)), (a 15, .inl (V.2 0, 31, .inl x_other_3))] 147 [(0, .ref (a 0)), (1, .int v1_5)] []) n v1_31 v2_32 x_without_33 x_stood_34 x_parted_35 → G 0 0 [(a 0, .inr (10, [.int x_rules, .int x_places, .ref (a 1), .ref (a 2), .ref (a 3), .int x_newRules, .int x_newPlaces, .ref (a 4), .ref (a 5), .ref (a 6), .ref (a 7), .ref (a 8), .int x_acts, .int x_kept, .int x_length, .ref (a 9), .int x_next, .int x_place, .int x_isWrong, .ref (a 10), .ref (a 11), .ref (a 12), .int x_parts, .int x_without_33, .ref (a 13), .ref (a 14), .ref (a 15), .ref (a 16), .int x_ways, .ref (a 17), .ref (a 18), .ref (a 19), .ref (a 20)])), (a 1, .inl (V.2 0, 12, .inl x_rule)), (a 2, .inl (V.2 0, 10, .inl x_takes)), (a 3, .inl (V.2 0, 10, .inl x_behind)), (a 8, .inl (V.2 0, 732, .inl x_slot)), (a 13, .inl (V.2 0, 31, .inl x_stood_34)), (a 14, .inl (V.2 1, 31, .inl x_parted_35)), (a 15, .inl (V.2 0, 31, .inl x_other_3))] 48 [(0, .ref (a 0)), (1, .int v1_31), (2, .int v2_32)] [] := by
        intro n
        induction n with
        | zero => exact fun _ _ _ _ _ h => False.elim h
        | succ n ih =>
          intro v1_31 v2_32 x_without_33 x_stood_34 x_parted_35 h
          rw [lp_X10_idle_48] at h
          refine ga_iload_n hR (pc := 48) 2 rfl rfl dX10_idle_48 ?_
          refine ga_aload_n hR (pc := 49) 0 rfl rfl dX10_idle_49 ?_
          refine ga_get hR (pc := 50) 0 rfl rfl hinX10 0 (by decide) f118 rfl dX10_idle_50 ?_
          refine ga_icmp_ge hR (pc := 53) 147 (by decide) dX10_idle_53 (fun c53 => ?_) (fun c53 => ?_)
          · replace h := h.1 c53
            exact ga_lv hR [0, 1] rfl h
          · replace h := h.2 c53
            refine ga_aload_n hR (pc := 56) 0 rfl rfl dX10_idle_56 ?_
            refine ga_iconst hR (pc := 57) (v := nI 1) (by decide) dX10_idle_57 ?_
            refine ga_iload_n hR (pc := 58) 2 rfl rfl dX10_idle_58 ?_
            refine ga_ishl hR (pc := 59) dX10_idle_59 ?_
            refine ga_topi (fun x_without_36 ex_without_36 => ?_)
            replace h := h x_without_36 ex_without_36
            refine ga_putf hR (pc := 60) (ws' := [(a 0, .inr (10, [.int x_rules, .int x_places, .ref (a 1), .ref (a 2), .ref (a 3), .int x_newRules, .int x_newPlaces, .ref (a 4), .ref (a 5), .ref (a 6), .ref (a 7), .ref (a 8), .int x_acts, .int x_kept, .int x_length, .ref (a 9), .int x_next, .int x_place, .int x_isWrong, .ref (a 10), .ref (a 11), .ref (a 12), .int x_parts, .int x_without_36, .ref (a 13), .ref (a 14), .ref (a 15), .ref (a 16), .int x_ways, .ref (a 17), .ref (a 18), .ref (a 19), .ref (a 20)])), (a 1, .inl (V.2 0, 12, .inl x_rule)), (a 2, .inl (V.2 0, 10, .inl x_takes)), (a 3, .inl (V.2 0, 10, .inl x_behind)), (a 8, .inl (V.2 0, 732, .inl x_slot)), (a 13, .inl (V.2 0, 31, .inl x_stood_34)), (a 14, .inl (V.2 1, 31, .inl x_parted_35)), (a 15, .inl (V.2 0, 31, .inl x_other_3))]) 0 rfl rfl hinX10 23 (by decide) f230 tyX10_ok nmX10 rfl rfl rfl (Nat.le_of_ble_eq_true rfl) rfl dX10_idle_60 ?_
            refine ga_aload_n hR (pc := 63) 0 rfl rfl dX10_idle_63 ?_
            refine ga_iconst hR (pc := 64) (v := nI 0) (by decide) dX10_idle_64 ?_
            refine ga_callV hR (pc := 65) (As := [.int (nI 0)]) (rest := []) (st0 := [.int (nI 0), .ref (a 0)]) (b := (a 0)) 1 (c_X10_walks V a x_newRules x_newPlaces x_acts x_kept x_length x_next x_place x_isWrong x_parts x_ways x_rules x_places x_without_36 x_rule x_takes x_behind x_slot x_stood_34 x_parted_35 (nI 0) _ h) (ga_same_v fun _ => rfl) gX10_idle_X10_walks rfl rfl rfl hd_X10_walks ⟨Nat.le_of_ble_eq_true rfl, Nat.le_of_ble_eq_true rfl⟩ rfl rfl (Nat.le_of_ble_eq_true rfl) ⟨Nat.zero_le _, Nat.zero_le _⟩ [0, 1, 2, 3, 4, 5, 6] rfl rfl 0 rfl rfl dX10_idle_65 ?_
            rintro _ _ ⟨⟨x_stood_37, x_parted_38⟩, rfl, rfl, h⟩
            refine ga_to [(a 0, .inr (10, [.int x_rules, .int x_places, .ref (a 1), .ref (a 2), .ref (a 3), .int x_newRules, .int x_newPlaces, .ref (a 4), .ref (a 5), .ref (a 6), .ref (a 7), .ref (a 8), .int x_acts, .int x_kept, .int x_length, .ref (a 9), .int x_next, .int x_place, .int x_isWrong, .ref (a 10), .ref (a 11), .ref (a 12), .int x_parts, .int x_without_36, .ref (a 13), .ref (a 14), .ref (a 15), .ref (a 16), .int x_ways, .ref (a 17), .ref (a 18), .ref (a 19), .ref (a 20)])), (a 1, .inl (V.2 0, 12, .inl x_rule)), (a 2, .inl (V.2 0, 10, .inl x_takes)), (a 3, .inl (V.2 0, 10, .inl x_behind)), (a 8, .inl (V.2 0, 732, .inl x_slot)), (a 13, .inl (V.2 0, 31, .inl x_stood_37)), (a 14, .inl (V.2 1, 31, .inl x_parted_38)), (a 15, .inl (V.2 0, 31, .inl x_other_3))] [] rfl rfl ?_
            try dsimp only at h
            refine ga_iconst hR (pc := 68) (v := nI 1) (by decide) dX10_idle_68 ?_
            refine ga_istore_n hR (pc := 69) (lv' := [(3, .int (nI 1)), (0, .ref (a 0)), (1, .int v1_31), (2, .int v2_32)]) rfl (by decide) rfl dX10_idle_69 ?_
            refine ga_iconst hR (pc := 70) (v := nI 0) (by decide) dX10_idle_70 ?_
            refine ga_istore hR (pc := 71) (lv' := [(4, .int (nI 0)), (3, .int (nI 1)), (0, .ref (a 0)), (1, .int v1_31), (2, .int v2_32)]) (by decide) rfl dX10_idle_71 ?_
            have hJ := h (fun (v3_39 : Int32) => G 0 0 [(a 0, .inr (10, [.int x_rules, .int x_places, .ref (a 1), .ref (a 2), .ref (a 3), .int x_newRules, .int x_newPlaces, .ref (a 4), .ref (a 5), .ref (a 6), .ref (a 7), .ref (a 8), .int x_acts, .int x_kept, .int x_length, .ref (a 9), .int x_next, .int x_place, .int x_isWrong, .ref (a 10), .ref (a 11), .ref (a 12), .int x_parts, .int x_without_36, .ref (a 13), .ref (a 14), .ref (a 15), .ref (a 16), .int x_ways, .ref (a 17), .ref (a 18), .ref (a 19), .ref (a 20)])), (a 1, .inl (V.2 0, 12, .inl x_rule)), (a 2, .inl (V.2 0, 10, .inl x_takes)), (a 3, .inl (V.2 0, 10, .inl x_behind)), (a 8, .inl (V.2 0, 732, .inl x_slot)), (a 13, .inl (V.2 0, 31, .inl x_stood_37)), (a 14, .inl (V.2 1, 31, .inl x_parted_38)), (a 15, .inl (V.2 0, 31, .inl x_other_3))] 127 [(0, .ref (a 0)), (1, .int v1_31), (2, .int v2_32), (3, .int v3_39)] [])
            refine ga_bind hJ ?_ ?_
            · intro v3_39 h
              show G 0 0 [(a 0, .inr (10, [.int x_rules, .int x_places, .ref (a 1), .ref (a 2), .ref (a 3), .int x_newRules, .int x_newPlaces, .ref (a 4), .ref (a 5), .ref (a 6), .ref (a 7), .ref (a 8), .int x_acts, .int x_kept, .int x_length, .ref (a 9), .int x_next, .int x_place, .int x_isWrong, .ref (a 10), .ref (a 11), .ref (a 12), .int x_parts, .int x_without_36, .ref (a 13), .ref (a 14), .ref (a 15), .ref (a 16), .int x_ways, .ref (a 17), .ref (a 18), .ref (a 19), .ref (a 20)])), (a 1, .inl (V.2 0, 12, .inl x_rule)), (a 2, .inl (V.2 0, 10, .inl x_takes)), (a 3, .inl (V.2 0, 10, .inl x_behind)), (a 8, .inl (V.2 0, 732, .inl x_slot)), (a 13, .inl (V.2 0, 31, .inl x_stood_37)), (a 14, .inl (V.2 1, 31, .inl x_parted_38)), (a 15, .inl (V.2 0, 31, .inl x_other_3))] 127 [(0, .ref (a 0)), (1, .int v1_31), (2, .int v2_32), (3, .int v3_39)] []
              refine ga_iload_n hR (pc := 127) 1 rfl rfl dX10_idle_127 ?_
              refine ga_iload_n hR (pc := 128) 3 rfl rfl dX10_idle_128 ?_
              refine ga_if_eq hR (pc := 129) 138 (by decide) dX10_idle_129 (fun c129 => ?_) (fun c129 => ?_)
              · replace h := h.1 c129
                refine ga_iconst hR (pc := 138) (v := nI 0) (by decide) dX10_idle_138 ?_
                refine ga_ior hR (pc := 139) dX10_idle_139 ?_
                refine ga_topi (fun v1_41 ev1_41 => ?_)
                replace h := h v1_41 ev1_41
                refine ga_istore_n hR (pc := 140) (lv' := [(1, .int v1_41), (0, .ref (a 0)), (2, .int v2_32), (3, .int v3_39)]) rfl (by decide) rfl dX10_idle_140 ?_
                obtain ⟨v2_42, ev2_42⟩ : ∃ v : Int32, v = v2_32 + (nI 1) := ⟨_, rfl⟩
                replace h := h v2_42 ev2_42
                refine ga_iinc hR (pc := 141) (lv' := [(2, .int v2_42), (1, .int v1_41), (0, .ref (a 0)), (3, .int v3_39)]) 2 (by decide) rfl ev2_42 (by decide) rfl dX10_idle_141 ?_
                refine ga_goto hR (pc := 144) 48 (by decide) dX10_idle_144 ?_
                exact ga_lv hR [2, 1, 0] rfl (ih _ _ _ _ _ h)
              · replace h := h.2 c129
                refine ga_iconst hR (pc := 132) (v := nI 1) (by decide) dX10_idle_132 ?_
                refine ga_iload_n hR (pc := 133) 2 rfl rfl dX10_idle_133 ?_
                refine ga_ishl hR (pc := 134) dX10_idle_134 ?_
                refine ga_goto hR (pc := 135) 139 (by decide) dX10_idle_135 ?_
                refine ga_ior hR (pc := 139) dX10_idle_139 ?_
                refine ga_topi (fun v1_43 ev1_43 => ?_)
                replace h := h v1_43 ev1_43
                refine ga_istore_n hR (pc := 140) (lv' := [(1, .int v1_43), (0, .ref (a 0)), (2, .int v2_32), (3, .int v3_39)]) rfl (by decide) rfl dX10_idle_140 ?_
                obtain ⟨v2_44, ev2_44⟩ : ∃ v : Int32, v = v2_32 + (nI 1) := ⟨_, rfl⟩
                replace h := h v2_44 ev2_44
                refine ga_iinc hR (pc := 141) (lv' := [(2, .int v2_44), (1, .int v1_43), (0, .ref (a 0)), (3, .int v3_39)]) 2 (by decide) rfl ev2_44 (by decide) rfl dX10_idle_141 ?_
                refine ga_goto hR (pc := 144) 48 (by decide) dX10_idle_144 ?_
                exact ga_lv hR [2, 1, 0] rfl (ih _ _ _ _ _ h)
            · intro h
              obtain ⟨n, h⟩ := h
              have L73 : ∀ (n : Nat) (v3_45 : Int32) (v4_46 : Int32), lp_X10_idle_73 x_slot x_parted_38 x_other_3 (fun (v3_39 : Int32) => G 0 0 [(a 0, .inr (10, [.int x_rules, .int x_places, .ref (a 1), .ref (a 2), .ref (a 3), .int x_newRules, .int x_newPlaces, .ref (a 4), .ref (a 5), .ref (a 6), .ref (a 7), .ref (a 8), .int x_acts, .int x_kept, .int x_length, .ref (a 9), .int x_next, .int x_place, .int x_isWrong, .ref (a 10), .ref (a 11), .ref (a 12), .int x_parts, .int x_without_36, .ref (a 13), .ref (a 14), .ref (a 15), .ref (a 16), .int x_ways, .ref (a 17), .ref (a 18), .ref (a 19), .ref (a 20)])), (a 1, .inl (V.2 0, 12, .inl x_rule)), (a 2, .inl (V.2 0, 10, .inl x_takes)), (a 3, .inl (V.2 0, 10, .inl x_behind)), (a 8, .inl (V.2 0, 732, .inl x_slot)), (a 13, .inl (V.2 0, 31, .inl x_stood_37)), (a 14, .inl (V.2 1, 31, .inl x_parted_38)), (a 15, .inl (V.2 0, 31, .inl x_other_3))] 127 [(0, .ref (a 0)), (1, .int v1_31), (2, .int v2_32), (3, .int v3_39)] []) n v3_45 v4_46 → G 0 0 [(a 0, .inr (10, [.int x_rules, .int x_places, .ref (a 1), .ref (a 2), .ref (a 3), .int x_newRules, .int x_newPlaces, .ref (a 4), .ref (a 5), .ref (a 6), .ref (a 7), .ref (a 8), .int x_acts, .int x_kept, .int x_length, .ref (a 9), .int x_next, .int x_place, .int x_isWrong, .ref (a 10), .ref (a 11), .ref (a 12), .int x_parts, .int x_without_36, .ref (a 13), .ref (a 14), .ref (a 15), .ref (a 16), .int x_ways, .ref (a 17), .ref (a 18), .ref (a 19), .ref (a 20)])), (a 1, .inl (V.2 0, 12, .inl x_rule)), (a 2, .inl (V.2 0, 10, .inl x_takes)), (a 3, .inl (V.2 0, 10, .inl x_behind)), (a 8, .inl (V.2 0, 732, .inl x_slot)), (a 13, .inl (V.2 0, 31, .inl x_stood_37)), (a 14, .inl (V.2 1, 31, .inl x_parted_38)), (a 15, .inl (V.2 0, 31, .inl x_other_3))] 73 [(0, .ref (a 0)), (1, .int v1_31), (2, .int v2_32), (3, .int v3_45), (4, .int v4_46)] [] := by
                intro n
                induction n with
                | zero => exact fun _ _ h => False.elim h
                | succ n ih =>
                  intro v3_45 v4_46 h
                  rw [lp_X10_idle_73] at h
                  refine ga_iload hR (pc := 73) 4 rfl dX10_idle_73 ?_
                  refine ga_aload_n hR (pc := 75) 0 rfl rfl dX10_idle_75 ?_
                  refine ga_get hR (pc := 76) 0 rfl rfl hinX10 11 (by decide) f31 rfl dX10_idle_76 ?_
                  refine ga_bipush hR (pc := 79) (v := nI 30) (by decide) dX10_idle_79 ?_
                  refine ga_iald hR (pc := 81) 4 rfl h.1 dX10_idle_81 ?_
                  replace h := h.2
                  refine ga_icmp_gt hR (pc := 82) 127 (by decide) dX10_idle_82 (fun c82 => ?_) (fun c82 => ?_)
                  · replace h := h.1 c82
                    exact ga_lv hR [0, 1, 2, 3] rfl h
                  · replace h := h.2 c82
                    refine ga_iload_n hR (pc := 85) 3 rfl rfl dX10_idle_85 ?_
                    refine ga_if_eq hR (pc := 86) 119 (by decide) dX10_idle_86 (fun c86 => ?_) (fun c86 => ?_)
                    · replace h := h.1 c86
                      refine ga_iconst hR (pc := 119) (v := nI 0) (by decide) dX10_idle_119 ?_
                      refine ga_istore_n hR (pc := 120) (lv' := [(3, .int (nI 0)), (0, .ref (a 0)), (1, .int v1_31), (2, .int v2_32), (4, .int v4_46)]) rfl (by decide) rfl dX10_idle_120 ?_
                      obtain ⟨v4_47, ev4_47⟩ : ∃ v : Int32, v = v4_46 + (nI 1) := ⟨_, rfl⟩
                      replace h := h v4_47 ev4_47
                      refine ga_iinc hR (pc := 121) (lv' := [(4, .int v4_47), (3, .int (nI 0)), (0, .ref (a 0)), (1, .int v1_31), (2, .int v2_32)]) 4 (by decide) rfl ev4_47 (by decide) rfl dX10_idle_121 ?_
                      refine ga_goto hR (pc := 124) 73 (by decide) dX10_idle_124 ?_
                      exact ga_lv hR [2, 3, 4, 1, 0] rfl (ih _ _ h)
                    · replace h := h.2 c86
                      refine ga_aload_n hR (pc := 89) 0 rfl rfl dX10_idle_89 ?_
                      refine ga_get hR (pc := 90) 0 rfl rfl hinX10 25 (by decide) f51 rfl dX10_idle_90 ?_
                      refine ga_iload hR (pc := 93) 4 rfl dX10_idle_93 ?_
                      refine ga_zald hR (pc := 95) 6 rfl h.1 dX10_idle_95 ?_
                      replace h := h.2
                      refine ga_aload_n hR (pc := 96) 0 rfl rfl dX10_idle_96 ?_
                      refine ga_get hR (pc := 97) 0 rfl rfl hinX10 26 (by decide) f54 rfl dX10_idle_97 ?_
                      refine ga_iload hR (pc := 100) 4 rfl dX10_idle_100 ?_
                      refine ga_iald hR (pc := 102) 7 rfl h.1 dX10_idle_102 ?_
                      replace h := h.2
                      refine ga_iconst hR (pc := 103) (v := nI 1) (by decide) dX10_idle_103 ?_
                      have hJ := h (fun (s1_48 : Int32) => G 0 0 [(a 0, .inr (10, [.int x_rules, .int x_places, .ref (a 1), .ref (a 2), .ref (a 3), .int x_newRules, .int x_newPlaces, .ref (a 4), .ref (a 5), .ref (a 6), .ref (a 7), .ref (a 8), .int x_acts, .int x_kept, .int x_length, .ref (a 9), .int x_next, .int x_place, .int x_isWrong, .ref (a 10), .ref (a 11), .ref (a 12), .int x_parts, .int x_without_36, .ref (a 13), .ref (a 14), .ref (a 15), .ref (a 16), .int x_ways, .ref (a 17), .ref (a 18), .ref (a 19), .ref (a 20)])), (a 1, .inl (V.2 0, 12, .inl x_rule)), (a 2, .inl (V.2 0, 10, .inl x_takes)), (a 3, .inl (V.2 0, 10, .inl x_behind)), (a 8, .inl (V.2 0, 732, .inl x_slot)), (a 13, .inl (V.2 0, 31, .inl x_stood_37)), (a 14, .inl (V.2 1, 31, .inl x_parted_38)), (a 15, .inl (V.2 0, 31, .inl x_other_3))] 112 [(0, .ref (a 0)), (1, .int v1_31), (2, .int v2_32), (4, .int v4_46)] [.int s1_48, .int (x_parted_38 v4_46.toNatClampNeg)])
                      refine ga_bind hJ ?_ ?_
                      · intro s1_48 h
                        show G 0 0 [(a 0, .inr (10, [.int x_rules, .int x_places, .ref (a 1), .ref (a 2), .ref (a 3), .int x_newRules, .int x_newPlaces, .ref (a 4), .ref (a 5), .ref (a 6), .ref (a 7), .ref (a 8), .int x_acts, .int x_kept, .int x_length, .ref (a 9), .int x_next, .int x_place, .int x_isWrong, .ref (a 10), .ref (a 11), .ref (a 12), .int x_parts, .int x_without_36, .ref (a 13), .ref (a 14), .ref (a 15), .ref (a 16), .int x_ways, .ref (a 17), .ref (a 18), .ref (a 19), .ref (a 20)])), (a 1, .inl (V.2 0, 12, .inl x_rule)), (a 2, .inl (V.2 0, 10, .inl x_takes)), (a 3, .inl (V.2 0, 10, .inl x_behind)), (a 8, .inl (V.2 0, 732, .inl x_slot)), (a 13, .inl (V.2 0, 31, .inl x_stood_37)), (a 14, .inl (V.2 1, 31, .inl x_parted_38)), (a 15, .inl (V.2 0, 31, .inl x_other_3))] 112 [(0, .ref (a 0)), (1, .int v1_31), (2, .int v2_32), (4, .int v4_46)] [.int s1_48, .int (x_parted_38 v4_46.toNatClampNeg)]
                        refine ga_icmp_ne hR (pc := 112) 119 (by decide) dX10_idle_112 (fun c112 => ?_) (fun c112 => ?_)
                        · replace h := h.1 c112
                          refine ga_iconst hR (pc := 119) (v := nI 0) (by decide) dX10_idle_119 ?_
                          refine ga_istore_n hR (pc := 120) (lv' := [(3, .int (nI 0)), (0, .ref (a 0)), (1, .int v1_31), (2, .int v2_32), (4, .int v4_46)]) rfl (by decide) rfl dX10_idle_120 ?_
                          obtain ⟨v4_50, ev4_50⟩ : ∃ v : Int32, v = v4_46 + (nI 1) := ⟨_, rfl⟩
                          replace h := h v4_50 ev4_50
                          refine ga_iinc hR (pc := 121) (lv' := [(4, .int v4_50), (3, .int (nI 0)), (0, .ref (a 0)), (1, .int v1_31), (2, .int v2_32)]) 4 (by decide) rfl ev4_50 (by decide) rfl dX10_idle_121 ?_
                          refine ga_goto hR (pc := 124) 73 (by decide) dX10_idle_124 ?_
                          exact ga_lv hR [2, 3, 4, 1, 0] rfl (ih _ _ h)
                        · replace h := h.2 c112
                          refine ga_iconst hR (pc := 115) (v := nI 1) (by decide) dX10_idle_115 ?_
                          refine ga_goto hR (pc := 116) 120 (by decide) dX10_idle_116 ?_
                          refine ga_istore_n hR (pc := 120) (lv' := [(3, .int (nI 1)), (0, .ref (a 0)), (1, .int v1_31), (2, .int v2_32), (4, .int v4_46)]) rfl (by decide) rfl dX10_idle_120 ?_
                          obtain ⟨v4_51, ev4_51⟩ : ∃ v : Int32, v = v4_46 + (nI 1) := ⟨_, rfl⟩
                          replace h := h v4_51 ev4_51
                          refine ga_iinc hR (pc := 121) (lv' := [(4, .int v4_51), (3, .int (nI 1)), (0, .ref (a 0)), (1, .int v1_31), (2, .int v2_32)]) 4 (by decide) rfl ev4_51 (by decide) rfl dX10_idle_121 ?_
                          refine ga_goto hR (pc := 124) 73 (by decide) dX10_idle_124 ?_
                          exact ga_lv hR [2, 3, 4, 1, 0] rfl (ih _ _ h)
                      · intro h
                        refine ga_icmp_ne hR (pc := 104) 111 (by decide) dX10_idle_104 (fun c104 => ?_) (fun c104 => ?_)
                        · replace h := h.1 c104
                          refine ga_iconst hR (pc := 111) (v := nI 0) (by decide) dX10_idle_111 ?_
                          exact ga_lv hR [0, 1, 2, 4] rfl h
                        · replace h := h.2 c104
                          refine ga_iconst hR (pc := 107) (v := nI 1) (by decide) dX10_idle_107 ?_
                          refine ga_goto hR (pc := 108) 112 (by decide) dX10_idle_108 ?_
                          exact ga_lv hR [0, 1, 2, 4] rfl h
              exact ga_lv hR [2, 3, 4, 1, 0] rfl (L73 n _ _ h)
      exact ga_lv hR [2, 1, 0] rfl (L48 n _ _ _ _ _ h)
  · intro h
    obtain ⟨n, h⟩ := h
    have L7 : ∀ (n : Nat) (v1_56 : Int32) (x_other_57 : Nat → Int32), lp_X10_idle_7 x_slot x_parted_2 (fun (x_other_3 : Nat → Int32) => G 0 0 [(a 0, .inr (10, [.int x_rules, .int x_places, .ref (a 1), .ref (a 2), .ref (a 3), .int x_newRules, .int x_newPlaces, .ref (a 4), .ref (a 5), .ref (a 6), .ref (a 7), .ref (a 8), .int x_acts, .int x_kept, .int x_length, .ref (a 9), .int x_next, .int x_place, .int x_isWrong, .ref (a 10), .ref (a 11), .ref (a 12), .int x_parts, .int x_without, .ref (a 13), .ref (a 14), .ref (a 15), .ref (a 16), .int x_ways, .ref (a 17), .ref (a 18), .ref (a 19), .ref (a 20)])), (a 1, .inl (V.2 0, 12, .inl x_rule)), (a 2, .inl (V.2 0, 10, .inl x_takes)), (a 3, .inl (V.2 0, 10, .inl x_behind)), (a 8, .inl (V.2 0, 732, .inl x_slot)), (a 13, .inl (V.2 0, 31, .inl x_stood_1)), (a 14, .inl (V.2 1, 31, .inl x_parted_2)), (a 15, .inl (V.2 0, 31, .inl x_other_3))] 44 [(0, .ref (a 0))] []) n v1_56 x_other_57 → G 0 0 [(a 0, .inr (10, [.int x_rules, .int x_places, .ref (a 1), .ref (a 2), .ref (a 3), .int x_newRules, .int x_newPlaces, .ref (a 4), .ref (a 5), .ref (a 6), .ref (a 7), .ref (a 8), .int x_acts, .int x_kept, .int x_length, .ref (a 9), .int x_next, .int x_place, .int x_isWrong, .ref (a 10), .ref (a 11), .ref (a 12), .int x_parts, .int x_without, .ref (a 13), .ref (a 14), .ref (a 15), .ref (a 16), .int x_ways, .ref (a 17), .ref (a 18), .ref (a 19), .ref (a 20)])), (a 1, .inl (V.2 0, 12, .inl x_rule)), (a 2, .inl (V.2 0, 10, .inl x_takes)), (a 3, .inl (V.2 0, 10, .inl x_behind)), (a 8, .inl (V.2 0, 732, .inl x_slot)), (a 13, .inl (V.2 0, 31, .inl x_stood_1)), (a 14, .inl (V.2 1, 31, .inl x_parted_2)), (a 15, .inl (V.2 0, 31, .inl x_other_57))] 7 [(0, .ref (a 0)), (1, .int v1_56)] [] := by
      intro n
      induction n with
      | zero => exact fun _ _ h => False.elim h
      | succ n ih =>
        intro v1_56 x_other_57 h
        rw [lp_X10_idle_7] at h
        refine ga_iload_n hR (pc := 7) 1 rfl rfl dX10_idle_7 ?_
        refine ga_aload_n hR (pc := 8) 0 rfl rfl dX10_idle_8 ?_
        refine ga_get hR (pc := 9) 0 rfl rfl hinX10 11 (by decide) f31 rfl dX10_idle_9 ?_
        refine ga_bipush hR (pc := 12) (v := nI 30) (by decide) dX10_idle_12 ?_
        refine ga_iald hR (pc := 14) 4 rfl h.1 dX10_idle_14 ?_
        replace h := h.2
        refine ga_icmp_gt hR (pc := 15) 44 (by decide) dX10_idle_15 (fun c15 => ?_) (fun c15 => ?_)
        · replace h := h.1 c15
          exact ga_lv hR [0] rfl h
        · replace h := h.2 c15
          refine ga_aload_n hR (pc := 18) 0 rfl rfl dX10_idle_18 ?_
          refine ga_get hR (pc := 19) 0 rfl rfl hinX10 26 (by decide) f54 rfl dX10_idle_19 ?_
          refine ga_iload_n hR (pc := 22) 1 rfl rfl dX10_idle_22 ?_
          refine ga_aload_n hR (pc := 23) 0 rfl rfl dX10_idle_23 ?_
          refine ga_get hR (pc := 24) 0 rfl rfl hinX10 25 (by decide) f51 rfl dX10_idle_24 ?_
          refine ga_iload_n hR (pc := 27) 1 rfl rfl dX10_idle_27 ?_
          refine ga_zald hR (pc := 28) 6 rfl h.1 dX10_idle_28 ?_
          replace h := h.2
          refine ga_if_eq hR (pc := 29) 36 (by decide) dX10_idle_29 (fun c29 => ?_) (fun c29 => ?_)
          · replace h := h.1 c29
            refine ga_iconst hR (pc := 36) (v := nI 0) (by decide) dX10_idle_36 ?_
            refine ga_iast hR (pc := 37) (ws' := [(a 0, .inr (10, [.int x_rules, .int x_places, .ref (a 1), .ref (a 2), .ref (a 3), .int x_newRules, .int x_newPlaces, .ref (a 4), .ref (a 5), .ref (a 6), .ref (a 7), .ref (a 8), .int x_acts, .int x_kept, .int x_length, .ref (a 9), .int x_next, .int x_place, .int x_isWrong, .ref (a 10), .ref (a 11), .ref (a 12), .int x_parts, .int x_without, .ref (a 13), .ref (a 14), .ref (a 15), .ref (a 16), .int x_ways, .ref (a 17), .ref (a 18), .ref (a 19), .ref (a 20)])), (a 1, .inl (V.2 0, 12, .inl x_rule)), (a 2, .inl (V.2 0, 10, .inl x_takes)), (a 3, .inl (V.2 0, 10, .inl x_behind)), (a 8, .inl (V.2 0, 732, .inl x_slot)), (a 13, .inl (V.2 0, 31, .inl x_stood_1)), (a 14, .inl (V.2 1, 31, .inl x_parted_2)), (a 15, .inl (V.2 0, 31, .inl ((upd x_other_57 v1_56.toNatClampNeg (nI 0)))))]) 7 rfl h.1 rfl dX10_idle_37 ?_
            replace h := h.2
            obtain ⟨x_other_58, ex_other_58⟩ : ∃ f : Nat → Int32, f = upd x_other_57 v1_56.toNatClampNeg (nI 0) := ⟨_, rfl⟩
            refine ga_cast (ws' := [(a 0, .inr (10, [.int x_rules, .int x_places, .ref (a 1), .ref (a 2), .ref (a 3), .int x_newRules, .int x_newPlaces, .ref (a 4), .ref (a 5), .ref (a 6), .ref (a 7), .ref (a 8), .int x_acts, .int x_kept, .int x_length, .ref (a 9), .int x_next, .int x_place, .int x_isWrong, .ref (a 10), .ref (a 11), .ref (a 12), .int x_parts, .int x_without, .ref (a 13), .ref (a 14), .ref (a 15), .ref (a 16), .int x_ways, .ref (a 17), .ref (a 18), .ref (a 19), .ref (a 20)])), (a 1, .inl (V.2 0, 12, .inl x_rule)), (a 2, .inl (V.2 0, 10, .inl x_takes)), (a 3, .inl (V.2 0, 10, .inl x_behind)), (a 8, .inl (V.2 0, 732, .inl x_slot)), (a 13, .inl (V.2 0, 31, .inl x_stood_1)), (a 14, .inl (V.2 1, 31, .inl x_parted_2)), (a 15, .inl (V.2 0, 31, .inl x_other_58))]) (by rw [ex_other_58]) rfl ?_
            replace h := h x_other_58 ex_other_58
            obtain ⟨v1_59, ev1_59⟩ : ∃ v : Int32, v = v1_56 + (nI 1) := ⟨_, rfl⟩
            replace h := h v1_59 ev1_59
            refine ga_iinc hR (pc := 38) (lv' := [(1, .int v1_59), (0, .ref (a 0))]) 1 (by decide) rfl ev1_59 (by decide) rfl dX10_idle_38 ?_
            refine ga_goto hR (pc := 41) 7 (by decide) dX10_idle_41 ?_
            exact ga_lv hR [1, 0] rfl (ih _ _ h)
          · replace h := h.2 c29
            refine ga_iconst hR (pc := 32) (v := nI 1) (by decide) dX10_idle_32 ?_
            refine ga_goto hR (pc := 33) 37 (by decide) dX10_idle_33 ?_
            refine ga_iast hR (pc := 37) (ws' := [(a 0, .inr (10, [.int x_rules, .int x_places, .ref (a 1), .ref (a 2), .ref (a 3), .int x_newRules, .int x_newPlaces, .ref (a 4), .ref (a 5), .ref (a 6), .ref (a 7), .ref (a 8), .int x_acts, .int x_kept, .int x_length, .ref (a 9), .int x_next, .int x_place, .int x_isWrong, .ref (a 10), .ref (a 11), .ref (a 12), .int x_parts, .int x_without, .ref (a 13), .ref (a 14), .ref (a 15), .ref (a 16), .int x_ways, .ref (a 17), .ref (a 18), .ref (a 19), .ref (a 20)])), (a 1, .inl (V.2 0, 12, .inl x_rule)), (a 2, .inl (V.2 0, 10, .inl x_takes)), (a 3, .inl (V.2 0, 10, .inl x_behind)), (a 8, .inl (V.2 0, 732, .inl x_slot)), (a 13, .inl (V.2 0, 31, .inl x_stood_1)), (a 14, .inl (V.2 1, 31, .inl x_parted_2)), (a 15, .inl (V.2 0, 31, .inl ((upd x_other_57 v1_56.toNatClampNeg (nI 1)))))]) 7 rfl h.1 rfl dX10_idle_37 ?_
            replace h := h.2
            obtain ⟨x_other_60, ex_other_60⟩ : ∃ f : Nat → Int32, f = upd x_other_57 v1_56.toNatClampNeg (nI 1) := ⟨_, rfl⟩
            refine ga_cast (ws' := [(a 0, .inr (10, [.int x_rules, .int x_places, .ref (a 1), .ref (a 2), .ref (a 3), .int x_newRules, .int x_newPlaces, .ref (a 4), .ref (a 5), .ref (a 6), .ref (a 7), .ref (a 8), .int x_acts, .int x_kept, .int x_length, .ref (a 9), .int x_next, .int x_place, .int x_isWrong, .ref (a 10), .ref (a 11), .ref (a 12), .int x_parts, .int x_without, .ref (a 13), .ref (a 14), .ref (a 15), .ref (a 16), .int x_ways, .ref (a 17), .ref (a 18), .ref (a 19), .ref (a 20)])), (a 1, .inl (V.2 0, 12, .inl x_rule)), (a 2, .inl (V.2 0, 10, .inl x_takes)), (a 3, .inl (V.2 0, 10, .inl x_behind)), (a 8, .inl (V.2 0, 732, .inl x_slot)), (a 13, .inl (V.2 0, 31, .inl x_stood_1)), (a 14, .inl (V.2 1, 31, .inl x_parted_2)), (a 15, .inl (V.2 0, 31, .inl x_other_60))]) (by rw [ex_other_60]) rfl ?_
            replace h := h x_other_60 ex_other_60
            obtain ⟨v1_61, ev1_61⟩ : ∃ v : Int32, v = v1_56 + (nI 1) := ⟨_, rfl⟩
            replace h := h v1_61 ev1_61
            refine ga_iinc hR (pc := 38) (lv' := [(1, .int v1_61), (0, .ref (a 0))]) 1 (by decide) rfl ev1_61 (by decide) rfl dX10_idle_38 ?_
            refine ga_goto hR (pc := 41) 7 (by decide) dX10_idle_41 ?_
            exact ga_lv hR [1, 0] rfl (ih _ _ h)
    exact ga_lv hR [1, 0] rfl (L7 n _ _ h)

def rm_X10_least : Room := { frames := 3, cells := 0, slots := 0, locals := 74 }
theorem hd_X10_leastS : yX10_least.cls ≠ "java/lang/invoke/MethodHandle" ∧ yX10_least.cls ≠ "java/lang/invoke/VarHandle" ∧ (parseMethodDescriptor yX10_least.desc).map (fun d => d.parameters.length) = some 1 := by decide +kernel
theorem hd_X10_least : yX10_least.cls = RX10 ∧ yX10_least.cls ≠ "java/lang/invoke/MethodHandle" ∧ yX10_least.cls ≠ "java/lang/invoke/VarHandle" ∧ (parseMethodDescriptor yX10_least.desc).map (fun d => d.parameters.length) = some 1 := ⟨rfl, hd_X10_leastS⟩
set_option maxHeartbeats 4000000 in
set_option maxRecDepth 100000 in
theorem c_X10_least (V : ga_V) (a : Nat → Nat) (x_newRules : Int32) (x_newPlaces : Int32) (x_acts : Int32) (x_kept : Int32) (x_length : Int32) (x_next : Int32) (x_place : Int32) (x_isWrong : Int32) (x_parts : Int32) (x_ways : Int32) (x_rules : Int32) (x_places : Int32) (x_without : Int32) (x_rule : Nat → Int32) (x_takes : Nat → Int32) (x_behind : Nat → Int32) (x_slot : Nat → Int32) (x_finer : Nat → Int32) (p1 : Int32) (K : Int32 → (Nat → Int32) → Prop) (h : wp_X10_least x_rules x_places x_without x_rule x_takes x_behind x_slot x_finer p1 K) : ga_C V yX10_least wsX10_least rm_X10_least [.ref (a 0), .int p1] [(a 0, .inr (10, [.int x_rules, .int x_places, .ref (a 1), .ref (a 2), .ref (a 3), .int x_newRules, .int x_newPlaces, .ref (a 4), .ref (a 5), .ref (a 6), .ref (a 7), .ref (a 8), .int x_acts, .int x_kept, .int x_length, .ref (a 9), .int x_next, .int x_place, .int x_isWrong, .ref (a 10), .ref (a 11), .ref (a 12), .int x_parts, .int x_without, .ref (a 13), .ref (a 14), .ref (a 15), .ref (a 16), .int x_ways, .ref (a 17), .ref (a 18), .ref (a 19), .ref (a 20)])), (a 1, .inl (V.2 0, 12, .inl x_rule)), (a 2, .inl (V.2 0, 10, .inl x_takes)), (a 3, .inl (V.2 0, 10, .inl x_behind)), (a 8, .inl (V.2 0, 732, .inl x_slot)), (a 19, .inl (V.2 0, 1024, .inl x_finer))] 0 0 (ga_Fi (fun (u : (Nat → Int32)) => [(a 0, .inr (10, [.int x_rules, .int x_places, .ref (a 1), .ref (a 2), .ref (a 3), .int x_newRules, .int x_newPlaces, .ref (a 4), .ref (a 5), .ref (a 6), .ref (a 7), .ref (a 8), .int x_acts, .int x_kept, .int x_length, .ref (a 9), .int x_next, .int x_place, .int x_isWrong, .ref (a 10), .ref (a 11), .ref (a 12), .int x_parts, .int x_without, .ref (a 13), .ref (a 14), .ref (a 15), .ref (a 16), .int x_ways, .ref (a 17), .ref (a 18), .ref (a 19), .ref (a 20)])), (a 1, .inl (V.2 0, 12, .inl x_rule)), (a 2, .inl (V.2 0, 10, .inl x_takes)), (a 3, .inl (V.2 0, 10, .inl x_behind)), (a 8, .inl (V.2 0, 732, .inl x_slot)), (a 19, .inl (V.2 0, 1024, .inl u))]) (fun r u => K r u)) := by
  refine ga_met (cc := cX10_least) (maxL := 7) (rt := (some .int)) (by decide) rfl [(0, .ref (a 0)), (1, .int p1)] rfl (Nat.le_of_ble_eq_true rfl) ?_
  intro G hR hE
  have hinX10 : ∀ w ∈ u_ws RX10 TX10 33, w ∈ wsX10_least := by decide +kernel
  have f66 : Cond.fieldLink RX10 66 "BoundaryRulesModel" "finer" "[I" ∈ wsX10_least := by decide +kernel
  have f121 : Cond.fieldLink RX10 121 "BoundaryRulesModel" "places" "I" ∈ wsX10_least := by decide +kernel
  have f7 : Cond.fieldLink RX10 7 "BoundaryRulesModel" "rule" "[I" ∈ wsX10_least := by decide +kernel
  unfold wp_X10_least at h
  refine ga_aload_n hR (pc := 0) 0 rfl rfl dX10_least_0 ?_
  refine ga_iload_n hR (pc := 1) 1 rfl rfl dX10_least_1 ?_
  refine ga_callV hR (pc := 2) (As := [.int p1]) (rest := []) (st0 := [.int p1, .ref (a 0)]) (b := (a 0)) 1 (c_X10_isRule V a x_places x_newRules x_newPlaces x_acts x_kept x_length x_next x_place x_isWrong x_parts x_without x_ways x_rules p1 _ h) (ga_same_i fun _ => rfl) gX10_least_X10_isRule rfl rfl rfl hd_X10_isRule ⟨Nat.le_of_ble_eq_true rfl, Nat.le_of_ble_eq_true rfl⟩ rfl rfl (Nat.le_of_ble_eq_true rfl) ⟨Nat.zero_le _, Nat.zero_le _⟩ [0] rfl rfl 0 rfl rfl dX10_least_2 ?_
  rintro _ _ ⟨r_1, ⟨⟩, rfl, rfl, h⟩
  refine ga_to [(a 0, .inr (10, [.int x_rules, .int x_places, .ref (a 1), .ref (a 2), .ref (a 3), .int x_newRules, .int x_newPlaces, .ref (a 4), .ref (a 5), .ref (a 6), .ref (a 7), .ref (a 8), .int x_acts, .int x_kept, .int x_length, .ref (a 9), .int x_next, .int x_place, .int x_isWrong, .ref (a 10), .ref (a 11), .ref (a 12), .int x_parts, .int x_without, .ref (a 13), .ref (a 14), .ref (a 15), .ref (a 16), .int x_ways, .ref (a 17), .ref (a 18), .ref (a 19), .ref (a 20)])), (a 1, .inl (V.2 0, 12, .inl x_rule)), (a 2, .inl (V.2 0, 10, .inl x_takes)), (a 3, .inl (V.2 0, 10, .inl x_behind)), (a 8, .inl (V.2 0, 732, .inl x_slot)), (a 19, .inl (V.2 0, 1024, .inl x_finer))] [.int r_1] rfl rfl ?_
  try dsimp only at h
  refine ga_if_ne hR (pc := 5) 10 (by decide) dX10_least_5 (fun c5 => ?_) (fun c5 => ?_)
  · replace h := h.1 c5
    refine ga_iconst hR (pc := 10) (v := nI 0) (by decide) dX10_least_10 ?_
    refine ga_istore_n hR (pc := 11) (lv' := [(2, .int (nI 0)), (0, .ref (a 0)), (1, .int p1)]) rfl (by decide) rfl dX10_least_11 ?_
    have hJ := h (fun (x_finer_2 : Nat → Int32) => G 0 0 [(a 0, .inr (10, [.int x_rules, .int x_places, .ref (a 1), .ref (a 2), .ref (a 3), .int x_newRules, .int x_newPlaces, .ref (a 4), .ref (a 5), .ref (a 6), .ref (a 7), .ref (a 8), .int x_acts, .int x_kept, .int x_length, .ref (a 9), .int x_next, .int x_place, .int x_isWrong, .ref (a 10), .ref (a 11), .ref (a 12), .int x_parts, .int x_without, .ref (a 13), .ref (a 14), .ref (a 15), .ref (a 16), .int x_ways, .ref (a 17), .ref (a 18), .ref (a 19), .ref (a 20)])), (a 1, .inl (V.2 0, 12, .inl x_rule)), (a 2, .inl (V.2 0, 10, .inl x_takes)), (a 3, .inl (V.2 0, 10, .inl x_behind)), (a 8, .inl (V.2 0, 732, .inl x_slot)), (a 19, .inl (V.2 0, 1024, .inl x_finer_2))] 32 [(0, .ref (a 0)), (1, .int p1)] [])
    refine ga_bind hJ ?_ ?_
    · intro x_finer_2 h
      show G 0 0 [(a 0, .inr (10, [.int x_rules, .int x_places, .ref (a 1), .ref (a 2), .ref (a 3), .int x_newRules, .int x_newPlaces, .ref (a 4), .ref (a 5), .ref (a 6), .ref (a 7), .ref (a 8), .int x_acts, .int x_kept, .int x_length, .ref (a 9), .int x_next, .int x_place, .int x_isWrong, .ref (a 10), .ref (a 11), .ref (a 12), .int x_parts, .int x_without, .ref (a 13), .ref (a 14), .ref (a 15), .ref (a 16), .int x_ways, .ref (a 17), .ref (a 18), .ref (a 19), .ref (a 20)])), (a 1, .inl (V.2 0, 12, .inl x_rule)), (a 2, .inl (V.2 0, 10, .inl x_takes)), (a 3, .inl (V.2 0, 10, .inl x_behind)), (a 8, .inl (V.2 0, 732, .inl x_slot)), (a 19, .inl (V.2 0, 1024, .inl x_finer_2))] 32 [(0, .ref (a 0)), (1, .int p1)] []
      refine ga_iconst hR (pc := 32) (v := nI 0) (by decide) dX10_least_32 ?_
      refine ga_istore_n hR (pc := 33) (lv' := [(2, .int (nI 0)), (0, .ref (a 0)), (1, .int p1)]) rfl (by decide) rfl dX10_least_33 ?_
      have hJ := h (fun (x_finer_4 : Nat → Int32) => G 0 0 [(a 0, .inr (10, [.int x_rules, .int x_places, .ref (a 1), .ref (a 2), .ref (a 3), .int x_newRules, .int x_newPlaces, .ref (a 4), .ref (a 5), .ref (a 6), .ref (a 7), .ref (a 8), .int x_acts, .int x_kept, .int x_length, .ref (a 9), .int x_next, .int x_place, .int x_isWrong, .ref (a 10), .ref (a 11), .ref (a 12), .int x_parts, .int x_without, .ref (a 13), .ref (a 14), .ref (a 15), .ref (a 16), .int x_ways, .ref (a 17), .ref (a 18), .ref (a 19), .ref (a 20)])), (a 1, .inl (V.2 0, 12, .inl x_rule)), (a 2, .inl (V.2 0, 10, .inl x_takes)), (a 3, .inl (V.2 0, 10, .inl x_behind)), (a 8, .inl (V.2 0, 732, .inl x_slot)), (a 19, .inl (V.2 0, 1024, .inl x_finer_4))] 57 [(0, .ref (a 0)), (1, .int p1)] [])
      refine ga_bind hJ ?_ ?_
      · intro x_finer_4 h
        show G 0 0 [(a 0, .inr (10, [.int x_rules, .int x_places, .ref (a 1), .ref (a 2), .ref (a 3), .int x_newRules, .int x_newPlaces, .ref (a 4), .ref (a 5), .ref (a 6), .ref (a 7), .ref (a 8), .int x_acts, .int x_kept, .int x_length, .ref (a 9), .int x_next, .int x_place, .int x_isWrong, .ref (a 10), .ref (a 11), .ref (a 12), .int x_parts, .int x_without, .ref (a 13), .ref (a 14), .ref (a 15), .ref (a 16), .int x_ways, .ref (a 17), .ref (a 18), .ref (a 19), .ref (a 20)])), (a 1, .inl (V.2 0, 12, .inl x_rule)), (a 2, .inl (V.2 0, 10, .inl x_takes)), (a 3, .inl (V.2 0, 10, .inl x_behind)), (a 8, .inl (V.2 0, 732, .inl x_slot)), (a 19, .inl (V.2 0, 1024, .inl x_finer_4))] 57 [(0, .ref (a 0)), (1, .int p1)] []
        refine ga_aload_n hR (pc := 57) 0 rfl rfl dX10_least_57 ?_
        refine ga_get hR (pc := 58) 0 rfl rfl hinX10 31 (by decide) f66 rfl dX10_least_58 ?_
        refine ga_iconst hR (pc := 61) (v := nI 0) (by decide) dX10_least_61 ?_
        refine ga_iconst hR (pc := 62) (v := nI 0) (by decide) dX10_least_62 ?_
        refine ga_iast hR (pc := 63) (ws' := [(a 0, .inr (10, [.int x_rules, .int x_places, .ref (a 1), .ref (a 2), .ref (a 3), .int x_newRules, .int x_newPlaces, .ref (a 4), .ref (a 5), .ref (a 6), .ref (a 7), .ref (a 8), .int x_acts, .int x_kept, .int x_length, .ref (a 9), .int x_next, .int x_place, .int x_isWrong, .ref (a 10), .ref (a 11), .ref (a 12), .int x_parts, .int x_without, .ref (a 13), .ref (a 14), .ref (a 15), .ref (a 16), .int x_ways, .ref (a 17), .ref (a 18), .ref (a 19), .ref (a 20)])), (a 1, .inl (V.2 0, 12, .inl x_rule)), (a 2, .inl (V.2 0, 10, .inl x_takes)), (a 3, .inl (V.2 0, 10, .inl x_behind)), (a 8, .inl (V.2 0, 732, .inl x_slot)), (a 19, .inl (V.2 0, 1024, .inl ((upd x_finer_4 (nI 0).toNatClampNeg (nI 0)))))]) 5 rfl h.1 rfl dX10_least_63 ?_
        replace h := h.2
        obtain ⟨x_finer_6, ex_finer_6⟩ : ∃ f : Nat → Int32, f = upd x_finer_4 (nI 0).toNatClampNeg (nI 0) := ⟨_, rfl⟩
        refine ga_cast (ws' := [(a 0, .inr (10, [.int x_rules, .int x_places, .ref (a 1), .ref (a 2), .ref (a 3), .int x_newRules, .int x_newPlaces, .ref (a 4), .ref (a 5), .ref (a 6), .ref (a 7), .ref (a 8), .int x_acts, .int x_kept, .int x_length, .ref (a 9), .int x_next, .int x_place, .int x_isWrong, .ref (a 10), .ref (a 11), .ref (a 12), .int x_parts, .int x_without, .ref (a 13), .ref (a 14), .ref (a 15), .ref (a 16), .int x_ways, .ref (a 17), .ref (a 18), .ref (a 19), .ref (a 20)])), (a 1, .inl (V.2 0, 12, .inl x_rule)), (a 2, .inl (V.2 0, 10, .inl x_takes)), (a 3, .inl (V.2 0, 10, .inl x_behind)), (a 8, .inl (V.2 0, 732, .inl x_slot)), (a 19, .inl (V.2 0, 1024, .inl x_finer_6))]) (by rw [ex_finer_6]) rfl ?_
        replace h := h x_finer_6 ex_finer_6
        refine ga_iconst hR (pc := 64) (v := nI 1) (by decide) dX10_least_64 ?_
        refine ga_istore_n hR (pc := 65) (lv' := [(2, .int (nI 1)), (0, .ref (a 0)), (1, .int p1)]) rfl (by decide) rfl dX10_least_65 ?_
        have hJ := h (fun (v2_7 : Int32) (x_finer_8 : Nat → Int32) => G 0 0 [(a 0, .inr (10, [.int x_rules, .int x_places, .ref (a 1), .ref (a 2), .ref (a 3), .int x_newRules, .int x_newPlaces, .ref (a 4), .ref (a 5), .ref (a 6), .ref (a 7), .ref (a 8), .int x_acts, .int x_kept, .int x_length, .ref (a 9), .int x_next, .int x_place, .int x_isWrong, .ref (a 10), .ref (a 11), .ref (a 12), .int x_parts, .int x_without, .ref (a 13), .ref (a 14), .ref (a 15), .ref (a 16), .int x_ways, .ref (a 17), .ref (a 18), .ref (a 19), .ref (a 20)])), (a 1, .inl (V.2 0, 12, .inl x_rule)), (a 2, .inl (V.2 0, 10, .inl x_takes)), (a 3, .inl (V.2 0, 10, .inl x_behind)), (a 8, .inl (V.2 0, 732, .inl x_slot)), (a 19, .inl (V.2 0, 1024, .inl x_finer_8))] 133 [(2, .int v2_7)] [])
        refine ga_bind hJ ?_ ?_
        · intro v2_7 x_finer_8 h
          show G 0 0 [(a 0, .inr (10, [.int x_rules, .int x_places, .ref (a 1), .ref (a 2), .ref (a 3), .int x_newRules, .int x_newPlaces, .ref (a 4), .ref (a 5), .ref (a 6), .ref (a 7), .ref (a 8), .int x_acts, .int x_kept, .int x_length, .ref (a 9), .int x_next, .int x_place, .int x_isWrong, .ref (a 10), .ref (a 11), .ref (a 12), .int x_parts, .int x_without, .ref (a 13), .ref (a 14), .ref (a 15), .ref (a 16), .int x_ways, .ref (a 17), .ref (a 18), .ref (a 19), .ref (a 20)])), (a 1, .inl (V.2 0, 12, .inl x_rule)), (a 2, .inl (V.2 0, 10, .inl x_takes)), (a 3, .inl (V.2 0, 10, .inl x_behind)), (a 8, .inl (V.2 0, 732, .inl x_slot)), (a 19, .inl (V.2 0, 1024, .inl x_finer_8))] 133 [(2, .int v2_7)] []
          refine ga_iload_n hR (pc := 133) 0 rfl rfl dX10_least_133 ?_
          exact ga_iret hE dX10_least_134 rfl (ga_ri x_finer_8 rfl h)
        · intro h
          have hJ := h (fun (x_finer_10 : Nat → Int32) => G 0 0 [(a 0, .inr (10, [.int x_rules, .int x_places, .ref (a 1), .ref (a 2), .ref (a 3), .int x_newRules, .int x_newPlaces, .ref (a 4), .ref (a 5), .ref (a 6), .ref (a 7), .ref (a 8), .int x_acts, .int x_kept, .int x_length, .ref (a 9), .int x_next, .int x_place, .int x_isWrong, .ref (a 10), .ref (a 11), .ref (a 12), .int x_parts, .int x_without, .ref (a 13), .ref (a 14), .ref (a 15), .ref (a 16), .int x_ways, .ref (a 17), .ref (a 18), .ref (a 19), .ref (a 20)])), (a 1, .inl (V.2 0, 12, .inl x_rule)), (a 2, .inl (V.2 0, 10, .inl x_takes)), (a 3, .inl (V.2 0, 10, .inl x_behind)), (a 8, .inl (V.2 0, 732, .inl x_slot)), (a 19, .inl (V.2 0, 1024, .inl x_finer_10))] 233 [] [])
          refine ga_bind hJ ?_ ?_
          · intro x_finer_10 h
            show G 0 0 [(a 0, .inr (10, [.int x_rules, .int x_places, .ref (a 1), .ref (a 2), .ref (a 3), .int x_newRules, .int x_newPlaces, .ref (a 4), .ref (a 5), .ref (a 6), .ref (a 7), .ref (a 8), .int x_acts, .int x_kept, .int x_length, .ref (a 9), .int x_next, .int x_place, .int x_isWrong, .ref (a 10), .ref (a 11), .ref (a 12), .int x_parts, .int x_without, .ref (a 13), .ref (a 14), .ref (a 15), .ref (a 16), .int x_ways, .ref (a 17), .ref (a 18), .ref (a 19), .ref (a 20)])), (a 1, .inl (V.2 0, 12, .inl x_rule)), (a 2, .inl (V.2 0, 10, .inl x_takes)), (a 3, .inl (V.2 0, 10, .inl x_behind)), (a 8, .inl (V.2 0, 732, .inl x_slot)), (a 19, .inl (V.2 0, 1024, .inl x_finer_10))] 233 [] []
            refine ga_bipush hR (pc := 233) (v := -4) (by decide) dX10_least_233 ?_
            exact ga_iret hE dX10_least_235 rfl (ga_ri x_finer_10 rfl h)
          · intro h
            obtain ⟨n, h⟩ := h
            have L66 : ∀ (n : Nat) (v2_69 : Int32) (x_finer_70 : Nat → Int32), lp_X10_least_66 x_rules x_places x_rule x_takes x_behind x_slot p1 (fun (v2_7 : Int32) (x_finer_8 : Nat → Int32) => G 0 0 [(a 0, .inr (10, [.int x_rules, .int x_places, .ref (a 1), .ref (a 2), .ref (a 3), .int x_newRules, .int x_newPlaces, .ref (a 4), .ref (a 5), .ref (a 6), .ref (a 7), .ref (a 8), .int x_acts, .int x_kept, .int x_length, .ref (a 9), .int x_next, .int x_place, .int x_isWrong, .ref (a 10), .ref (a 11), .ref (a 12), .int x_parts, .int x_without, .ref (a 13), .ref (a 14), .ref (a 15), .ref (a 16), .int x_ways, .ref (a 17), .ref (a 18), .ref (a 19), .ref (a 20)])), (a 1, .inl (V.2 0, 12, .inl x_rule)), (a 2, .inl (V.2 0, 10, .inl x_takes)), (a 3, .inl (V.2 0, 10, .inl x_behind)), (a 8, .inl (V.2 0, 732, .inl x_slot)), (a 19, .inl (V.2 0, 1024, .inl x_finer_8))] 133 [(2, .int v2_7)] []) (fun (x_finer_10 : Nat → Int32) => G 0 0 [(a 0, .inr (10, [.int x_rules, .int x_places, .ref (a 1), .ref (a 2), .ref (a 3), .int x_newRules, .int x_newPlaces, .ref (a 4), .ref (a 5), .ref (a 6), .ref (a 7), .ref (a 8), .int x_acts, .int x_kept, .int x_length, .ref (a 9), .int x_next, .int x_place, .int x_isWrong, .ref (a 10), .ref (a 11), .ref (a 12), .int x_parts, .int x_without, .ref (a 13), .ref (a 14), .ref (a 15), .ref (a 16), .int x_ways, .ref (a 17), .ref (a 18), .ref (a 19), .ref (a 20)])), (a 1, .inl (V.2 0, 12, .inl x_rule)), (a 2, .inl (V.2 0, 10, .inl x_takes)), (a 3, .inl (V.2 0, 10, .inl x_behind)), (a 8, .inl (V.2 0, 732, .inl x_slot)), (a 19, .inl (V.2 0, 1024, .inl x_finer_10))] 233 [] []) n v2_69 x_finer_70 → G 0 0 [(a 0, .inr (10, [.int x_rules, .int x_places, .ref (a 1), .ref (a 2), .ref (a 3), .int x_newRules, .int x_newPlaces, .ref (a 4), .ref (a 5), .ref (a 6), .ref (a 7), .ref (a 8), .int x_acts, .int x_kept, .int x_length, .ref (a 9), .int x_next, .int x_place, .int x_isWrong, .ref (a 10), .ref (a 11), .ref (a 12), .int x_parts, .int x_without, .ref (a 13), .ref (a 14), .ref (a 15), .ref (a 16), .int x_ways, .ref (a 17), .ref (a 18), .ref (a 19), .ref (a 20)])), (a 1, .inl (V.2 0, 12, .inl x_rule)), (a 2, .inl (V.2 0, 10, .inl x_takes)), (a 3, .inl (V.2 0, 10, .inl x_behind)), (a 8, .inl (V.2 0, 732, .inl x_slot)), (a 19, .inl (V.2 0, 1024, .inl x_finer_70))] 66 [(0, .ref (a 0)), (1, .int p1), (2, .int v2_69)] [] := by
              intro n
              induction n with
              | zero => exact fun _ _ h => False.elim h
              | succ n ih =>
                intro v2_69 x_finer_70 h
                rw [lp_X10_least_66] at h
                refine ga_iload_n hR (pc := 66) 2 rfl rfl dX10_least_66 ?_
                refine ga_bipush hR (pc := 67) (v := nI 9) (by decide) dX10_least_67 ?_
                refine ga_icmp_ge hR (pc := 69) 233 (by decide) dX10_least_69 (fun c69 => ?_) (fun c69 => ?_)
                · replace h := h.1 c69
                  exact ga_lv hR [] rfl h
                · replace h := h.2 c69
                  refine ga_iconst hR (pc := 72) (v := nI 0) (by decide) dX10_least_72 ?_
                  refine ga_istore_n hR (pc := 73) (lv' := [(3, .int (nI 0)), (0, .ref (a 0)), (1, .int p1), (2, .int v2_69)]) rfl (by decide) rfl dX10_least_73 ?_
                  refine ga_iconst hR (pc := 74) (v := nI 1) (by decide) dX10_least_74 ?_
                  refine ga_istore hR (pc := 75) (lv' := [(4, .int (nI 1)), (3, .int (nI 0)), (0, .ref (a 0)), (1, .int p1), (2, .int v2_69)]) (by decide) rfl dX10_least_75 ?_
                  have hJ := h (fun (v3_71 : Int32) => G 0 0 [(a 0, .inr (10, [.int x_rules, .int x_places, .ref (a 1), .ref (a 2), .ref (a 3), .int x_newRules, .int x_newPlaces, .ref (a 4), .ref (a 5), .ref (a 6), .ref (a 7), .ref (a 8), .int x_acts, .int x_kept, .int x_length, .ref (a 9), .int x_next, .int x_place, .int x_isWrong, .ref (a 10), .ref (a 11), .ref (a 12), .int x_parts, .int x_without, .ref (a 13), .ref (a 14), .ref (a 15), .ref (a 16), .int x_ways, .ref (a 17), .ref (a 18), .ref (a 19), .ref (a 20)])), (a 1, .inl (V.2 0, 12, .inl x_rule)), (a 2, .inl (V.2 0, 10, .inl x_takes)), (a 3, .inl (V.2 0, 10, .inl x_behind)), (a 8, .inl (V.2 0, 732, .inl x_slot)), (a 19, .inl (V.2 0, 1024, .inl x_finer_70))] 129 [(0, .ref (a 0)), (1, .int p1), (2, .int v2_69), (3, .int v3_71)] [])
                  refine ga_bind hJ ?_ ?_
                  · intro v3_71 h
                    show G 0 0 [(a 0, .inr (10, [.int x_rules, .int x_places, .ref (a 1), .ref (a 2), .ref (a 3), .int x_newRules, .int x_newPlaces, .ref (a 4), .ref (a 5), .ref (a 6), .ref (a 7), .ref (a 8), .int x_acts, .int x_kept, .int x_length, .ref (a 9), .int x_next, .int x_place, .int x_isWrong, .ref (a 10), .ref (a 11), .ref (a 12), .int x_parts, .int x_without, .ref (a 13), .ref (a 14), .ref (a 15), .ref (a 16), .int x_ways, .ref (a 17), .ref (a 18), .ref (a 19), .ref (a 20)])), (a 1, .inl (V.2 0, 12, .inl x_rule)), (a 2, .inl (V.2 0, 10, .inl x_takes)), (a 3, .inl (V.2 0, 10, .inl x_behind)), (a 8, .inl (V.2 0, 732, .inl x_slot)), (a 19, .inl (V.2 0, 1024, .inl x_finer_70))] 129 [(0, .ref (a 0)), (1, .int p1), (2, .int v2_69), (3, .int v3_71)] []
                    refine ga_iload_n hR (pc := 129) 3 rfl rfl dX10_least_129 ?_
                    refine ga_if_eq hR (pc := 130) 135 (by decide) dX10_least_130 (fun c130 => ?_) (fun c130 => ?_)
                    · replace h := h.1 c130
                      refine ga_iconst hR (pc := 135) (v := nI 1) (by decide) dX10_least_135 ?_
                      refine ga_istore hR (pc := 136) (lv' := [(4, .int (nI 1)), (0, .ref (a 0)), (1, .int p1), (2, .int v2_69), (3, .int v3_71)]) (by decide) rfl dX10_least_136 ?_
                      have hJ := h (fun (x_finer_73 : Nat → Int32) => G 0 0 [(a 0, .inr (10, [.int x_rules, .int x_places, .ref (a 1), .ref (a 2), .ref (a 3), .int x_newRules, .int x_newPlaces, .ref (a 4), .ref (a 5), .ref (a 6), .ref (a 7), .ref (a 8), .int x_acts, .int x_kept, .int x_length, .ref (a 9), .int x_next, .int x_place, .int x_isWrong, .ref (a 10), .ref (a 11), .ref (a 12), .int x_parts, .int x_without, .ref (a 13), .ref (a 14), .ref (a 15), .ref (a 16), .int x_ways, .ref (a 17), .ref (a 18), .ref (a 19), .ref (a 20)])), (a 1, .inl (V.2 0, 12, .inl x_rule)), (a 2, .inl (V.2 0, 10, .inl x_takes)), (a 3, .inl (V.2 0, 10, .inl x_behind)), (a 8, .inl (V.2 0, 732, .inl x_slot)), (a 19, .inl (V.2 0, 1024, .inl x_finer_73))] 227 [(0, .ref (a 0)), (1, .int p1), (2, .int v2_69)] [])
                      refine ga_bind hJ ?_ ?_
                      · intro x_finer_73 h
                        show G 0 0 [(a 0, .inr (10, [.int x_rules, .int x_places, .ref (a 1), .ref (a 2), .ref (a 3), .int x_newRules, .int x_newPlaces, .ref (a 4), .ref (a 5), .ref (a 6), .ref (a 7), .ref (a 8), .int x_acts, .int x_kept, .int x_length, .ref (a 9), .int x_next, .int x_place, .int x_isWrong, .ref (a 10), .ref (a 11), .ref (a 12), .int x_parts, .int x_without, .ref (a 13), .ref (a 14), .ref (a 15), .ref (a 16), .int x_ways, .ref (a 17), .ref (a 18), .ref (a 19), .ref (a 20)])), (a 1, .inl (V.2 0, 12, .inl x_rule)), (a 2, .inl (V.2 0, 10, .inl x_takes)), (a 3, .inl (V.2 0, 10, .inl x_behind)), (a 8, .inl (V.2 0, 732, .inl x_slot)), (a 19, .inl (V.2 0, 1024, .inl x_finer_73))] 227 [(0, .ref (a 0)), (1, .int p1), (2, .int v2_69)] []
                        obtain ⟨v2_75, ev2_75⟩ : ∃ v : Int32, v = v2_69 + (nI 1) := ⟨_, rfl⟩
                        replace h := h v2_75 ev2_75
                        refine ga_iinc hR (pc := 227) (lv' := [(2, .int v2_75), (0, .ref (a 0)), (1, .int p1)]) 2 (by decide) rfl ev2_75 (by decide) rfl dX10_least_227 ?_
                        refine ga_goto hR (pc := 230) 66 (by decide) dX10_least_230 ?_
                        exact ga_lv hR [1, 2, 0] rfl (ih _ _ h)
                      · intro h
                        obtain ⟨n, h⟩ := h
                        have L138 : ∀ (n : Nat) (v4_76 : Int32) (x_finer_77 : Nat → Int32), lp_X10_least_138 x_rules x_places x_rule x_takes x_behind x_slot v2_69 (fun (x_finer_73 : Nat → Int32) => G 0 0 [(a 0, .inr (10, [.int x_rules, .int x_places, .ref (a 1), .ref (a 2), .ref (a 3), .int x_newRules, .int x_newPlaces, .ref (a 4), .ref (a 5), .ref (a 6), .ref (a 7), .ref (a 8), .int x_acts, .int x_kept, .int x_length, .ref (a 9), .int x_next, .int x_place, .int x_isWrong, .ref (a 10), .ref (a 11), .ref (a 12), .int x_parts, .int x_without, .ref (a 13), .ref (a 14), .ref (a 15), .ref (a 16), .int x_ways, .ref (a 17), .ref (a 18), .ref (a 19), .ref (a 20)])), (a 1, .inl (V.2 0, 12, .inl x_rule)), (a 2, .inl (V.2 0, 10, .inl x_takes)), (a 3, .inl (V.2 0, 10, .inl x_behind)), (a 8, .inl (V.2 0, 732, .inl x_slot)), (a 19, .inl (V.2 0, 1024, .inl x_finer_73))] 227 [(0, .ref (a 0)), (1, .int p1), (2, .int v2_69)] []) n v4_76 x_finer_77 → G 0 0 [(a 0, .inr (10, [.int x_rules, .int x_places, .ref (a 1), .ref (a 2), .ref (a 3), .int x_newRules, .int x_newPlaces, .ref (a 4), .ref (a 5), .ref (a 6), .ref (a 7), .ref (a 8), .int x_acts, .int x_kept, .int x_length, .ref (a 9), .int x_next, .int x_place, .int x_isWrong, .ref (a 10), .ref (a 11), .ref (a 12), .int x_parts, .int x_without, .ref (a 13), .ref (a 14), .ref (a 15), .ref (a 16), .int x_ways, .ref (a 17), .ref (a 18), .ref (a 19), .ref (a 20)])), (a 1, .inl (V.2 0, 12, .inl x_rule)), (a 2, .inl (V.2 0, 10, .inl x_takes)), (a 3, .inl (V.2 0, 10, .inl x_behind)), (a 8, .inl (V.2 0, 732, .inl x_slot)), (a 19, .inl (V.2 0, 1024, .inl x_finer_77))] 138 [(0, .ref (a 0)), (1, .int p1), (2, .int v2_69), (4, .int v4_76)] [] := by
                          intro n
                          induction n with
                          | zero => exact fun _ _ h => False.elim h
                          | succ n ih =>
                            intro v4_76 x_finer_77 h
                            rw [lp_X10_least_138] at h
                            refine ga_iload hR (pc := 138) 3 rfl dX10_least_138 ?_
                            refine ga_iconst hR (pc := 140) (v := nI 1) (by decide) dX10_least_140 ?_
                            refine ga_aload_n hR (pc := 141) 0 rfl rfl dX10_least_141 ?_
                            refine ga_get hR (pc := 142) 0 rfl rfl hinX10 1 (by decide) f121 rfl dX10_least_142 ?_
                            refine ga_ishl hR (pc := 145) dX10_least_145 ?_
                            refine ga_icmp_ge hR (pc := 146) 227 (by decide) dX10_least_146 (fun c146 => ?_) (fun c146 => ?_)
                            · replace h := h.1 c146
                              exact ga_lv hR [0, 1, 2] rfl h
                            · replace h := h.2 c146
                              refine ga_iconst hR (pc := 149) (v := nI 0) (by decide) dX10_least_149 ?_
                              refine ga_istore hR (pc := 150) (lv' := [(5, .int (nI 0)), (0, .ref (a 0)), (1, .int p1), (2, .int v2_69), (4, .int v4_76)]) (by decide) rfl dX10_least_150 ?_
                              have hJ := h (fun (x_finer_78 : Nat → Int32) => G 0 0 [(a 0, .inr (10, [.int x_rules, .int x_places, .ref (a 1), .ref (a 2), .ref (a 3), .int x_newRules, .int x_newPlaces, .ref (a 4), .ref (a 5), .ref (a 6), .ref (a 7), .ref (a 8), .int x_acts, .int x_kept, .int x_length, .ref (a 9), .int x_next, .int x_place, .int x_isWrong, .ref (a 10), .ref (a 11), .ref (a 12), .int x_parts, .int x_without, .ref (a 13), .ref (a 14), .ref (a 15), .ref (a 16), .int x_ways, .ref (a 17), .ref (a 18), .ref (a 19), .ref (a 20)])), (a 1, .inl (V.2 0, 12, .inl x_rule)), (a 2, .inl (V.2 0, 10, .inl x_takes)), (a 3, .inl (V.2 0, 10, .inl x_behind)), (a 8, .inl (V.2 0, 732, .inl x_slot)), (a 19, .inl (V.2 0, 1024, .inl x_finer_78))] 221 [(0, .ref (a 0)), (1, .int p1), (2, .int v2_69), (4, .int v4_76)] [])
                              refine ga_bind hJ ?_ ?_
                              · intro x_finer_78 h
                                show G 0 0 [(a 0, .inr (10, [.int x_rules, .int x_places, .ref (a 1), .ref (a 2), .ref (a 3), .int x_newRules, .int x_newPlaces, .ref (a 4), .ref (a 5), .ref (a 6), .ref (a 7), .ref (a 8), .int x_acts, .int x_kept, .int x_length, .ref (a 9), .int x_next, .int x_place, .int x_isWrong, .ref (a 10), .ref (a 11), .ref (a 12), .int x_parts, .int x_without, .ref (a 13), .ref (a 14), .ref (a 15), .ref (a 16), .int x_ways, .ref (a 17), .ref (a 18), .ref (a 19), .ref (a 20)])), (a 1, .inl (V.2 0, 12, .inl x_rule)), (a 2, .inl (V.2 0, 10, .inl x_takes)), (a 3, .inl (V.2 0, 10, .inl x_behind)), (a 8, .inl (V.2 0, 732, .inl x_slot)), (a 19, .inl (V.2 0, 1024, .inl x_finer_78))] 221 [(0, .ref (a 0)), (1, .int p1), (2, .int v2_69), (4, .int v4_76)] []
                                obtain ⟨v4_80, ev4_80⟩ : ∃ v : Int32, v = v4_76 + (nI 1) := ⟨_, rfl⟩
                                replace h := h v4_80 ev4_80
                                refine ga_iinc hR (pc := 221) (lv' := [(4, .int v4_80), (0, .ref (a 0)), (1, .int p1), (2, .int v2_69)]) 3 (by decide) rfl ev4_80 (by decide) rfl dX10_least_221 ?_
                                refine ga_goto hR (pc := 224) 138 (by decide) dX10_least_224 ?_
                                exact ga_lv hR [1, 2, 3, 0] rfl (ih _ _ h)
                              · intro h
                                obtain ⟨n, h⟩ := h
                                have L152 : ∀ (n : Nat) (v5_81 : Int32) (x_finer_82 : Nat → Int32), lp_X10_least_152 x_rules x_places x_rule x_takes x_behind x_slot v2_69 v4_76 (fun (x_finer_78 : Nat → Int32) => G 0 0 [(a 0, .inr (10, [.int x_rules, .int x_places, .ref (a 1), .ref (a 2), .ref (a 3), .int x_newRules, .int x_newPlaces, .ref (a 4), .ref (a 5), .ref (a 6), .ref (a 7), .ref (a 8), .int x_acts, .int x_kept, .int x_length, .ref (a 9), .int x_next, .int x_place, .int x_isWrong, .ref (a 10), .ref (a 11), .ref (a 12), .int x_parts, .int x_without, .ref (a 13), .ref (a 14), .ref (a 15), .ref (a 16), .int x_ways, .ref (a 17), .ref (a 18), .ref (a 19), .ref (a 20)])), (a 1, .inl (V.2 0, 12, .inl x_rule)), (a 2, .inl (V.2 0, 10, .inl x_takes)), (a 3, .inl (V.2 0, 10, .inl x_behind)), (a 8, .inl (V.2 0, 732, .inl x_slot)), (a 19, .inl (V.2 0, 1024, .inl x_finer_78))] 221 [(0, .ref (a 0)), (1, .int p1), (2, .int v2_69), (4, .int v4_76)] []) n v5_81 x_finer_82 → G 0 0 [(a 0, .inr (10, [.int x_rules, .int x_places, .ref (a 1), .ref (a 2), .ref (a 3), .int x_newRules, .int x_newPlaces, .ref (a 4), .ref (a 5), .ref (a 6), .ref (a 7), .ref (a 8), .int x_acts, .int x_kept, .int x_length, .ref (a 9), .int x_next, .int x_place, .int x_isWrong, .ref (a 10), .ref (a 11), .ref (a 12), .int x_parts, .int x_without, .ref (a 13), .ref (a 14), .ref (a 15), .ref (a 16), .int x_ways, .ref (a 17), .ref (a 18), .ref (a 19), .ref (a 20)])), (a 1, .inl (V.2 0, 12, .inl x_rule)), (a 2, .inl (V.2 0, 10, .inl x_takes)), (a 3, .inl (V.2 0, 10, .inl x_behind)), (a 8, .inl (V.2 0, 732, .inl x_slot)), (a 19, .inl (V.2 0, 1024, .inl x_finer_82))] 152 [(0, .ref (a 0)), (1, .int p1), (2, .int v2_69), (4, .int v4_76), (5, .int v5_81)] [] := by
                                  intro n
                                  induction n with
                                  | zero => exact fun _ _ h => False.elim h
                                  | succ n ih =>
                                    intro v5_81 x_finer_82 h
                                    rw [lp_X10_least_152] at h
                                    refine ga_iload hR (pc := 152) 4 rfl dX10_least_152 ?_
                                    refine ga_bipush hR (pc := 154) (v := nI 6) (by decide) dX10_least_154 ?_
                                    refine ga_icmp_ge hR (pc := 156) 221 (by decide) dX10_least_156 (fun c156 => ?_) (fun c156 => ?_)
                                    · replace h := h.1 c156
                                      exact ga_lv hR [0, 1, 2, 3] rfl h
                                    · replace h := h.2 c156
                                      refine ga_aload_n hR (pc := 159) 0 rfl rfl dX10_least_159 ?_
                                      refine ga_get hR (pc := 160) 0 rfl rfl hinX10 31 (by decide) f66 rfl dX10_least_160 ?_
                                      refine ga_iload hR (pc := 163) 3 rfl dX10_least_163 ?_
                                      refine ga_iald hR (pc := 165) 5 rfl h.1 dX10_least_165 ?_
                                      replace h := h.2
                                      refine ga_iload_n hR (pc := 166) 2 rfl rfl dX10_least_166 ?_
                                      refine ga_icmp_ne hR (pc := 167) 221 (by decide) dX10_least_167 (fun c167 => ?_) (fun c167 => ?_)
                                      · replace h := h.1 c167
                                        exact ga_lv hR [0, 1, 2, 3] rfl h
                                      · replace h := h.2 c167
                                        refine ga_aload_n hR (pc := 170) 0 rfl rfl dX10_least_170 ?_
                                        refine ga_iload hR (pc := 171) 3 rfl dX10_least_171 ?_
                                        refine ga_iload hR (pc := 173) 4 rfl dX10_least_173 ?_
                                        refine ga_callV hR (pc := 175) (As := [.int v4_76, .int v5_81]) (rest := []) (st0 := [.int v5_81, .int v4_76, .ref (a 0)]) (b := (a 0)) 2 (c_X10_goes V a x_newRules x_newPlaces x_acts x_kept x_length x_next x_place x_isWrong x_parts x_without x_ways x_rules x_places x_rule x_takes x_behind x_slot v4_76 v5_81 _ h) (ga_same_i fun _ => rfl) gX10_least_X10_goes rfl rfl rfl hd_X10_goes ⟨Nat.le_of_ble_eq_true rfl, Nat.le_of_ble_eq_true rfl⟩ rfl rfl (Nat.le_of_ble_eq_true rfl) ⟨Nat.zero_le _, Nat.zero_le _⟩ [0, 1, 2, 3, 4] rfl rfl 0 rfl rfl dX10_least_175 ?_
                                        rintro _ _ ⟨r_83, ⟨⟩, rfl, rfl, h⟩
                                        refine ga_to [(a 0, .inr (10, [.int x_rules, .int x_places, .ref (a 1), .ref (a 2), .ref (a 3), .int x_newRules, .int x_newPlaces, .ref (a 4), .ref (a 5), .ref (a 6), .ref (a 7), .ref (a 8), .int x_acts, .int x_kept, .int x_length, .ref (a 9), .int x_next, .int x_place, .int x_isWrong, .ref (a 10), .ref (a 11), .ref (a 12), .int x_parts, .int x_without, .ref (a 13), .ref (a 14), .ref (a 15), .ref (a 16), .int x_ways, .ref (a 17), .ref (a 18), .ref (a 19), .ref (a 20)])), (a 1, .inl (V.2 0, 12, .inl x_rule)), (a 2, .inl (V.2 0, 10, .inl x_takes)), (a 3, .inl (V.2 0, 10, .inl x_behind)), (a 8, .inl (V.2 0, 732, .inl x_slot)), (a 19, .inl (V.2 0, 1024, .inl x_finer_82))] [.int r_83] rfl rfl ?_
                                        try dsimp only at h
                                        refine ga_istore hR (pc := 178) (lv' := [(6, .int r_83), (0, .ref (a 0)), (1, .int p1), (2, .int v2_69), (4, .int v4_76), (5, .int v5_81)]) (by decide) rfl dX10_least_178 ?_
                                        refine ga_aload_n hR (pc := 180) 1 rfl rfl dX10_least_180 ?_
                                        refine ga_get hR (pc := 181) 0 rfl rfl hinX10 31 (by decide) f66 rfl dX10_least_181 ?_
                                        refine ga_iload hR (pc := 184) 0 rfl dX10_least_184 ?_
                                        refine ga_iload hR (pc := 186) 0 rfl dX10_least_186 ?_
                                        refine ga_if_eq hR (pc := 188) 207 (by decide) dX10_least_188 (fun c188 => ?_) (fun c188 => ?_)
                                        · replace h := h.1 c188
                                          refine ga_aload_n hR (pc := 207) 1 rfl rfl dX10_least_207 ?_
                                          refine ga_get hR (pc := 208) 0 rfl rfl hinX10 31 (by decide) f66 rfl dX10_least_208 ?_
                                          refine ga_iload hR (pc := 211) 0 rfl dX10_least_211 ?_
                                          refine ga_iald hR (pc := 213) 5 rfl h.1 dX10_least_213 ?_
                                          replace h := h.2
                                          refine ga_topi (fun t_84 et_84 => ?_)
                                          replace h := h t_84 et_84
                                          refine ga_iast hR (pc := 214) (ws' := [(a 0, .inr (10, [.int x_rules, .int x_places, .ref (a 1), .ref (a 2), .ref (a 3), .int x_newRules, .int x_newPlaces, .ref (a 4), .ref (a 5), .ref (a 6), .ref (a 7), .ref (a 8), .int x_acts, .int x_kept, .int x_length, .ref (a 9), .int x_next, .int x_place, .int x_isWrong, .ref (a 10), .ref (a 11), .ref (a 12), .int x_parts, .int x_without, .ref (a 13), .ref (a 14), .ref (a 15), .ref (a 16), .int x_ways, .ref (a 17), .ref (a 18), .ref (a 19), .ref (a 20)])), (a 1, .inl (V.2 0, 12, .inl x_rule)), (a 2, .inl (V.2 0, 10, .inl x_takes)), (a 3, .inl (V.2 0, 10, .inl x_behind)), (a 8, .inl (V.2 0, 732, .inl x_slot)), (a 19, .inl (V.2 0, 1024, .inl ((upd x_finer_82 r_83.toNatClampNeg t_84))))]) 5 rfl h.1 rfl dX10_least_214 ?_
                                          replace h := h.2
                                          obtain ⟨x_finer_85, ex_finer_85⟩ : ∃ f : Nat → Int32, f = upd x_finer_82 r_83.toNatClampNeg t_84 := ⟨_, rfl⟩
                                          refine ga_cast (ws' := [(a 0, .inr (10, [.int x_rules, .int x_places, .ref (a 1), .ref (a 2), .ref (a 3), .int x_newRules, .int x_newPlaces, .ref (a 4), .ref (a 5), .ref (a 6), .ref (a 7), .ref (a 8), .int x_acts, .int x_kept, .int x_length, .ref (a 9), .int x_next, .int x_place, .int x_isWrong, .ref (a 10), .ref (a 11), .ref (a 12), .int x_parts, .int x_without, .ref (a 13), .ref (a 14), .ref (a 15), .ref (a 16), .int x_ways, .ref (a 17), .ref (a 18), .ref (a 19), .ref (a 20)])), (a 1, .inl (V.2 0, 12, .inl x_rule)), (a 2, .inl (V.2 0, 10, .inl x_takes)), (a 3, .inl (V.2 0, 10, .inl x_behind)), (a 8, .inl (V.2 0, 732, .inl x_slot)), (a 19, .inl (V.2 0, 1024, .inl x_finer_85))]) (by rw [ex_finer_85]) rfl ?_
                                          replace h := h x_finer_85 ex_finer_85
                                          obtain ⟨v5_86, ev5_86⟩ : ∃ v : Int32, v = v5_81 + (nI 1) := ⟨_, rfl⟩
                                          replace h := h v5_86 ev5_86
                                          refine ga_iinc hR (pc := 215) (lv' := [(5, .int v5_86), (6, .int r_83), (0, .ref (a 0)), (1, .int p1), (2, .int v2_69), (4, .int v4_76)]) 5 (by decide) rfl ev5_86 (by decide) rfl dX10_least_215 ?_
                                          refine ga_goto hR (pc := 218) 152 (by decide) dX10_least_218 ?_
                                          exact ga_lv hR [2, 3, 4, 5, 0] rfl (ih _ _ h)
                                        · replace h := h.2 c188
                                          refine ga_aload_n hR (pc := 191) 1 rfl rfl dX10_least_191 ?_
                                          refine ga_get hR (pc := 192) 0 rfl rfl hinX10 31 (by decide) f66 rfl dX10_least_192 ?_
                                          refine ga_iload hR (pc := 195) 0 rfl dX10_least_195 ?_
                                          refine ga_iald hR (pc := 197) 5 rfl h.1 dX10_least_197 ?_
                                          replace h := h.2
                                          refine ga_if_ne hR (pc := 198) 207 (by decide) dX10_least_198 (fun c198 => ?_) (fun c198 => ?_)
                                          · replace h := h.1 c198
                                            refine ga_aload_n hR (pc := 207) 1 rfl rfl dX10_least_207 ?_
                                            refine ga_get hR (pc := 208) 0 rfl rfl hinX10 31 (by decide) f66 rfl dX10_least_208 ?_
                                            refine ga_iload hR (pc := 211) 0 rfl dX10_least_211 ?_
                                            refine ga_iald hR (pc := 213) 5 rfl h.1 dX10_least_213 ?_
                                            replace h := h.2
                                            refine ga_topi (fun t_87 et_87 => ?_)
                                            replace h := h t_87 et_87
                                            refine ga_iast hR (pc := 214) (ws' := [(a 0, .inr (10, [.int x_rules, .int x_places, .ref (a 1), .ref (a 2), .ref (a 3), .int x_newRules, .int x_newPlaces, .ref (a 4), .ref (a 5), .ref (a 6), .ref (a 7), .ref (a 8), .int x_acts, .int x_kept, .int x_length, .ref (a 9), .int x_next, .int x_place, .int x_isWrong, .ref (a 10), .ref (a 11), .ref (a 12), .int x_parts, .int x_without, .ref (a 13), .ref (a 14), .ref (a 15), .ref (a 16), .int x_ways, .ref (a 17), .ref (a 18), .ref (a 19), .ref (a 20)])), (a 1, .inl (V.2 0, 12, .inl x_rule)), (a 2, .inl (V.2 0, 10, .inl x_takes)), (a 3, .inl (V.2 0, 10, .inl x_behind)), (a 8, .inl (V.2 0, 732, .inl x_slot)), (a 19, .inl (V.2 0, 1024, .inl ((upd x_finer_82 r_83.toNatClampNeg t_87))))]) 5 rfl h.1 rfl dX10_least_214 ?_
                                            replace h := h.2
                                            obtain ⟨x_finer_88, ex_finer_88⟩ : ∃ f : Nat → Int32, f = upd x_finer_82 r_83.toNatClampNeg t_87 := ⟨_, rfl⟩
                                            refine ga_cast (ws' := [(a 0, .inr (10, [.int x_rules, .int x_places, .ref (a 1), .ref (a 2), .ref (a 3), .int x_newRules, .int x_newPlaces, .ref (a 4), .ref (a 5), .ref (a 6), .ref (a 7), .ref (a 8), .int x_acts, .int x_kept, .int x_length, .ref (a 9), .int x_next, .int x_place, .int x_isWrong, .ref (a 10), .ref (a 11), .ref (a 12), .int x_parts, .int x_without, .ref (a 13), .ref (a 14), .ref (a 15), .ref (a 16), .int x_ways, .ref (a 17), .ref (a 18), .ref (a 19), .ref (a 20)])), (a 1, .inl (V.2 0, 12, .inl x_rule)), (a 2, .inl (V.2 0, 10, .inl x_takes)), (a 3, .inl (V.2 0, 10, .inl x_behind)), (a 8, .inl (V.2 0, 732, .inl x_slot)), (a 19, .inl (V.2 0, 1024, .inl x_finer_88))]) (by rw [ex_finer_88]) rfl ?_
                                            replace h := h x_finer_88 ex_finer_88
                                            obtain ⟨v5_89, ev5_89⟩ : ∃ v : Int32, v = v5_81 + (nI 1) := ⟨_, rfl⟩
                                            replace h := h v5_89 ev5_89
                                            refine ga_iinc hR (pc := 215) (lv' := [(5, .int v5_89), (6, .int r_83), (0, .ref (a 0)), (1, .int p1), (2, .int v2_69), (4, .int v4_76)]) 5 (by decide) rfl ev5_89 (by decide) rfl dX10_least_215 ?_
                                            refine ga_goto hR (pc := 218) 152 (by decide) dX10_least_218 ?_
                                            exact ga_lv hR [2, 3, 4, 5, 0] rfl (ih _ _ h)
                                          · replace h := h.2 c198
                                            refine ga_iload_n hR (pc := 201) 3 rfl rfl dX10_least_201 ?_
                                            refine ga_iconst hR (pc := 202) (v := nI 1) (by decide) dX10_least_202 ?_
                                            refine ga_iadd hR (pc := 203) dX10_least_203 ?_
                                            refine ga_goto hR (pc := 204) 214 (by decide) dX10_least_204 ?_
                                            refine ga_topi (fun t_90 et_90 => ?_)
                                            replace h := h t_90 et_90
                                            refine ga_iast hR (pc := 214) (ws' := [(a 0, .inr (10, [.int x_rules, .int x_places, .ref (a 1), .ref (a 2), .ref (a 3), .int x_newRules, .int x_newPlaces, .ref (a 4), .ref (a 5), .ref (a 6), .ref (a 7), .ref (a 8), .int x_acts, .int x_kept, .int x_length, .ref (a 9), .int x_next, .int x_place, .int x_isWrong, .ref (a 10), .ref (a 11), .ref (a 12), .int x_parts, .int x_without, .ref (a 13), .ref (a 14), .ref (a 15), .ref (a 16), .int x_ways, .ref (a 17), .ref (a 18), .ref (a 19), .ref (a 20)])), (a 1, .inl (V.2 0, 12, .inl x_rule)), (a 2, .inl (V.2 0, 10, .inl x_takes)), (a 3, .inl (V.2 0, 10, .inl x_behind)), (a 8, .inl (V.2 0, 732, .inl x_slot)), (a 19, .inl (V.2 0, 1024, .inl ((upd x_finer_82 r_83.toNatClampNeg t_90))))]) 5 rfl h.1 rfl dX10_least_214 ?_
                                            replace h := h.2
                                            obtain ⟨x_finer_91, ex_finer_91⟩ : ∃ f : Nat → Int32, f = upd x_finer_82 r_83.toNatClampNeg t_90 := ⟨_, rfl⟩
                                            refine ga_cast (ws' := [(a 0, .inr (10, [.int x_rules, .int x_places, .ref (a 1), .ref (a 2), .ref (a 3), .int x_newRules, .int x_newPlaces, .ref (a 4), .ref (a 5), .ref (a 6), .ref (a 7), .ref (a 8), .int x_acts, .int x_kept, .int x_length, .ref (a 9), .int x_next, .int x_place, .int x_isWrong, .ref (a 10), .ref (a 11), .ref (a 12), .int x_parts, .int x_without, .ref (a 13), .ref (a 14), .ref (a 15), .ref (a 16), .int x_ways, .ref (a 17), .ref (a 18), .ref (a 19), .ref (a 20)])), (a 1, .inl (V.2 0, 12, .inl x_rule)), (a 2, .inl (V.2 0, 10, .inl x_takes)), (a 3, .inl (V.2 0, 10, .inl x_behind)), (a 8, .inl (V.2 0, 732, .inl x_slot)), (a 19, .inl (V.2 0, 1024, .inl x_finer_91))]) (by rw [ex_finer_91]) rfl ?_
                                            replace h := h x_finer_91 ex_finer_91
                                            obtain ⟨v5_92, ev5_92⟩ : ∃ v : Int32, v = v5_81 + (nI 1) := ⟨_, rfl⟩
                                            replace h := h v5_92 ev5_92
                                            refine ga_iinc hR (pc := 215) (lv' := [(5, .int v5_92), (6, .int r_83), (0, .ref (a 0)), (1, .int p1), (2, .int v2_69), (4, .int v4_76)]) 5 (by decide) rfl ev5_92 (by decide) rfl dX10_least_215 ?_
                                            refine ga_goto hR (pc := 218) 152 (by decide) dX10_least_218 ?_
                                            exact ga_lv hR [2, 3, 4, 5, 0] rfl (ih _ _ h)
                                exact ga_lv hR [1, 2, 3, 4, 0] rfl (L152 n _ _ h)
                        exact ga_lv hR [1, 2, 3, 0] rfl (L138 n _ _ h)
                    · replace h := h.2 c130
                      exact ga_lv hR [2] rfl h
                  · intro h
                    obtain ⟨n, h⟩ := h
                    have L77 : ∀ (n : Nat) (v3_93 : Int32) (v4_94 : Int32), lp_X10_least_77 x_places x_rule x_finer_70 p1 v2_69 (fun (v3_71 : Int32) => G 0 0 [(a 0, .inr (10, [.int x_rules, .int x_places, .ref (a 1), .ref (a 2), .ref (a 3), .int x_newRules, .int x_newPlaces, .ref (a 4), .ref (a 5), .ref (a 6), .ref (a 7), .ref (a 8), .int x_acts, .int x_kept, .int x_length, .ref (a 9), .int x_next, .int x_place, .int x_isWrong, .ref (a 10), .ref (a 11), .ref (a 12), .int x_parts, .int x_without, .ref (a 13), .ref (a 14), .ref (a 15), .ref (a 16), .int x_ways, .ref (a 17), .ref (a 18), .ref (a 19), .ref (a 20)])), (a 1, .inl (V.2 0, 12, .inl x_rule)), (a 2, .inl (V.2 0, 10, .inl x_takes)), (a 3, .inl (V.2 0, 10, .inl x_behind)), (a 8, .inl (V.2 0, 732, .inl x_slot)), (a 19, .inl (V.2 0, 1024, .inl x_finer_70))] 129 [(0, .ref (a 0)), (1, .int p1), (2, .int v2_69), (3, .int v3_71)] []) n v3_93 v4_94 → G 0 0 [(a 0, .inr (10, [.int x_rules, .int x_places, .ref (a 1), .ref (a 2), .ref (a 3), .int x_newRules, .int x_newPlaces, .ref (a 4), .ref (a 5), .ref (a 6), .ref (a 7), .ref (a 8), .int x_acts, .int x_kept, .int x_length, .ref (a 9), .int x_next, .int x_place, .int x_isWrong, .ref (a 10), .ref (a 11), .ref (a 12), .int x_parts, .int x_without, .ref (a 13), .ref (a 14), .ref (a 15), .ref (a 16), .int x_ways, .ref (a 17), .ref (a 18), .ref (a 19), .ref (a 20)])), (a 1, .inl (V.2 0, 12, .inl x_rule)), (a 2, .inl (V.2 0, 10, .inl x_takes)), (a 3, .inl (V.2 0, 10, .inl x_behind)), (a 8, .inl (V.2 0, 732, .inl x_slot)), (a 19, .inl (V.2 0, 1024, .inl x_finer_70))] 77 [(0, .ref (a 0)), (1, .int p1), (2, .int v2_69), (3, .int v3_93), (4, .int v4_94)] [] := by
                      intro n
                      induction n with
                      | zero => exact fun _ _ h => False.elim h
                      | succ n ih =>
                        intro v3_93 v4_94 h
                        rw [lp_X10_least_77] at h
                        refine ga_iload hR (pc := 77) 4 rfl dX10_least_77 ?_
                        refine ga_iconst hR (pc := 79) (v := nI 1) (by decide) dX10_least_79 ?_
                        refine ga_aload_n hR (pc := 80) 0 rfl rfl dX10_least_80 ?_
                        refine ga_get hR (pc := 81) 0 rfl rfl hinX10 1 (by decide) f121 rfl dX10_least_81 ?_
                        refine ga_ishl hR (pc := 84) dX10_least_84 ?_
                        refine ga_icmp_ge hR (pc := 85) 129 (by decide) dX10_least_85 (fun c85 => ?_) (fun c85 => ?_)
                        · replace h := h.1 c85
                          exact ga_lv hR [0, 1, 2, 3] rfl h
                        · replace h := h.2 c85
                          refine ga_iload_n hR (pc := 88) 3 rfl rfl dX10_least_88 ?_
                          refine ga_if_ne hR (pc := 89) 117 (by decide) dX10_least_89 (fun c89 => ?_) (fun c89 => ?_)
                          · replace h := h.1 c89
                            refine ga_iconst hR (pc := 117) (v := nI 1) (by decide) dX10_least_117 ?_
                            refine ga_goto hR (pc := 118) 122 (by decide) dX10_least_118 ?_
                            refine ga_istore_n hR (pc := 122) (lv' := [(3, .int (nI 1)), (0, .ref (a 0)), (1, .int p1), (2, .int v2_69), (4, .int v4_94)]) rfl (by decide) rfl dX10_least_122 ?_
                            obtain ⟨v4_95, ev4_95⟩ : ∃ v : Int32, v = v4_94 + (nI 1) := ⟨_, rfl⟩
                            replace h := h v4_95 ev4_95
                            refine ga_iinc hR (pc := 123) (lv' := [(4, .int v4_95), (3, .int (nI 1)), (0, .ref (a 0)), (1, .int p1), (2, .int v2_69)]) 4 (by decide) rfl ev4_95 (by decide) rfl dX10_least_123 ?_
                            refine ga_goto hR (pc := 126) 77 (by decide) dX10_least_126 ?_
                            exact ga_lv hR [2, 3, 4, 1, 0] rfl (ih _ _ h)
                          · replace h := h.2 c89
                            refine ga_aload_n hR (pc := 92) 0 rfl rfl dX10_least_92 ?_
                            refine ga_get hR (pc := 93) 0 rfl rfl hinX10 31 (by decide) f66 rfl dX10_least_93 ?_
                            refine ga_iload hR (pc := 96) 4 rfl dX10_least_96 ?_
                            refine ga_iald hR (pc := 98) 5 rfl h.1 dX10_least_98 ?_
                            replace h := h.2
                            refine ga_iload_n hR (pc := 99) 2 rfl rfl dX10_least_99 ?_
                            refine ga_icmp_ne hR (pc := 100) 121 (by decide) dX10_least_100 (fun c100 => ?_) (fun c100 => ?_)
                            · replace h := h.1 c100
                              refine ga_iconst hR (pc := 121) (v := nI 0) (by decide) dX10_least_121 ?_
                              refine ga_istore_n hR (pc := 122) (lv' := [(3, .int (nI 0)), (0, .ref (a 0)), (1, .int p1), (2, .int v2_69), (4, .int v4_94)]) rfl (by decide) rfl dX10_least_122 ?_
                              obtain ⟨v4_96, ev4_96⟩ : ∃ v : Int32, v = v4_94 + (nI 1) := ⟨_, rfl⟩
                              replace h := h v4_96 ev4_96
                              refine ga_iinc hR (pc := 123) (lv' := [(4, .int v4_96), (3, .int (nI 0)), (0, .ref (a 0)), (1, .int p1), (2, .int v2_69)]) 4 (by decide) rfl ev4_96 (by decide) rfl dX10_least_123 ?_
                              refine ga_goto hR (pc := 126) 77 (by decide) dX10_least_126 ?_
                              exact ga_lv hR [2, 3, 4, 1, 0] rfl (ih _ _ h)
                            · replace h := h.2 c100
                              refine ga_iload hR (pc := 103) 4 rfl dX10_least_103 ?_
                              refine ga_aload_n hR (pc := 105) 0 rfl rfl dX10_least_105 ?_
                              refine ga_get hR (pc := 106) 0 rfl rfl hinX10 2 (by decide) f7 rfl dX10_least_106 ?_
                              refine ga_iconst hR (pc := 109) (v := nI 4) (by decide) dX10_least_109 ?_
                              refine ga_iload_n hR (pc := 110) 1 rfl rfl dX10_least_110 ?_
                              refine ga_iadd hR (pc := 111) dX10_least_111 ?_
                              refine ga_iald hR (pc := 112) 1 rfl h.1 dX10_least_112 ?_
                              replace h := h.2
                              refine ga_iand hR (pc := 113) dX10_least_113 ?_
                              refine ga_if_eq hR (pc := 114) 121 (by decide) dX10_least_114 (fun c114 => ?_) (fun c114 => ?_)
                              · replace h := h.1 c114
                                refine ga_iconst hR (pc := 121) (v := nI 0) (by decide) dX10_least_121 ?_
                                refine ga_istore_n hR (pc := 122) (lv' := [(3, .int (nI 0)), (0, .ref (a 0)), (1, .int p1), (2, .int v2_69), (4, .int v4_94)]) rfl (by decide) rfl dX10_least_122 ?_
                                obtain ⟨v4_97, ev4_97⟩ : ∃ v : Int32, v = v4_94 + (nI 1) := ⟨_, rfl⟩
                                replace h := h v4_97 ev4_97
                                refine ga_iinc hR (pc := 123) (lv' := [(4, .int v4_97), (3, .int (nI 0)), (0, .ref (a 0)), (1, .int p1), (2, .int v2_69)]) 4 (by decide) rfl ev4_97 (by decide) rfl dX10_least_123 ?_
                                refine ga_goto hR (pc := 126) 77 (by decide) dX10_least_126 ?_
                                exact ga_lv hR [2, 3, 4, 1, 0] rfl (ih _ _ h)
                              · replace h := h.2 c114
                                refine ga_iconst hR (pc := 117) (v := nI 1) (by decide) dX10_least_117 ?_
                                refine ga_goto hR (pc := 118) 122 (by decide) dX10_least_118 ?_
                                refine ga_istore_n hR (pc := 122) (lv' := [(3, .int (nI 1)), (0, .ref (a 0)), (1, .int p1), (2, .int v2_69), (4, .int v4_94)]) rfl (by decide) rfl dX10_least_122 ?_
                                obtain ⟨v4_98, ev4_98⟩ : ∃ v : Int32, v = v4_94 + (nI 1) := ⟨_, rfl⟩
                                replace h := h v4_98 ev4_98
                                refine ga_iinc hR (pc := 123) (lv' := [(4, .int v4_98), (3, .int (nI 1)), (0, .ref (a 0)), (1, .int p1), (2, .int v2_69)]) 4 (by decide) rfl ev4_98 (by decide) rfl dX10_least_123 ?_
                                refine ga_goto hR (pc := 126) 77 (by decide) dX10_least_126 ?_
                                exact ga_lv hR [2, 3, 4, 1, 0] rfl (ih _ _ h)
                    exact ga_lv hR [2, 3, 4, 1, 0] rfl (L77 n _ _ h)
            exact ga_lv hR [1, 2, 0] rfl (L66 n _ _ h)
      · intro h
        obtain ⟨n, h⟩ := h
        have L34 : ∀ (n : Nat) (v2_102 : Int32) (x_finer_103 : Nat → Int32), lp_X10_least_34 x_rules x_places x_without x_rule x_takes (fun (x_finer_4 : Nat → Int32) => G 0 0 [(a 0, .inr (10, [.int x_rules, .int x_places, .ref (a 1), .ref (a 2), .ref (a 3), .int x_newRules, .int x_newPlaces, .ref (a 4), .ref (a 5), .ref (a 6), .ref (a 7), .ref (a 8), .int x_acts, .int x_kept, .int x_length, .ref (a 9), .int x_next, .int x_place, .int x_isWrong, .ref (a 10), .ref (a 11), .ref (a 12), .int x_parts, .int x_without, .ref (a 13), .ref (a 14), .ref (a 15), .ref (a 16), .int x_ways, .ref (a 17), .ref (a 18), .ref (a 19), .ref (a 20)])), (a 1, .inl (V.2 0, 12, .inl x_rule)), (a 2, .inl (V.2 0, 10, .inl x_takes)), (a 3, .inl (V.2 0, 10, .inl x_behind)), (a 8, .inl (V.2 0, 732, .inl x_slot)), (a 19, .inl (V.2 0, 1024, .inl x_finer_4))] 57 [(0, .ref (a 0)), (1, .int p1)] []) n v2_102 x_finer_103 → G 0 0 [(a 0, .inr (10, [.int x_rules, .int x_places, .ref (a 1), .ref (a 2), .ref (a 3), .int x_newRules, .int x_newPlaces, .ref (a 4), .ref (a 5), .ref (a 6), .ref (a 7), .ref (a 8), .int x_acts, .int x_kept, .int x_length, .ref (a 9), .int x_next, .int x_place, .int x_isWrong, .ref (a 10), .ref (a 11), .ref (a 12), .int x_parts, .int x_without, .ref (a 13), .ref (a 14), .ref (a 15), .ref (a 16), .int x_ways, .ref (a 17), .ref (a 18), .ref (a 19), .ref (a 20)])), (a 1, .inl (V.2 0, 12, .inl x_rule)), (a 2, .inl (V.2 0, 10, .inl x_takes)), (a 3, .inl (V.2 0, 10, .inl x_behind)), (a 8, .inl (V.2 0, 732, .inl x_slot)), (a 19, .inl (V.2 0, 1024, .inl x_finer_103))] 34 [(0, .ref (a 0)), (1, .int p1), (2, .int v2_102)] [] := by
          intro n
          induction n with
          | zero => exact fun _ _ h => False.elim h
          | succ n ih =>
            intro v2_102 x_finer_103 h
            rw [lp_X10_least_34] at h
            refine ga_iload_n hR (pc := 34) 2 rfl rfl dX10_least_34 ?_
            refine ga_bipush hR (pc := 35) (v := nI 6) (by decide) dX10_least_35 ?_
            refine ga_icmp_ge hR (pc := 37) 57 (by decide) dX10_least_37 (fun c37 => ?_) (fun c37 => ?_)
            · replace h := h.1 c37
              exact ga_lv hR [0, 1] rfl h
            · replace h := h.2 c37
              refine ga_aload_n hR (pc := 40) 0 rfl rfl dX10_least_40 ?_
              refine ga_get hR (pc := 41) 0 rfl rfl hinX10 31 (by decide) f66 rfl dX10_least_41 ?_
              refine ga_aload_n hR (pc := 44) 0 rfl rfl dX10_least_44 ?_
              refine ga_iload_n hR (pc := 45) 2 rfl rfl dX10_least_45 ?_
              refine ga_callV hR (pc := 46) (As := [.int v2_102]) (rest := [.ref (a 19)]) (st0 := [.int v2_102, .ref (a 0), .ref (a 19)]) (b := (a 0)) 1 (c_X10_begun V a x_newRules x_newPlaces x_acts x_kept x_length x_next x_place x_isWrong x_parts x_ways x_rules x_places x_without x_rule x_takes v2_102 _ h) (ga_same_i fun _ => rfl) gX10_least_X10_begun rfl rfl rfl hd_X10_begun ⟨Nat.le_of_ble_eq_true rfl, Nat.le_of_ble_eq_true rfl⟩ rfl rfl (Nat.le_of_ble_eq_true rfl) ⟨Nat.zero_le _, Nat.zero_le _⟩ [0, 1, 2] rfl rfl 0 rfl rfl dX10_least_46 ?_
              rintro _ _ ⟨r_104, ⟨⟩, rfl, rfl, h⟩
              refine ga_to [(a 0, .inr (10, [.int x_rules, .int x_places, .ref (a 1), .ref (a 2), .ref (a 3), .int x_newRules, .int x_newPlaces, .ref (a 4), .ref (a 5), .ref (a 6), .ref (a 7), .ref (a 8), .int x_acts, .int x_kept, .int x_length, .ref (a 9), .int x_next, .int x_place, .int x_isWrong, .ref (a 10), .ref (a 11), .ref (a 12), .int x_parts, .int x_without, .ref (a 13), .ref (a 14), .ref (a 15), .ref (a 16), .int x_ways, .ref (a 17), .ref (a 18), .ref (a 19), .ref (a 20)])), (a 1, .inl (V.2 0, 12, .inl x_rule)), (a 2, .inl (V.2 0, 10, .inl x_takes)), (a 3, .inl (V.2 0, 10, .inl x_behind)), (a 8, .inl (V.2 0, 732, .inl x_slot)), (a 19, .inl (V.2 0, 1024, .inl x_finer_103))] [.int r_104, .ref (a 19)] rfl rfl ?_
              try dsimp only at h
              refine ga_iconst hR (pc := 49) (v := nI 1) (by decide) dX10_least_49 ?_
              refine ga_iast hR (pc := 50) (ws' := [(a 0, .inr (10, [.int x_rules, .int x_places, .ref (a 1), .ref (a 2), .ref (a 3), .int x_newRules, .int x_newPlaces, .ref (a 4), .ref (a 5), .ref (a 6), .ref (a 7), .ref (a 8), .int x_acts, .int x_kept, .int x_length, .ref (a 9), .int x_next, .int x_place, .int x_isWrong, .ref (a 10), .ref (a 11), .ref (a 12), .int x_parts, .int x_without, .ref (a 13), .ref (a 14), .ref (a 15), .ref (a 16), .int x_ways, .ref (a 17), .ref (a 18), .ref (a 19), .ref (a 20)])), (a 1, .inl (V.2 0, 12, .inl x_rule)), (a 2, .inl (V.2 0, 10, .inl x_takes)), (a 3, .inl (V.2 0, 10, .inl x_behind)), (a 8, .inl (V.2 0, 732, .inl x_slot)), (a 19, .inl (V.2 0, 1024, .inl ((upd x_finer_103 r_104.toNatClampNeg (nI 1)))))]) 5 rfl h.1 rfl dX10_least_50 ?_
              replace h := h.2
              obtain ⟨x_finer_105, ex_finer_105⟩ : ∃ f : Nat → Int32, f = upd x_finer_103 r_104.toNatClampNeg (nI 1) := ⟨_, rfl⟩
              refine ga_cast (ws' := [(a 0, .inr (10, [.int x_rules, .int x_places, .ref (a 1), .ref (a 2), .ref (a 3), .int x_newRules, .int x_newPlaces, .ref (a 4), .ref (a 5), .ref (a 6), .ref (a 7), .ref (a 8), .int x_acts, .int x_kept, .int x_length, .ref (a 9), .int x_next, .int x_place, .int x_isWrong, .ref (a 10), .ref (a 11), .ref (a 12), .int x_parts, .int x_without, .ref (a 13), .ref (a 14), .ref (a 15), .ref (a 16), .int x_ways, .ref (a 17), .ref (a 18), .ref (a 19), .ref (a 20)])), (a 1, .inl (V.2 0, 12, .inl x_rule)), (a 2, .inl (V.2 0, 10, .inl x_takes)), (a 3, .inl (V.2 0, 10, .inl x_behind)), (a 8, .inl (V.2 0, 732, .inl x_slot)), (a 19, .inl (V.2 0, 1024, .inl x_finer_105))]) (by rw [ex_finer_105]) rfl ?_
              replace h := h x_finer_105 ex_finer_105
              obtain ⟨v2_106, ev2_106⟩ : ∃ v : Int32, v = v2_102 + (nI 1) := ⟨_, rfl⟩
              replace h := h v2_106 ev2_106
              refine ga_iinc hR (pc := 51) (lv' := [(2, .int v2_106), (0, .ref (a 0)), (1, .int p1)]) 2 (by decide) rfl ev2_106 (by decide) rfl dX10_least_51 ?_
              refine ga_goto hR (pc := 54) 34 (by decide) dX10_least_54 ?_
              exact ga_lv hR [1, 2, 0] rfl (ih _ _ h)
        exact ga_lv hR [1, 2, 0] rfl (L34 n _ _ h)
    · intro h
      obtain ⟨n, h⟩ := h
      have L12 : ∀ (n : Nat) (v2_109 : Int32) (x_finer_110 : Nat → Int32), lp_X10_least_12 (fun (x_finer_2 : Nat → Int32) => G 0 0 [(a 0, .inr (10, [.int x_rules, .int x_places, .ref (a 1), .ref (a 2), .ref (a 3), .int x_newRules, .int x_newPlaces, .ref (a 4), .ref (a 5), .ref (a 6), .ref (a 7), .ref (a 8), .int x_acts, .int x_kept, .int x_length, .ref (a 9), .int x_next, .int x_place, .int x_isWrong, .ref (a 10), .ref (a 11), .ref (a 12), .int x_parts, .int x_without, .ref (a 13), .ref (a 14), .ref (a 15), .ref (a 16), .int x_ways, .ref (a 17), .ref (a 18), .ref (a 19), .ref (a 20)])), (a 1, .inl (V.2 0, 12, .inl x_rule)), (a 2, .inl (V.2 0, 10, .inl x_takes)), (a 3, .inl (V.2 0, 10, .inl x_behind)), (a 8, .inl (V.2 0, 732, .inl x_slot)), (a 19, .inl (V.2 0, 1024, .inl x_finer_2))] 32 [(0, .ref (a 0)), (1, .int p1)] []) n v2_109 x_finer_110 → G 0 0 [(a 0, .inr (10, [.int x_rules, .int x_places, .ref (a 1), .ref (a 2), .ref (a 3), .int x_newRules, .int x_newPlaces, .ref (a 4), .ref (a 5), .ref (a 6), .ref (a 7), .ref (a 8), .int x_acts, .int x_kept, .int x_length, .ref (a 9), .int x_next, .int x_place, .int x_isWrong, .ref (a 10), .ref (a 11), .ref (a 12), .int x_parts, .int x_without, .ref (a 13), .ref (a 14), .ref (a 15), .ref (a 16), .int x_ways, .ref (a 17), .ref (a 18), .ref (a 19), .ref (a 20)])), (a 1, .inl (V.2 0, 12, .inl x_rule)), (a 2, .inl (V.2 0, 10, .inl x_takes)), (a 3, .inl (V.2 0, 10, .inl x_behind)), (a 8, .inl (V.2 0, 732, .inl x_slot)), (a 19, .inl (V.2 0, 1024, .inl x_finer_110))] 12 [(0, .ref (a 0)), (1, .int p1), (2, .int v2_109)] [] := by
        intro n
        induction n with
        | zero => exact fun _ _ h => False.elim h
        | succ n ih =>
          intro v2_109 x_finer_110 h
          rw [lp_X10_least_12] at h
          refine ga_iload_n hR (pc := 12) 2 rfl rfl dX10_least_12 ?_
          refine ga_sipush hR (pc := 13) (v := nI 1024) (by decide) dX10_least_13 ?_
          refine ga_icmp_ge hR (pc := 16) 32 (by decide) dX10_least_16 (fun c16 => ?_) (fun c16 => ?_)
          · replace h := h.1 c16
            exact ga_lv hR [0, 1] rfl h
          · replace h := h.2 c16
            refine ga_aload_n hR (pc := 19) 0 rfl rfl dX10_least_19 ?_
            refine ga_get hR (pc := 20) 0 rfl rfl hinX10 31 (by decide) f66 rfl dX10_least_20 ?_
            refine ga_iload_n hR (pc := 23) 2 rfl rfl dX10_least_23 ?_
            refine ga_iconst hR (pc := 24) (v := nI 0) (by decide) dX10_least_24 ?_
            refine ga_iast hR (pc := 25) (ws' := [(a 0, .inr (10, [.int x_rules, .int x_places, .ref (a 1), .ref (a 2), .ref (a 3), .int x_newRules, .int x_newPlaces, .ref (a 4), .ref (a 5), .ref (a 6), .ref (a 7), .ref (a 8), .int x_acts, .int x_kept, .int x_length, .ref (a 9), .int x_next, .int x_place, .int x_isWrong, .ref (a 10), .ref (a 11), .ref (a 12), .int x_parts, .int x_without, .ref (a 13), .ref (a 14), .ref (a 15), .ref (a 16), .int x_ways, .ref (a 17), .ref (a 18), .ref (a 19), .ref (a 20)])), (a 1, .inl (V.2 0, 12, .inl x_rule)), (a 2, .inl (V.2 0, 10, .inl x_takes)), (a 3, .inl (V.2 0, 10, .inl x_behind)), (a 8, .inl (V.2 0, 732, .inl x_slot)), (a 19, .inl (V.2 0, 1024, .inl ((upd x_finer_110 v2_109.toNatClampNeg (nI 0)))))]) 5 rfl h.1 rfl dX10_least_25 ?_
            replace h := h.2
            obtain ⟨x_finer_111, ex_finer_111⟩ : ∃ f : Nat → Int32, f = upd x_finer_110 v2_109.toNatClampNeg (nI 0) := ⟨_, rfl⟩
            refine ga_cast (ws' := [(a 0, .inr (10, [.int x_rules, .int x_places, .ref (a 1), .ref (a 2), .ref (a 3), .int x_newRules, .int x_newPlaces, .ref (a 4), .ref (a 5), .ref (a 6), .ref (a 7), .ref (a 8), .int x_acts, .int x_kept, .int x_length, .ref (a 9), .int x_next, .int x_place, .int x_isWrong, .ref (a 10), .ref (a 11), .ref (a 12), .int x_parts, .int x_without, .ref (a 13), .ref (a 14), .ref (a 15), .ref (a 16), .int x_ways, .ref (a 17), .ref (a 18), .ref (a 19), .ref (a 20)])), (a 1, .inl (V.2 0, 12, .inl x_rule)), (a 2, .inl (V.2 0, 10, .inl x_takes)), (a 3, .inl (V.2 0, 10, .inl x_behind)), (a 8, .inl (V.2 0, 732, .inl x_slot)), (a 19, .inl (V.2 0, 1024, .inl x_finer_111))]) (by rw [ex_finer_111]) rfl ?_
            replace h := h x_finer_111 ex_finer_111
            obtain ⟨v2_112, ev2_112⟩ : ∃ v : Int32, v = v2_109 + (nI 1) := ⟨_, rfl⟩
            replace h := h v2_112 ev2_112
            refine ga_iinc hR (pc := 26) (lv' := [(2, .int v2_112), (0, .ref (a 0)), (1, .int p1)]) 2 (by decide) rfl ev2_112 (by decide) rfl dX10_least_26 ?_
            refine ga_goto hR (pc := 29) 12 (by decide) dX10_least_29 ?_
            exact ga_lv hR [1, 2, 0] rfl (ih _ _ h)
      exact ga_lv hR [1, 2, 0] rfl (L12 n _ _ h)
  · replace h := h.2 c5
    refine ga_iconst hR (pc := 8) (v := -1) (by decide) dX10_least_8 ?_
    exact ga_iret hE dX10_least_9 rfl (ga_ri x_finer rfl h)

def rm_X10_day : Room := { frames := 4, cells := 0, slots := 0, locals := 99 }
theorem hd_X10_dayS : yX10_day.cls ≠ "java/lang/invoke/MethodHandle" ∧ yX10_day.cls ≠ "java/lang/invoke/VarHandle" ∧ (parseMethodDescriptor yX10_day.desc).map (fun d => d.parameters.length) = some 3 := by decide +kernel
theorem hd_X10_day : yX10_day.cls = RX10 ∧ yX10_day.cls ≠ "java/lang/invoke/MethodHandle" ∧ yX10_day.cls ≠ "java/lang/invoke/VarHandle" ∧ (parseMethodDescriptor yX10_day.desc).map (fun d => d.parameters.length) = some 3 := ⟨rfl, hd_X10_dayS⟩
set_option maxHeartbeats 4000000 in
set_option maxRecDepth 100000 in
theorem c_X10_day (V : ga_V) (a : Nat → Nat) (x_newRules : Int32) (x_newPlaces : Int32) (x_acts : Int32) (x_kept : Int32) (x_length : Int32) (x_next : Int32) (x_place : Int32) (x_isWrong : Int32) (x_parts : Int32) (x_ways : Int32) (x_rules : Int32) (x_places : Int32) (x_without : Int32) (x_rule : Nat → Int32) (x_takes : Nat → Int32) (x_behind : Nat → Int32) (x_slot : Nat → Int32) (x_stood : Nat → Int32) (x_parted : Nat → Int32) (p1 : Int32) (p2 : Int32) (p3 : Int32) (K : Int32 → (Nat → Int32) → (Nat → Int32) → (Nat → Int32) → Prop) (h : wp_X10_day x_rules x_places x_without x_rule x_takes x_behind x_slot x_stood x_parted p1 p2 p3 K) : ga_C V yX10_day wsX10_day rm_X10_day [.ref (a 0), .int p1, .int p2, .int p3] [(a 0, .inr (10, [.int x_rules, .int x_places, .ref (a 1), .ref (a 2), .ref (a 3), .int x_newRules, .int x_newPlaces, .ref (a 4), .ref (a 5), .ref (a 6), .ref (a 7), .ref (a 8), .int x_acts, .int x_kept, .int x_length, .ref (a 9), .int x_next, .int x_place, .int x_isWrong, .ref (a 10), .ref (a 11), .ref (a 12), .int x_parts, .int x_without, .ref (a 13), .ref (a 14), .ref (a 15), .ref (a 16), .int x_ways, .ref (a 17), .ref (a 18), .ref (a 19), .ref (a 20)])), (a 1, .inl (V.2 0, 12, .inl x_rule)), (a 2, .inl (V.2 0, 10, .inl x_takes)), (a 3, .inl (V.2 0, 10, .inl x_behind)), (a 8, .inl (V.2 0, 732, .inl x_slot)), (a 13, .inl (V.2 0, 31, .inl x_stood)), (a 14, .inl (V.2 1, 31, .inl x_parted))] 0 0 (ga_Fi (fun (u : (Nat → Int32) × (Nat → Int32) × (Nat → Int32)) => [(a 0, .inr (10, [.int x_rules, .int x_places, .ref (a 1), .ref (a 2), .ref (a 3), .int x_newRules, .int x_newPlaces, .ref (a 4), .ref (a 5), .ref (a 6), .ref (a 7), .ref (a 8), .int x_acts, .int x_kept, .int x_length, .ref (a 9), .int x_next, .int x_place, .int x_isWrong, .ref (a 10), .ref (a 11), .ref (a 12), .int x_parts, .int x_without, .ref (a 13), .ref (a 14), .ref (a 15), .ref (a 16), .int x_ways, .ref (a 17), .ref (a 18), .ref (a 19), .ref (a 20)])), (a 1, .inl (V.2 0, 12, .inl x_rule)), (a 2, .inl (V.2 0, 10, .inl x_takes)), (a 3, .inl (V.2 0, 10, .inl x_behind)), (a 8, .inl (V.2 0, 732, .inl u.1)), (a 13, .inl (V.2 0, 31, .inl u.2.1)), (a 14, .inl (V.2 1, 31, .inl u.2.2))]) (fun r u => K r u.1 u.2.1 u.2.2)) := by
  refine ga_met (cc := cX10_day) (maxL := 10) (rt := (some .int)) (by decide) rfl [(0, .ref (a 0)), (1, .int p1), (2, .int p2), (3, .int p3)] rfl (Nat.le_of_ble_eq_true rfl) ?_
  intro G hR hE
  have hinX10 : ∀ w ∈ u_ws RX10 TX10 33, w ∈ wsX10_day := by decide +kernel
  have f31 : Cond.fieldLink RX10 31 "BoundaryRulesModel" "slot" "[I" ∈ wsX10_day := by decide +kernel
  have f51 : Cond.fieldLink RX10 51 "BoundaryRulesModel" "parted" "[Z" ∈ wsX10_day := by decide +kernel
  unfold wp_X10_day at h
  refine ga_iload_n hR (pc := 0) 1 rfl rfl dX10_day_0 ?_
  refine ga_i2l hR (pc := 1) dX10_day_1 ?_
  refine ga_lconst hR (pc := 2) (v := lN 0) (by decide) dX10_day_2 ?_
  refine ga_ldc2 hR (pc := 3) (v := lN 9999) (by decide +kernel) dX10_day_3 ?_
  refine ga_callS hR (pc := 6) (As := [.long p1.toInt64, .long (lN 0), .long (lN 9999)]) (rest := []) (st0 := [.long (lN 9999), .long (lN 0), .long p1.toInt64]) 3 (c_X10_in V p1.toInt64 (lN 0) (lN 9999) _ h) (ga_same_i fun _ => rfl) gX10_day_X10_in rfl rfl rfl hd_X10_inS ⟨Nat.le_of_ble_eq_true rfl, Nat.le_of_ble_eq_true rfl⟩ rfl rfl (Nat.le_of_ble_eq_true rfl) ⟨Nat.zero_le _, Nat.zero_le _⟩ [] rfl rfl dX10_day_6 ?_
  rintro _ _ ⟨r_1, ⟨⟩, rfl, rfl, h⟩
  refine ga_to [(a 0, .inr (10, [.int x_rules, .int x_places, .ref (a 1), .ref (a 2), .ref (a 3), .int x_newRules, .int x_newPlaces, .ref (a 4), .ref (a 5), .ref (a 6), .ref (a 7), .ref (a 8), .int x_acts, .int x_kept, .int x_length, .ref (a 9), .int x_next, .int x_place, .int x_isWrong, .ref (a 10), .ref (a 11), .ref (a 12), .int x_parts, .int x_without, .ref (a 13), .ref (a 14), .ref (a 15), .ref (a 16), .int x_ways, .ref (a 17), .ref (a 18), .ref (a 19), .ref (a 20)])), (a 1, .inl (V.2 0, 12, .inl x_rule)), (a 2, .inl (V.2 0, 10, .inl x_takes)), (a 3, .inl (V.2 0, 10, .inl x_behind)), (a 8, .inl (V.2 0, 732, .inl x_slot)), (a 13, .inl (V.2 0, 31, .inl x_stood)), (a 14, .inl (V.2 1, 31, .inl x_parted))] [.int r_1] rfl rfl ?_
  try dsimp only at h
  refine ga_if_eq hR (pc := 9) 36 (by decide) dX10_day_9 (fun c9 => ?_) (fun c9 => ?_)
  · replace h := h.1 c9
    refine ga_iconst hR (pc := 36) (v := -1) (by decide) dX10_day_36 ?_
    exact ga_iret hE dX10_day_37 rfl (ga_ri (x_slot, x_stood, x_parted) rfl h)
  · replace h := h.2 c9
    refine ga_iload_n hR (pc := 12) 2 rfl rfl dX10_day_12 ?_
    refine ga_i2l hR (pc := 13) dX10_day_13 ?_
    refine ga_lconst hR (pc := 14) (v := lN 1) (by decide) dX10_day_14 ?_
    refine ga_ldc2 hR (pc := 15) (v := lN 40) (by decide +kernel) dX10_day_15 ?_
    refine ga_callS hR (pc := 18) (As := [.long p2.toInt64, .long (lN 1), .long (lN 40)]) (rest := []) (st0 := [.long (lN 40), .long (lN 1), .long p2.toInt64]) 3 (c_X10_in V p2.toInt64 (lN 1) (lN 40) _ h) (ga_same_i fun _ => rfl) gX10_day_X10_in rfl rfl rfl hd_X10_inS ⟨Nat.le_of_ble_eq_true rfl, Nat.le_of_ble_eq_true rfl⟩ rfl rfl (Nat.le_of_ble_eq_true rfl) ⟨Nat.zero_le _, Nat.zero_le _⟩ [] rfl rfl dX10_day_18 ?_
    rintro _ _ ⟨r_2, ⟨⟩, rfl, rfl, h⟩
    refine ga_to [(a 0, .inr (10, [.int x_rules, .int x_places, .ref (a 1), .ref (a 2), .ref (a 3), .int x_newRules, .int x_newPlaces, .ref (a 4), .ref (a 5), .ref (a 6), .ref (a 7), .ref (a 8), .int x_acts, .int x_kept, .int x_length, .ref (a 9), .int x_next, .int x_place, .int x_isWrong, .ref (a 10), .ref (a 11), .ref (a 12), .int x_parts, .int x_without, .ref (a 13), .ref (a 14), .ref (a 15), .ref (a 16), .int x_ways, .ref (a 17), .ref (a 18), .ref (a 19), .ref (a 20)])), (a 1, .inl (V.2 0, 12, .inl x_rule)), (a 2, .inl (V.2 0, 10, .inl x_takes)), (a 3, .inl (V.2 0, 10, .inl x_behind)), (a 8, .inl (V.2 0, 732, .inl x_slot)), (a 13, .inl (V.2 0, 31, .inl x_stood)), (a 14, .inl (V.2 1, 31, .inl x_parted))] [.int r_2] rfl rfl ?_
    try dsimp only at h
    refine ga_if_eq hR (pc := 21) 36 (by decide) dX10_day_21 (fun c21 => ?_) (fun c21 => ?_)
    · replace h := h.1 c21
      refine ga_iconst hR (pc := 36) (v := -1) (by decide) dX10_day_36 ?_
      exact ga_iret hE dX10_day_37 rfl (ga_ri (x_slot, x_stood, x_parted) rfl h)
    · replace h := h.2 c21
      refine ga_iload_n hR (pc := 24) 3 rfl rfl dX10_day_24 ?_
      refine ga_i2l hR (pc := 25) dX10_day_25 ?_
      refine ga_lconst hR (pc := 26) (v := lN 0) (by decide) dX10_day_26 ?_
      refine ga_ldc2 hR (pc := 27) (v := lN 2) (by decide +kernel) dX10_day_27 ?_
      refine ga_callS hR (pc := 30) (As := [.long p3.toInt64, .long (lN 0), .long (lN 2)]) (rest := []) (st0 := [.long (lN 2), .long (lN 0), .long p3.toInt64]) 3 (c_X10_in V p3.toInt64 (lN 0) (lN 2) _ h) (ga_same_i fun _ => rfl) gX10_day_X10_in rfl rfl rfl hd_X10_inS ⟨Nat.le_of_ble_eq_true rfl, Nat.le_of_ble_eq_true rfl⟩ rfl rfl (Nat.le_of_ble_eq_true rfl) ⟨Nat.zero_le _, Nat.zero_le _⟩ [] rfl rfl dX10_day_30 ?_
      rintro _ _ ⟨r_3, ⟨⟩, rfl, rfl, h⟩
      refine ga_to [(a 0, .inr (10, [.int x_rules, .int x_places, .ref (a 1), .ref (a 2), .ref (a 3), .int x_newRules, .int x_newPlaces, .ref (a 4), .ref (a 5), .ref (a 6), .ref (a 7), .ref (a 8), .int x_acts, .int x_kept, .int x_length, .ref (a 9), .int x_next, .int x_place, .int x_isWrong, .ref (a 10), .ref (a 11), .ref (a 12), .int x_parts, .int x_without, .ref (a 13), .ref (a 14), .ref (a 15), .ref (a 16), .int x_ways, .ref (a 17), .ref (a 18), .ref (a 19), .ref (a 20)])), (a 1, .inl (V.2 0, 12, .inl x_rule)), (a 2, .inl (V.2 0, 10, .inl x_takes)), (a 3, .inl (V.2 0, 10, .inl x_behind)), (a 8, .inl (V.2 0, 732, .inl x_slot)), (a 13, .inl (V.2 0, 31, .inl x_stood)), (a 14, .inl (V.2 1, 31, .inl x_parted))] [.int r_3] rfl rfl ?_
      try dsimp only at h
      refine ga_if_ne hR (pc := 33) 38 (by decide) dX10_day_33 (fun c33 => ?_) (fun c33 => ?_)
      · replace h := h.1 c33
        refine ga_aload_n hR (pc := 38) 0 rfl rfl dX10_day_38 ?_
        refine ga_iconst hR (pc := 39) (v := nI 0) (by decide) dX10_day_39 ?_
        refine ga_sipush hR (pc := 40) (v := nI 671) (by decide) dX10_day_40 ?_
        refine ga_callV hR (pc := 43) (As := [.int (nI 0), .int (nI 671)]) (rest := []) (st0 := [.int (nI 671), .int (nI 0), .ref (a 0)]) (b := (a 0)) 2 (c_X10_copies V a x_rules x_places x_newRules x_newPlaces x_acts x_kept x_length x_next x_place x_isWrong x_parts x_without x_ways x_slot (nI 0) (nI 671) _ h) (ga_same_v fun _ => rfl) gX10_day_X10_copies rfl rfl rfl hd_X10_copies ⟨Nat.le_of_ble_eq_true rfl, Nat.le_of_ble_eq_true rfl⟩ rfl rfl (Nat.le_of_ble_eq_true rfl) ⟨Nat.zero_le _, Nat.zero_le _⟩ [0, 4] rfl rfl 0 rfl rfl dX10_day_43 ?_
        rintro _ _ ⟨x_slot_4, rfl, rfl, h⟩
        refine ga_to [(a 0, .inr (10, [.int x_rules, .int x_places, .ref (a 1), .ref (a 2), .ref (a 3), .int x_newRules, .int x_newPlaces, .ref (a 4), .ref (a 5), .ref (a 6), .ref (a 7), .ref (a 8), .int x_acts, .int x_kept, .int x_length, .ref (a 9), .int x_next, .int x_place, .int x_isWrong, .ref (a 10), .ref (a 11), .ref (a 12), .int x_parts, .int x_without, .ref (a 13), .ref (a 14), .ref (a 15), .ref (a 16), .int x_ways, .ref (a 17), .ref (a 18), .ref (a 19), .ref (a 20)])), (a 1, .inl (V.2 0, 12, .inl x_rule)), (a 2, .inl (V.2 0, 10, .inl x_takes)), (a 3, .inl (V.2 0, 10, .inl x_behind)), (a 8, .inl (V.2 0, 732, .inl x_slot_4)), (a 13, .inl (V.2 0, 31, .inl x_stood)), (a 14, .inl (V.2 1, 31, .inl x_parted))] [] rfl rfl ?_
        try dsimp only at h
        refine ga_iconst hR (pc := 46) (v := nI 0) (by decide) dX10_day_46 ?_
        refine ga_istore hR (pc := 47) (lv' := [(4, .int (nI 0)), (0, .ref (a 0)), (1, .int p1), (2, .int p2), (3, .int p3)]) (by decide) rfl dX10_day_47 ?_
        have hJ := h (fun (x_slot_5 : Nat → Int32) => G 0 0 [(a 0, .inr (10, [.int x_rules, .int x_places, .ref (a 1), .ref (a 2), .ref (a 3), .int x_newRules, .int x_newPlaces, .ref (a 4), .ref (a 5), .ref (a 6), .ref (a 7), .ref (a 8), .int x_acts, .int x_kept, .int x_length, .ref (a 9), .int x_next, .int x_place, .int x_isWrong, .ref (a 10), .ref (a 11), .ref (a 12), .int x_parts, .int x_without, .ref (a 13), .ref (a 14), .ref (a 15), .ref (a 16), .int x_ways, .ref (a 17), .ref (a 18), .ref (a 19), .ref (a 20)])), (a 1, .inl (V.2 0, 12, .inl x_rule)), (a 2, .inl (V.2 0, 10, .inl x_takes)), (a 3, .inl (V.2 0, 10, .inl x_behind)), (a 8, .inl (V.2 0, 732, .inl x_slot_5)), (a 13, .inl (V.2 0, 31, .inl x_stood)), (a 14, .inl (V.2 1, 31, .inl x_parted))] 211 [(0, .ref (a 0)), (3, .int p3)] [])
        refine ga_bind hJ ?_ ?_
        · intro x_slot_5 h
          show G 0 0 [(a 0, .inr (10, [.int x_rules, .int x_places, .ref (a 1), .ref (a 2), .ref (a 3), .int x_newRules, .int x_newPlaces, .ref (a 4), .ref (a 5), .ref (a 6), .ref (a 7), .ref (a 8), .int x_acts, .int x_kept, .int x_length, .ref (a 9), .int x_next, .int x_place, .int x_isWrong, .ref (a 10), .ref (a 11), .ref (a 12), .int x_parts, .int x_without, .ref (a 13), .ref (a 14), .ref (a 15), .ref (a 16), .int x_ways, .ref (a 17), .ref (a 18), .ref (a 19), .ref (a 20)])), (a 1, .inl (V.2 0, 12, .inl x_rule)), (a 2, .inl (V.2 0, 10, .inl x_takes)), (a 3, .inl (V.2 0, 10, .inl x_behind)), (a 8, .inl (V.2 0, 732, .inl x_slot_5)), (a 13, .inl (V.2 0, 31, .inl x_stood)), (a 14, .inl (V.2 1, 31, .inl x_parted))] 211 [(0, .ref (a 0)), (3, .int p3)] []
          refine ga_aload_n hR (pc := 211) 0 rfl rfl dX10_day_211 ?_
          refine ga_sipush hR (pc := 212) (v := nI 671) (by decide) dX10_day_212 ?_
          refine ga_callV hR (pc := 215) (As := [.int (nI 671)]) (rest := []) (st0 := [.int (nI 671), .ref (a 0)]) (b := (a 0)) 1 (c_X10_walks V a x_newRules x_newPlaces x_acts x_kept x_length x_next x_place x_isWrong x_parts x_ways x_rules x_places x_without x_rule x_takes x_behind x_slot_5 x_stood x_parted (nI 671) _ h) (ga_same_v fun _ => rfl) gX10_day_X10_walks rfl rfl rfl hd_X10_walks ⟨Nat.le_of_ble_eq_true rfl, Nat.le_of_ble_eq_true rfl⟩ rfl rfl (Nat.le_of_ble_eq_true rfl) ⟨Nat.zero_le _, Nat.zero_le _⟩ [0, 1, 2, 3, 4, 5, 6] rfl rfl 0 rfl rfl dX10_day_215 ?_
          rintro _ _ ⟨⟨x_stood_7, x_parted_8⟩, rfl, rfl, h⟩
          refine ga_to [(a 0, .inr (10, [.int x_rules, .int x_places, .ref (a 1), .ref (a 2), .ref (a 3), .int x_newRules, .int x_newPlaces, .ref (a 4), .ref (a 5), .ref (a 6), .ref (a 7), .ref (a 8), .int x_acts, .int x_kept, .int x_length, .ref (a 9), .int x_next, .int x_place, .int x_isWrong, .ref (a 10), .ref (a 11), .ref (a 12), .int x_parts, .int x_without, .ref (a 13), .ref (a 14), .ref (a 15), .ref (a 16), .int x_ways, .ref (a 17), .ref (a 18), .ref (a 19), .ref (a 20)])), (a 1, .inl (V.2 0, 12, .inl x_rule)), (a 2, .inl (V.2 0, 10, .inl x_takes)), (a 3, .inl (V.2 0, 10, .inl x_behind)), (a 8, .inl (V.2 0, 732, .inl x_slot_5)), (a 13, .inl (V.2 0, 31, .inl x_stood_7)), (a 14, .inl (V.2 1, 31, .inl x_parted_8))] [] rfl rfl ?_
          try dsimp only at h
          refine ga_iconst hR (pc := 218) (v := nI 0) (by decide) dX10_day_218 ?_
          refine ga_istore hR (pc := 219) (lv' := [(4, .int (nI 0)), (0, .ref (a 0)), (3, .int p3)]) (by decide) rfl dX10_day_219 ?_
          refine ga_iconst hR (pc := 221) (v := nI 0) (by decide) dX10_day_221 ?_
          refine ga_istore hR (pc := 222) (lv' := [(5, .int (nI 0)), (4, .int (nI 0)), (0, .ref (a 0)), (3, .int p3)]) (by decide) rfl dX10_day_222 ?_
          refine ga_iconst hR (pc := 224) (v := nI 0) (by decide) dX10_day_224 ?_
          refine ga_istore hR (pc := 225) (lv' := [(6, .int (nI 0)), (5, .int (nI 0)), (4, .int (nI 0)), (0, .ref (a 0)), (3, .int p3)]) (by decide) rfl dX10_day_225 ?_
          have hJ := h (fun (v4_9 : Int32) => G 0 0 [(a 0, .inr (10, [.int x_rules, .int x_places, .ref (a 1), .ref (a 2), .ref (a 3), .int x_newRules, .int x_newPlaces, .ref (a 4), .ref (a 5), .ref (a 6), .ref (a 7), .ref (a 8), .int x_acts, .int x_kept, .int x_length, .ref (a 9), .int x_next, .int x_place, .int x_isWrong, .ref (a 10), .ref (a 11), .ref (a 12), .int x_parts, .int x_without, .ref (a 13), .ref (a 14), .ref (a 15), .ref (a 16), .int x_ways, .ref (a 17), .ref (a 18), .ref (a 19), .ref (a 20)])), (a 1, .inl (V.2 0, 12, .inl x_rule)), (a 2, .inl (V.2 0, 10, .inl x_takes)), (a 3, .inl (V.2 0, 10, .inl x_behind)), (a 8, .inl (V.2 0, 732, .inl x_slot_5)), (a 13, .inl (V.2 0, 31, .inl x_stood_7)), (a 14, .inl (V.2 1, 31, .inl x_parted_8))] 275 [(0, .ref (a 0)), (3, .int p3), (4, .int v4_9)] [])
          refine ga_bind hJ ?_ ?_
          · intro v4_9 h
            show G 0 0 [(a 0, .inr (10, [.int x_rules, .int x_places, .ref (a 1), .ref (a 2), .ref (a 3), .int x_newRules, .int x_newPlaces, .ref (a 4), .ref (a 5), .ref (a 6), .ref (a 7), .ref (a 8), .int x_acts, .int x_kept, .int x_length, .ref (a 9), .int x_next, .int x_place, .int x_isWrong, .ref (a 10), .ref (a 11), .ref (a 12), .int x_parts, .int x_without, .ref (a 13), .ref (a 14), .ref (a 15), .ref (a 16), .int x_ways, .ref (a 17), .ref (a 18), .ref (a 19), .ref (a 20)])), (a 1, .inl (V.2 0, 12, .inl x_rule)), (a 2, .inl (V.2 0, 10, .inl x_takes)), (a 3, .inl (V.2 0, 10, .inl x_behind)), (a 8, .inl (V.2 0, 732, .inl x_slot_5)), (a 13, .inl (V.2 0, 31, .inl x_stood_7)), (a 14, .inl (V.2 1, 31, .inl x_parted_8))] 275 [(0, .ref (a 0)), (3, .int p3), (4, .int v4_9)] []
            refine ga_iload_n hR (pc := 275) 1 rfl rfl dX10_day_275 ?_
            refine ga_if_ne hR (pc := 276) 290 (by decide) dX10_day_276 (fun c276 => ?_) (fun c276 => ?_)
            · replace h := h.1 c276
              refine ga_iload_n hR (pc := 290) 1 rfl rfl dX10_day_290 ?_
              refine ga_iconst hR (pc := 291) (v := nI 1) (by decide) dX10_day_291 ?_
              refine ga_icmp_ne hR (pc := 292) 305 (by decide) dX10_day_292 (fun c292 => ?_) (fun c292 => ?_)
              · replace h := h.1 c292
                refine ga_iload hR (pc := 305) 2 rfl dX10_day_305 ?_
                exact ga_iret hE dX10_day_307 rfl (ga_ri (x_slot_5, x_stood_7, x_parted_8) rfl h)
              · replace h := h.2 c292
                refine ga_aload_n hR (pc := 295) 0 rfl rfl dX10_day_295 ?_
                refine ga_sipush hR (pc := 296) (v := nI 671) (by decide) dX10_day_296 ?_
                refine ga_callV hR (pc := 299) (As := [.int (nI 671)]) (rest := []) (st0 := [.int (nI 671), .ref (a 0)]) (b := (a 0)) 1 (c_X10_pieces V a x_rules x_places x_newRules x_newPlaces x_acts x_kept x_length x_next x_place x_isWrong x_parts x_without x_ways x_slot_5 x_parted_8 (nI 671) _ h) (ga_same_i fun _ => rfl) gX10_day_X10_pieces rfl rfl rfl hd_X10_pieces ⟨Nat.le_of_ble_eq_true rfl, Nat.le_of_ble_eq_true rfl⟩ rfl rfl (Nat.le_of_ble_eq_true rfl) ⟨Nat.zero_le _, Nat.zero_le _⟩ [0, 4, 6] rfl rfl 0 rfl rfl dX10_day_299 ?_
                rintro _ _ ⟨r_11, ⟨⟩, rfl, rfl, h⟩
                refine ga_to [(a 0, .inr (10, [.int x_rules, .int x_places, .ref (a 1), .ref (a 2), .ref (a 3), .int x_newRules, .int x_newPlaces, .ref (a 4), .ref (a 5), .ref (a 6), .ref (a 7), .ref (a 8), .int x_acts, .int x_kept, .int x_length, .ref (a 9), .int x_next, .int x_place, .int x_isWrong, .ref (a 10), .ref (a 11), .ref (a 12), .int x_parts, .int x_without, .ref (a 13), .ref (a 14), .ref (a 15), .ref (a 16), .int x_ways, .ref (a 17), .ref (a 18), .ref (a 19), .ref (a 20)])), (a 1, .inl (V.2 0, 12, .inl x_rule)), (a 2, .inl (V.2 0, 10, .inl x_takes)), (a 3, .inl (V.2 0, 10, .inl x_behind)), (a 8, .inl (V.2 0, 732, .inl x_slot_5)), (a 13, .inl (V.2 0, 31, .inl x_stood_7)), (a 14, .inl (V.2 1, 31, .inl x_parted_8))] [.int r_11] rfl rfl ?_
                try dsimp only at h
                refine ga_goto hR (pc := 302) 307 (by decide) dX10_day_302 ?_
                exact ga_iret hE dX10_day_307 rfl (ga_ri (x_slot_5, x_stood_7, x_parted_8) rfl h)
            · replace h := h.2 c276
              refine ga_aload_n hR (pc := 279) 0 rfl rfl dX10_day_279 ?_
              refine ga_get hR (pc := 280) 0 rfl rfl hinX10 11 (by decide) f31 rfl dX10_day_280 ?_
              refine ga_sipush hR (pc := 283) (v := nI 701) (by decide) dX10_day_283 ?_
              refine ga_iald hR (pc := 286) 4 rfl h.1 dX10_day_286 ?_
              replace h := h.2
              refine ga_goto hR (pc := 287) 307 (by decide) dX10_day_287 ?_
              exact ga_iret hE dX10_day_307 rfl (ga_ri (x_slot_5, x_stood_7, x_parted_8) rfl h)
          · intro h
            obtain ⟨n, h⟩ := h
            have L227 : ∀ (n : Nat) (v4_16 : Int32) (v5_17 : Int32) (v6_18 : Int32), lp_X10_day_227 x_slot_5 x_parted_8 (fun (v4_9 : Int32) => G 0 0 [(a 0, .inr (10, [.int x_rules, .int x_places, .ref (a 1), .ref (a 2), .ref (a 3), .int x_newRules, .int x_newPlaces, .ref (a 4), .ref (a 5), .ref (a 6), .ref (a 7), .ref (a 8), .int x_acts, .int x_kept, .int x_length, .ref (a 9), .int x_next, .int x_place, .int x_isWrong, .ref (a 10), .ref (a 11), .ref (a 12), .int x_parts, .int x_without, .ref (a 13), .ref (a 14), .ref (a 15), .ref (a 16), .int x_ways, .ref (a 17), .ref (a 18), .ref (a 19), .ref (a 20)])), (a 1, .inl (V.2 0, 12, .inl x_rule)), (a 2, .inl (V.2 0, 10, .inl x_takes)), (a 3, .inl (V.2 0, 10, .inl x_behind)), (a 8, .inl (V.2 0, 732, .inl x_slot_5)), (a 13, .inl (V.2 0, 31, .inl x_stood_7)), (a 14, .inl (V.2 1, 31, .inl x_parted_8))] 275 [(0, .ref (a 0)), (3, .int p3), (4, .int v4_9)] []) n v4_16 v5_17 v6_18 → G 0 0 [(a 0, .inr (10, [.int x_rules, .int x_places, .ref (a 1), .ref (a 2), .ref (a 3), .int x_newRules, .int x_newPlaces, .ref (a 4), .ref (a 5), .ref (a 6), .ref (a 7), .ref (a 8), .int x_acts, .int x_kept, .int x_length, .ref (a 9), .int x_next, .int x_place, .int x_isWrong, .ref (a 10), .ref (a 11), .ref (a 12), .int x_parts, .int x_without, .ref (a 13), .ref (a 14), .ref (a 15), .ref (a 16), .int x_ways, .ref (a 17), .ref (a 18), .ref (a 19), .ref (a 20)])), (a 1, .inl (V.2 0, 12, .inl x_rule)), (a 2, .inl (V.2 0, 10, .inl x_takes)), (a 3, .inl (V.2 0, 10, .inl x_behind)), (a 8, .inl (V.2 0, 732, .inl x_slot_5)), (a 13, .inl (V.2 0, 31, .inl x_stood_7)), (a 14, .inl (V.2 1, 31, .inl x_parted_8))] 227 [(0, .ref (a 0)), (3, .int p3), (4, .int v4_16), (5, .int v5_17), (6, .int v6_18)] [] := by
              intro n
              induction n with
              | zero => exact fun _ _ _ h => False.elim h
              | succ n ih =>
                intro v4_16 v5_17 v6_18 h
                rw [lp_X10_day_227] at h
                refine ga_iload hR (pc := 227) 4 rfl dX10_day_227 ?_
                refine ga_aload_n hR (pc := 229) 0 rfl rfl dX10_day_229 ?_
                refine ga_get hR (pc := 230) 0 rfl rfl hinX10 11 (by decide) f31 rfl dX10_day_230 ?_
                refine ga_sipush hR (pc := 233) (v := nI 701) (by decide) dX10_day_233 ?_
                refine ga_iald hR (pc := 236) 4 rfl h.1 dX10_day_236 ?_
                replace h := h.2
                refine ga_icmp_ge hR (pc := 237) 275 (by decide) dX10_day_237 (fun c237 => ?_) (fun c237 => ?_)
                · replace h := h.1 c237
                  exact ga_lv hR [0, 1, 2] rfl h
                · replace h := h.2 c237
                  refine ga_aload_n hR (pc := 240) 0 rfl rfl dX10_day_240 ?_
                  refine ga_get hR (pc := 241) 0 rfl rfl hinX10 25 (by decide) f51 rfl dX10_day_241 ?_
                  refine ga_iload hR (pc := 244) 4 rfl dX10_day_244 ?_
                  refine ga_zald hR (pc := 246) 6 rfl h.1 dX10_day_246 ?_
                  replace h := h.2
                  have hJ := h (fun (s0_19 : Int32) => G 0 0 [(a 0, .inr (10, [.int x_rules, .int x_places, .ref (a 1), .ref (a 2), .ref (a 3), .int x_newRules, .int x_newPlaces, .ref (a 4), .ref (a 5), .ref (a 6), .ref (a 7), .ref (a 8), .int x_acts, .int x_kept, .int x_length, .ref (a 9), .int x_next, .int x_place, .int x_isWrong, .ref (a 10), .ref (a 11), .ref (a 12), .int x_parts, .int x_without, .ref (a 13), .ref (a 14), .ref (a 15), .ref (a 16), .int x_ways, .ref (a 17), .ref (a 18), .ref (a 19), .ref (a 20)])), (a 1, .inl (V.2 0, 12, .inl x_rule)), (a 2, .inl (V.2 0, 10, .inl x_takes)), (a 3, .inl (V.2 0, 10, .inl x_behind)), (a 8, .inl (V.2 0, 732, .inl x_slot_5)), (a 13, .inl (V.2 0, 31, .inl x_stood_7)), (a 14, .inl (V.2 1, 31, .inl x_parted_8))] 258 [(0, .ref (a 0)), (3, .int p3), (4, .int v4_16), (6, .int v6_18)] [.int s0_19])
                  refine ga_bind hJ ?_ ?_
                  · intro s0_19 h
                    show G 0 0 [(a 0, .inr (10, [.int x_rules, .int x_places, .ref (a 1), .ref (a 2), .ref (a 3), .int x_newRules, .int x_newPlaces, .ref (a 4), .ref (a 5), .ref (a 6), .ref (a 7), .ref (a 8), .int x_acts, .int x_kept, .int x_length, .ref (a 9), .int x_next, .int x_place, .int x_isWrong, .ref (a 10), .ref (a 11), .ref (a 12), .int x_parts, .int x_without, .ref (a 13), .ref (a 14), .ref (a 15), .ref (a 16), .int x_ways, .ref (a 17), .ref (a 18), .ref (a 19), .ref (a 20)])), (a 1, .inl (V.2 0, 12, .inl x_rule)), (a 2, .inl (V.2 0, 10, .inl x_takes)), (a 3, .inl (V.2 0, 10, .inl x_behind)), (a 8, .inl (V.2 0, 732, .inl x_slot_5)), (a 13, .inl (V.2 0, 31, .inl x_stood_7)), (a 14, .inl (V.2 1, 31, .inl x_parted_8))] 258 [(0, .ref (a 0)), (3, .int p3), (4, .int v4_16), (6, .int v6_18)] [.int s0_19]
                    refine ga_istore hR (pc := 258) (lv' := [(5, .int s0_19), (0, .ref (a 0)), (3, .int p3), (4, .int v4_16), (6, .int v6_18)]) (by decide) rfl dX10_day_258 ?_
                    refine ga_iload hR (pc := 260) 3 rfl dX10_day_260 ?_
                    refine ga_iload hR (pc := 262) 0 rfl dX10_day_262 ?_
                    refine ga_callS hR (pc := 264) (As := [.int v4_16, .int s0_19]) (rest := []) (st0 := [.int s0_19, .int v4_16]) 2 (c_X10_larger V v4_16 s0_19 _ h) (ga_same_i fun _ => rfl) gX10_day_X10_larger rfl rfl rfl hd_X10_largerS ⟨Nat.le_of_ble_eq_true rfl, Nat.le_of_ble_eq_true rfl⟩ rfl rfl (Nat.le_of_ble_eq_true rfl) ⟨Nat.zero_le _, Nat.zero_le _⟩ [] rfl rfl dX10_day_264 ?_
                    rintro _ _ ⟨r_21, ⟨⟩, rfl, rfl, h⟩
                    refine ga_to [(a 0, .inr (10, [.int x_rules, .int x_places, .ref (a 1), .ref (a 2), .ref (a 3), .int x_newRules, .int x_newPlaces, .ref (a 4), .ref (a 5), .ref (a 6), .ref (a 7), .ref (a 8), .int x_acts, .int x_kept, .int x_length, .ref (a 9), .int x_next, .int x_place, .int x_isWrong, .ref (a 10), .ref (a 11), .ref (a 12), .int x_parts, .int x_without, .ref (a 13), .ref (a 14), .ref (a 15), .ref (a 16), .int x_ways, .ref (a 17), .ref (a 18), .ref (a 19), .ref (a 20)])), (a 1, .inl (V.2 0, 12, .inl x_rule)), (a 2, .inl (V.2 0, 10, .inl x_takes)), (a 3, .inl (V.2 0, 10, .inl x_behind)), (a 8, .inl (V.2 0, 732, .inl x_slot_5)), (a 13, .inl (V.2 0, 31, .inl x_stood_7)), (a 14, .inl (V.2 1, 31, .inl x_parted_8))] [.int r_21] rfl rfl ?_
                    try dsimp only at h
                    refine ga_istore hR (pc := 267) (lv' := [(4, .int r_21), (5, .int s0_19), (0, .ref (a 0)), (3, .int p3), (6, .int v6_18)]) (by decide) rfl dX10_day_267 ?_
                    obtain ⟨v6_22, ev6_22⟩ : ∃ v : Int32, v = v6_18 + (nI 1) := ⟨_, rfl⟩
                    replace h := h v6_22 ev6_22
                    refine ga_iinc hR (pc := 269) (lv' := [(6, .int v6_22), (4, .int r_21), (5, .int s0_19), (0, .ref (a 0)), (3, .int p3)]) 4 (by decide) rfl ev6_22 (by decide) rfl dX10_day_269 ?_
                    refine ga_goto hR (pc := 272) 227 (by decide) dX10_day_272 ?_
                    exact ga_lv hR [3, 4, 1, 2, 0] rfl (ih _ _ _ h)
                  · intro h
                    refine ga_if_eq hR (pc := 247) 254 (by decide) dX10_day_247 (fun c247 => ?_) (fun c247 => ?_)
                    · replace h := h.1 c247
                      refine ga_iload hR (pc := 254) 3 rfl dX10_day_254 ?_
                      refine ga_iconst hR (pc := 256) (v := nI 1) (by decide) dX10_day_256 ?_
                      refine ga_iadd hR (pc := 257) dX10_day_257 ?_
                      exact ga_lv hR [0, 1, 2, 4] rfl h
                    · replace h := h.2 c247
                      refine ga_iconst hR (pc := 250) (v := nI 1) (by decide) dX10_day_250 ?_
                      refine ga_goto hR (pc := 251) 258 (by decide) dX10_day_251 ?_
                      exact ga_lv hR [0, 1, 2, 4] rfl h
            exact ga_lv hR [3, 4, 2, 1, 0] rfl (L227 n _ _ _ h)
        · intro h
          obtain ⟨n, h⟩ := h
          have L49 : ∀ (n : Nat) (v4_37 : Int32) (x_slot_38 : Nat → Int32), lp_X10_day_49 p1 p2 (fun (x_slot_5 : Nat → Int32) => G 0 0 [(a 0, .inr (10, [.int x_rules, .int x_places, .ref (a 1), .ref (a 2), .ref (a 3), .int x_newRules, .int x_newPlaces, .ref (a 4), .ref (a 5), .ref (a 6), .ref (a 7), .ref (a 8), .int x_acts, .int x_kept, .int x_length, .ref (a 9), .int x_next, .int x_place, .int x_isWrong, .ref (a 10), .ref (a 11), .ref (a 12), .int x_parts, .int x_without, .ref (a 13), .ref (a 14), .ref (a 15), .ref (a 16), .int x_ways, .ref (a 17), .ref (a 18), .ref (a 19), .ref (a 20)])), (a 1, .inl (V.2 0, 12, .inl x_rule)), (a 2, .inl (V.2 0, 10, .inl x_takes)), (a 3, .inl (V.2 0, 10, .inl x_behind)), (a 8, .inl (V.2 0, 732, .inl x_slot_5)), (a 13, .inl (V.2 0, 31, .inl x_stood)), (a 14, .inl (V.2 1, 31, .inl x_parted))] 211 [(0, .ref (a 0)), (3, .int p3)] []) n v4_37 x_slot_38 → G 0 0 [(a 0, .inr (10, [.int x_rules, .int x_places, .ref (a 1), .ref (a 2), .ref (a 3), .int x_newRules, .int x_newPlaces, .ref (a 4), .ref (a 5), .ref (a 6), .ref (a 7), .ref (a 8), .int x_acts, .int x_kept, .int x_length, .ref (a 9), .int x_next, .int x_place, .int x_isWrong, .ref (a 10), .ref (a 11), .ref (a 12), .int x_parts, .int x_without, .ref (a 13), .ref (a 14), .ref (a 15), .ref (a 16), .int x_ways, .ref (a 17), .ref (a 18), .ref (a 19), .ref (a 20)])), (a 1, .inl (V.2 0, 12, .inl x_rule)), (a 2, .inl (V.2 0, 10, .inl x_takes)), (a 3, .inl (V.2 0, 10, .inl x_behind)), (a 8, .inl (V.2 0, 732, .inl x_slot_38)), (a 13, .inl (V.2 0, 31, .inl x_stood)), (a 14, .inl (V.2 1, 31, .inl x_parted))] 49 [(0, .ref (a 0)), (1, .int p1), (2, .int p2), (3, .int p3), (4, .int v4_37)] [] := by
            intro n
            induction n with
            | zero => exact fun _ _ h => False.elim h
            | succ n ih =>
              intro v4_37 x_slot_38 h
              rw [lp_X10_day_49] at h
              refine ga_iload hR (pc := 49) 4 rfl dX10_day_49 ?_
              refine ga_iload_n hR (pc := 51) 2 rfl rfl dX10_day_51 ?_
              refine ga_icmp_ge hR (pc := 52) 211 (by decide) dX10_day_52 (fun c52 => ?_) (fun c52 => ?_)
              · replace h := h.1 c52
                exact ga_lv hR [0, 3] rfl h
              · replace h := h.2 c52
                refine ga_ldc2 hR (pc := 55) (v := lN 7919) (by decide +kernel) dX10_day_55 ?_
                refine ga_iload_n hR (pc := 58) 1 rfl rfl dX10_day_58 ?_
                refine ga_i2l hR (pc := 59) dX10_day_59 ?_
                refine ga_lmul hR (pc := 60) dX10_day_60 ?_
                refine ga_ldc2 hR (pc := 61) (v := lN 6151) (by decide +kernel) dX10_day_61 ?_
                refine ga_iload hR (pc := 64) 4 rfl dX10_day_64 ?_
                refine ga_i2l hR (pc := 66) dX10_day_66 ?_
                refine ga_lmul hR (pc := 67) dX10_day_67 ?_
                refine ga_ladd hR (pc := 68) dX10_day_68 ?_
                refine ga_lconst hR (pc := 69) (v := lN 1) (by decide) dX10_day_69 ?_
                refine ga_ladd hR (pc := 70) dX10_day_70 ?_
                refine ga_topl (fun v5_39 ev5_39 => ?_)
                replace h := h v5_39 ev5_39
                refine ga_lstore hR (pc := 71) (lv' := [(5, .long v5_39), (0, .ref (a 0)), (1, .int p1), (2, .int p2), (3, .int p3), (4, .int v4_37)]) (by decide) rfl dX10_day_71 ?_
                refine ga_lload hR (pc := 73) 0 rfl dX10_day_73 ?_
                refine ga_lload hR (pc := 75) 0 rfl dX10_day_75 ?_
                refine ga_lmul hR (pc := 77) dX10_day_77 ?_
                refine ga_ldc2 hR (pc := 78) (v := lN 65521) (by decide +kernel) dX10_day_78 ?_
                refine ga_lrem hR (pc := 81) (by decide) dX10_day_81 ?_
                refine ga_l2i hR (pc := 82) dX10_day_82 ?_
                refine ga_topi (fun v7_40 ev7_40 => ?_)
                replace h := h v7_40 ev7_40
                refine ga_istore hR (pc := 83) (lv' := [(7, .int v7_40), (5, .long v5_39), (0, .ref (a 0)), (1, .int p1), (2, .int p2), (3, .int p3), (4, .int v4_37)]) (by decide) rfl dX10_day_83 ?_
                refine ga_iload hR (pc := 85) 0 rfl dX10_day_85 ?_
                refine ga_iconst hR (pc := 87) (v := nI 4) (by decide) dX10_day_87 ?_
                refine ga_irem hR (pc := 88) (by decide) dX10_day_88 ?_
                refine ga_topi (fun v8_41 ev8_41 => ?_)
                replace h := h v8_41 ev8_41
                refine ga_istore hR (pc := 89) (lv' := [(8, .int v8_41), (7, .int v7_40), (5, .long v5_39), (0, .ref (a 0)), (1, .int p1), (2, .int p2), (3, .int p3), (4, .int v4_37)]) (by decide) rfl dX10_day_89 ?_
                refine ga_aload_n hR (pc := 91) 3 rfl rfl dX10_day_91 ?_
                refine ga_get hR (pc := 92) 0 rfl rfl hinX10 11 (by decide) f31 rfl dX10_day_92 ?_
                refine ga_sipush hR (pc := 95) (v := nI 701) (by decide) dX10_day_95 ?_
                refine ga_iald hR (pc := 98) 4 rfl h.1 dX10_day_98 ?_
                replace h := h.2
                refine ga_topi (fun v9_42 ev9_42 => ?_)
                replace h := h v9_42 ev9_42
                refine ga_istore hR (pc := 99) (lv' := [(9, .int v9_42), (8, .int v8_41), (7, .int v7_40), (5, .long v5_39), (0, .ref (a 0)), (1, .int p1), (2, .int p2), (3, .int p3), (4, .int v4_37)]) (by decide) rfl dX10_day_99 ?_
                refine ga_iload hR (pc := 101) 1 rfl dX10_day_101 ?_
                refine ga_iconst hR (pc := 103) (v := nI 2) (by decide) dX10_day_103 ?_
                have hJ := h (G 0 0 [(a 0, .inr (10, [.int x_rules, .int x_places, .ref (a 1), .ref (a 2), .ref (a 3), .int x_newRules, .int x_newPlaces, .ref (a 4), .ref (a 5), .ref (a 6), .ref (a 7), .ref (a 8), .int x_acts, .int x_kept, .int x_length, .ref (a 9), .int x_next, .int x_place, .int x_isWrong, .ref (a 10), .ref (a 11), .ref (a 12), .int x_parts, .int x_without, .ref (a 13), .ref (a 14), .ref (a 15), .ref (a 16), .int x_ways, .ref (a 17), .ref (a 18), .ref (a 19), .ref (a 20)])), (a 1, .inl (V.2 0, 12, .inl x_rule)), (a 2, .inl (V.2 0, 10, .inl x_takes)), (a 3, .inl (V.2 0, 10, .inl x_behind)), (a 8, .inl (V.2 0, 732, .inl x_slot_38)), (a 13, .inl (V.2 0, 31, .inl x_stood)), (a 14, .inl (V.2 1, 31, .inl x_parted))] 143 [(0, .ref (a 0)), (1, .int p1), (2, .int p2), (3, .int p3), (4, .int v4_37), (7, .int v7_40), (8, .int v8_41), (9, .int v9_42)] [])
                refine ga_bind hJ ?_ ?_
                · intro h
                  show G 0 0 [(a 0, .inr (10, [.int x_rules, .int x_places, .ref (a 1), .ref (a 2), .ref (a 3), .int x_newRules, .int x_newPlaces, .ref (a 4), .ref (a 5), .ref (a 6), .ref (a 7), .ref (a 8), .int x_acts, .int x_kept, .int x_length, .ref (a 9), .int x_next, .int x_place, .int x_isWrong, .ref (a 10), .ref (a 11), .ref (a 12), .int x_parts, .int x_without, .ref (a 13), .ref (a 14), .ref (a 15), .ref (a 16), .int x_ways, .ref (a 17), .ref (a 18), .ref (a 19), .ref (a 20)])), (a 1, .inl (V.2 0, 12, .inl x_rule)), (a 2, .inl (V.2 0, 10, .inl x_takes)), (a 3, .inl (V.2 0, 10, .inl x_behind)), (a 8, .inl (V.2 0, 732, .inl x_slot_38)), (a 13, .inl (V.2 0, 31, .inl x_stood)), (a 14, .inl (V.2 1, 31, .inl x_parted))] 143 [(0, .ref (a 0)), (1, .int p1), (2, .int p2), (3, .int p3), (4, .int v4_37), (7, .int v7_40), (8, .int v8_41), (9, .int v9_42)] []
                  refine ga_iload hR (pc := 143) 6 rfl dX10_day_143 ?_
                  refine ga_iconst hR (pc := 145) (v := nI 2) (by decide) dX10_day_145 ?_
                  have hJ := h (G 0 0 [(a 0, .inr (10, [.int x_rules, .int x_places, .ref (a 1), .ref (a 2), .ref (a 3), .int x_newRules, .int x_newPlaces, .ref (a 4), .ref (a 5), .ref (a 6), .ref (a 7), .ref (a 8), .int x_acts, .int x_kept, .int x_length, .ref (a 9), .int x_next, .int x_place, .int x_isWrong, .ref (a 10), .ref (a 11), .ref (a 12), .int x_parts, .int x_without, .ref (a 13), .ref (a 14), .ref (a 15), .ref (a 16), .int x_ways, .ref (a 17), .ref (a 18), .ref (a 19), .ref (a 20)])), (a 1, .inl (V.2 0, 12, .inl x_rule)), (a 2, .inl (V.2 0, 10, .inl x_takes)), (a 3, .inl (V.2 0, 10, .inl x_behind)), (a 8, .inl (V.2 0, 732, .inl x_slot_38)), (a 13, .inl (V.2 0, 31, .inl x_stood)), (a 14, .inl (V.2 1, 31, .inl x_parted))] 173 [(0, .ref (a 0)), (1, .int p1), (2, .int p2), (3, .int p3), (4, .int v4_37), (7, .int v7_40), (8, .int v8_41)] [])
                  refine ga_bind hJ ?_ ?_
                  · intro h
                    show G 0 0 [(a 0, .inr (10, [.int x_rules, .int x_places, .ref (a 1), .ref (a 2), .ref (a 3), .int x_newRules, .int x_newPlaces, .ref (a 4), .ref (a 5), .ref (a 6), .ref (a 7), .ref (a 8), .int x_acts, .int x_kept, .int x_length, .ref (a 9), .int x_next, .int x_place, .int x_isWrong, .ref (a 10), .ref (a 11), .ref (a 12), .int x_parts, .int x_without, .ref (a 13), .ref (a 14), .ref (a 15), .ref (a 16), .int x_ways, .ref (a 17), .ref (a 18), .ref (a 19), .ref (a 20)])), (a 1, .inl (V.2 0, 12, .inl x_rule)), (a 2, .inl (V.2 0, 10, .inl x_takes)), (a 3, .inl (V.2 0, 10, .inl x_behind)), (a 8, .inl (V.2 0, 732, .inl x_slot_38)), (a 13, .inl (V.2 0, 31, .inl x_stood)), (a 14, .inl (V.2 1, 31, .inl x_parted))] 173 [(0, .ref (a 0)), (1, .int p1), (2, .int p2), (3, .int p3), (4, .int v4_37), (7, .int v7_40), (8, .int v8_41)] []
                    refine ga_iload hR (pc := 173) 6 rfl dX10_day_173 ?_
                    refine ga_iconst hR (pc := 175) (v := nI 3) (by decide) dX10_day_175 ?_
                    refine ga_icmp_ne hR (pc := 176) 205 (by decide) dX10_day_176 (fun c176 => ?_) (fun c176 => ?_)
                    · replace h := h.1 c176
                      obtain ⟨v4_45, ev4_45⟩ : ∃ v : Int32, v = v4_37 + (nI 1) := ⟨_, rfl⟩
                      replace h := h v4_45 ev4_45
                      refine ga_iinc hR (pc := 205) (lv' := [(4, .int v4_45), (0, .ref (a 0)), (1, .int p1), (2, .int p2), (3, .int p3), (7, .int v7_40), (8, .int v8_41)]) 4 (by decide) rfl ev4_45 (by decide) rfl dX10_day_205 ?_
                      refine ga_goto hR (pc := 208) 49 (by decide) dX10_day_208 ?_
                      exact ga_lv hR [1, 2, 3, 4, 0] rfl (ih _ _ h)
                    · replace h := h.2 c176
                      refine ga_aload_n hR (pc := 179) 0 rfl rfl dX10_day_179 ?_
                      refine ga_get hR (pc := 180) 0 rfl rfl hinX10 11 (by decide) f31 rfl dX10_day_180 ?_
                      refine ga_sipush hR (pc := 183) (v := nI 671) (by decide) dX10_day_183 ?_
                      refine ga_iload hR (pc := 186) 5 rfl dX10_day_186 ?_
                      refine ga_bipush hR (pc := 188) (v := nI 8) (by decide) dX10_day_188 ?_
                      refine ga_idiv hR (pc := 190) (by decide) dX10_day_190 ?_
                      refine ga_bipush hR (pc := 191) (v := nI 26) (by decide) dX10_day_191 ?_
                      refine ga_irem hR (pc := 193) (by decide) dX10_day_193 ?_
                      refine ga_iadd hR (pc := 194) dX10_day_194 ?_
                      refine ga_iload hR (pc := 195) 5 rfl dX10_day_195 ?_
                      refine ga_sipush hR (pc := 197) (v := nI 256) (by decide) dX10_day_197 ?_
                      refine ga_idiv hR (pc := 200) (by decide) dX10_day_200 ?_
                      refine ga_bipush hR (pc := 201) (v := nI 6) (by decide) dX10_day_201 ?_
                      refine ga_irem hR (pc := 203) (by decide) dX10_day_203 ?_
                      refine ga_topi (fun t_46 et_46 => ?_)
                      replace h := h t_46 et_46
                      refine ga_iast hR (pc := 204) (ws' := [(a 0, .inr (10, [.int x_rules, .int x_places, .ref (a 1), .ref (a 2), .ref (a 3), .int x_newRules, .int x_newPlaces, .ref (a 4), .ref (a 5), .ref (a 6), .ref (a 7), .ref (a 8), .int x_acts, .int x_kept, .int x_length, .ref (a 9), .int x_next, .int x_place, .int x_isWrong, .ref (a 10), .ref (a 11), .ref (a 12), .int x_parts, .int x_without, .ref (a 13), .ref (a 14), .ref (a 15), .ref (a 16), .int x_ways, .ref (a 17), .ref (a 18), .ref (a 19), .ref (a 20)])), (a 1, .inl (V.2 0, 12, .inl x_rule)), (a 2, .inl (V.2 0, 10, .inl x_takes)), (a 3, .inl (V.2 0, 10, .inl x_behind)), (a 8, .inl (V.2 0, 732, .inl ((upd x_slot_38 ((nI 671) + ((v7_40 / (nI 8)) - (v7_40 / (nI 8)) / (nI 26) * (nI 26))).toNatClampNeg t_46)))), (a 13, .inl (V.2 0, 31, .inl x_stood)), (a 14, .inl (V.2 1, 31, .inl x_parted))]) 4 rfl h.1 rfl dX10_day_204 ?_
                      replace h := h.2
                      obtain ⟨x_slot_47, ex_slot_47⟩ : ∃ f : Nat → Int32, f = upd x_slot_38 ((nI 671) + ((v7_40 / (nI 8)) - (v7_40 / (nI 8)) / (nI 26) * (nI 26))).toNatClampNeg t_46 := ⟨_, rfl⟩
                      refine ga_cast (ws' := [(a 0, .inr (10, [.int x_rules, .int x_places, .ref (a 1), .ref (a 2), .ref (a 3), .int x_newRules, .int x_newPlaces, .ref (a 4), .ref (a 5), .ref (a 6), .ref (a 7), .ref (a 8), .int x_acts, .int x_kept, .int x_length, .ref (a 9), .int x_next, .int x_place, .int x_isWrong, .ref (a 10), .ref (a 11), .ref (a 12), .int x_parts, .int x_without, .ref (a 13), .ref (a 14), .ref (a 15), .ref (a 16), .int x_ways, .ref (a 17), .ref (a 18), .ref (a 19), .ref (a 20)])), (a 1, .inl (V.2 0, 12, .inl x_rule)), (a 2, .inl (V.2 0, 10, .inl x_takes)), (a 3, .inl (V.2 0, 10, .inl x_behind)), (a 8, .inl (V.2 0, 732, .inl x_slot_47)), (a 13, .inl (V.2 0, 31, .inl x_stood)), (a 14, .inl (V.2 1, 31, .inl x_parted))]) (by rw [ex_slot_47]) rfl ?_
                      replace h := h x_slot_47 ex_slot_47
                      obtain ⟨v4_48, ev4_48⟩ : ∃ v : Int32, v = v4_37 + (nI 1) := ⟨_, rfl⟩
                      replace h := h v4_48 ev4_48
                      refine ga_iinc hR (pc := 205) (lv' := [(4, .int v4_48), (0, .ref (a 0)), (1, .int p1), (2, .int p2), (3, .int p3), (7, .int v7_40), (8, .int v8_41)]) 4 (by decide) rfl ev4_48 (by decide) rfl dX10_day_205 ?_
                      refine ga_goto hR (pc := 208) 49 (by decide) dX10_day_208 ?_
                      exact ga_lv hR [1, 2, 3, 4, 0] rfl (ih _ _ h)
                  · intro h
                    refine ga_icmp_ne hR (pc := 146) 173 (by decide) dX10_day_146 (fun c146 => ?_) (fun c146 => ?_)
                    · replace h := h.1 c146
                      exact ga_lv hR [0, 1, 2, 3, 4, 5, 6] rfl h
                    · replace h := h.2 c146
                      refine ga_iload hR (pc := 149) 7 rfl dX10_day_149 ?_
                      refine ga_if_le hR (pc := 151) 173 (by decide) dX10_day_151 (fun c151 => ?_) (fun c151 => ?_)
                      · replace h := h.1 c151
                        exact ga_lv hR [0, 1, 2, 3, 4, 5, 6] rfl h
                      · replace h := h.2 c151
                        refine ga_aload_n hR (pc := 154) 0 rfl rfl dX10_day_154 ?_
                        refine ga_sipush hR (pc := 155) (v := nI 671) (by decide) dX10_day_155 ?_
                        refine ga_iload hR (pc := 158) 5 rfl dX10_day_158 ?_
                        refine ga_sipush hR (pc := 160) (v := nI 256) (by decide) dX10_day_160 ?_
                        refine ga_idiv hR (pc := 163) (by decide) dX10_day_163 ?_
                        refine ga_iload hR (pc := 164) 7 rfl dX10_day_164 ?_
                        refine ga_irem hR (pc := 166) h.1 dX10_day_166 ?_
                        replace h := h.2
                        refine ga_callV hR (pc := 167) (As := [.int (nI 671), .int ((v7_40 / (nI 256)) - (v7_40 / (nI 256)) / v9_42 * v9_42)]) (rest := []) (st0 := [.int ((v7_40 / (nI 256)) - (v7_40 / (nI 256)) / v9_42 * v9_42), .int (nI 671), .ref (a 0)]) (b := (a 0)) 2 (c_X10_takesOut V a x_rules x_places x_newRules x_newPlaces x_acts x_kept x_length x_next x_place x_isWrong x_parts x_without x_ways x_slot_38 (nI 671) ((v7_40 / (nI 256)) - (v7_40 / (nI 256)) / v9_42 * v9_42) _ h) (ga_same_v fun _ => rfl) gX10_day_X10_takesOut rfl rfl rfl hd_X10_takesOut ⟨Nat.le_of_ble_eq_true rfl, Nat.le_of_ble_eq_true rfl⟩ rfl rfl (Nat.le_of_ble_eq_true rfl) ⟨Nat.zero_le _, Nat.zero_le _⟩ [0, 4] rfl rfl 0 rfl rfl dX10_day_167 ?_
                        rintro _ _ ⟨x_slot_49, rfl, rfl, h⟩
                        refine ga_to [(a 0, .inr (10, [.int x_rules, .int x_places, .ref (a 1), .ref (a 2), .ref (a 3), .int x_newRules, .int x_newPlaces, .ref (a 4), .ref (a 5), .ref (a 6), .ref (a 7), .ref (a 8), .int x_acts, .int x_kept, .int x_length, .ref (a 9), .int x_next, .int x_place, .int x_isWrong, .ref (a 10), .ref (a 11), .ref (a 12), .int x_parts, .int x_without, .ref (a 13), .ref (a 14), .ref (a 15), .ref (a 16), .int x_ways, .ref (a 17), .ref (a 18), .ref (a 19), .ref (a 20)])), (a 1, .inl (V.2 0, 12, .inl x_rule)), (a 2, .inl (V.2 0, 10, .inl x_takes)), (a 3, .inl (V.2 0, 10, .inl x_behind)), (a 8, .inl (V.2 0, 732, .inl x_slot_49)), (a 13, .inl (V.2 0, 31, .inl x_stood)), (a 14, .inl (V.2 1, 31, .inl x_parted))] [] rfl rfl ?_
                        try dsimp only at h
                        refine ga_goto hR (pc := 170) 205 (by decide) dX10_day_170 ?_
                        obtain ⟨v4_50, ev4_50⟩ : ∃ v : Int32, v = v4_37 + (nI 1) := ⟨_, rfl⟩
                        replace h := h v4_50 ev4_50
                        refine ga_iinc hR (pc := 205) (lv' := [(4, .int v4_50), (0, .ref (a 0)), (1, .int p1), (2, .int p2), (3, .int p3), (7, .int v7_40), (8, .int v8_41), (9, .int v9_42)]) 4 (by decide) rfl ev4_50 (by decide) rfl dX10_day_205 ?_
                        refine ga_goto hR (pc := 208) 49 (by decide) dX10_day_208 ?_
                        exact ga_lv hR [1, 2, 3, 4, 0] rfl (ih _ _ h)
                · intro h
                  refine ga_icmp_ge hR (pc := 104) 143 (by decide) dX10_day_104 (fun c104 => ?_) (fun c104 => ?_)
                  · replace h := h.1 c104
                    exact ga_lv hR [4, 5, 6, 7, 8, 2, 1, 0] rfl h
                  · replace h := h.2 c104
                    refine ga_iload hR (pc := 107) 0 rfl dX10_day_107 ?_
                    refine ga_bipush hR (pc := 109) (v := nI 30) (by decide) dX10_day_109 ?_
                    refine ga_icmp_ge hR (pc := 111) 143 (by decide) dX10_day_111 (fun c111 => ?_) (fun c111 => ?_)
                    · replace h := h.1 c111
                      exact ga_lv hR [4, 5, 6, 7, 8, 2, 1, 0] rfl h
                    · replace h := h.2 c111
                      refine ga_aload_n hR (pc := 114) 4 rfl rfl dX10_day_114 ?_
                      refine ga_sipush hR (pc := 115) (v := nI 671) (by decide) dX10_day_115 ?_
                      refine ga_iload hR (pc := 118) 2 rfl dX10_day_118 ?_
                      refine ga_sipush hR (pc := 120) (v := nI 256) (by decide) dX10_day_120 ?_
                      refine ga_idiv hR (pc := 123) (by decide) dX10_day_123 ?_
                      refine ga_iload hR (pc := 124) 0 rfl dX10_day_124 ?_
                      refine ga_iconst hR (pc := 126) (v := nI 1) (by decide) dX10_day_126 ?_
                      refine ga_iadd hR (pc := 127) dX10_day_127 ?_
                      refine ga_irem hR (pc := 128) h.1 dX10_day_128 ?_
                      replace h := h.2
                      refine ga_iload hR (pc := 129) 2 rfl dX10_day_129 ?_
                      refine ga_bipush hR (pc := 131) (v := nI 8) (by decide) dX10_day_131 ?_
                      refine ga_idiv hR (pc := 133) (by decide) dX10_day_133 ?_
                      refine ga_bipush hR (pc := 134) (v := nI 26) (by decide) dX10_day_134 ?_
                      refine ga_irem hR (pc := 136) (by decide) dX10_day_136 ?_
                      refine ga_callV hR (pc := 137) (As := [.int (nI 671), .int ((v7_40 / (nI 256)) - (v7_40 / (nI 256)) / (v9_42 + (nI 1)) * (v9_42 + (nI 1))), .int ((v7_40 / (nI 8)) - (v7_40 / (nI 8)) / (nI 26) * (nI 26))]) (rest := []) (st0 := [.int ((v7_40 / (nI 8)) - (v7_40 / (nI 8)) / (nI 26) * (nI 26)), .int ((v7_40 / (nI 256)) - (v7_40 / (nI 256)) / (v9_42 + (nI 1)) * (v9_42 + (nI 1))), .int (nI 671), .ref (a 0)]) (b := (a 0)) 3 (c_X10_puts V a x_rules x_places x_newRules x_newPlaces x_acts x_kept x_length x_next x_place x_isWrong x_parts x_without x_ways x_slot_38 (nI 671) ((v7_40 / (nI 256)) - (v7_40 / (nI 256)) / (v9_42 + (nI 1)) * (v9_42 + (nI 1))) ((v7_40 / (nI 8)) - (v7_40 / (nI 8)) / (nI 26) * (nI 26)) _ h) (ga_same_v fun _ => rfl) gX10_day_X10_puts rfl rfl rfl hd_X10_puts ⟨Nat.le_of_ble_eq_true rfl, Nat.le_of_ble_eq_true rfl⟩ rfl rfl (Nat.le_of_ble_eq_true rfl) ⟨Nat.zero_le _, Nat.zero_le _⟩ [0, 4] rfl rfl 0 rfl rfl dX10_day_137 ?_
                      rintro _ _ ⟨x_slot_51, rfl, rfl, h⟩
                      refine ga_to [(a 0, .inr (10, [.int x_rules, .int x_places, .ref (a 1), .ref (a 2), .ref (a 3), .int x_newRules, .int x_newPlaces, .ref (a 4), .ref (a 5), .ref (a 6), .ref (a 7), .ref (a 8), .int x_acts, .int x_kept, .int x_length, .ref (a 9), .int x_next, .int x_place, .int x_isWrong, .ref (a 10), .ref (a 11), .ref (a 12), .int x_parts, .int x_without, .ref (a 13), .ref (a 14), .ref (a 15), .ref (a 16), .int x_ways, .ref (a 17), .ref (a 18), .ref (a 19), .ref (a 20)])), (a 1, .inl (V.2 0, 12, .inl x_rule)), (a 2, .inl (V.2 0, 10, .inl x_takes)), (a 3, .inl (V.2 0, 10, .inl x_behind)), (a 8, .inl (V.2 0, 732, .inl x_slot_51)), (a 13, .inl (V.2 0, 31, .inl x_stood)), (a 14, .inl (V.2 1, 31, .inl x_parted))] [] rfl rfl ?_
                      try dsimp only at h
                      refine ga_goto hR (pc := 140) 205 (by decide) dX10_day_140 ?_
                      obtain ⟨v4_52, ev4_52⟩ : ∃ v : Int32, v = v4_37 + (nI 1) := ⟨_, rfl⟩
                      replace h := h v4_52 ev4_52
                      refine ga_iinc hR (pc := 205) (lv' := [(4, .int v4_52), (9, .int v9_42), (8, .int v8_41), (7, .int v7_40), (5, .long v5_39), (0, .ref (a 0)), (1, .int p1), (2, .int p2), (3, .int p3)]) 8 (by decide) rfl ev4_52 (by decide) rfl dX10_day_205 ?_
                      refine ga_goto hR (pc := 208) 49 (by decide) dX10_day_208 ?_
                      exact ga_lv hR [5, 6, 7, 8, 0] rfl (ih _ _ h)
          exact ga_lv hR [1, 2, 3, 4, 0] rfl (L49 n _ _ h)
      · replace h := h.2 c33
        refine ga_iconst hR (pc := 36) (v := -1) (by decide) dX10_day_36 ?_
        exact ga_iret hE dX10_day_37 rfl (ga_ri (x_slot, x_stood, x_parted) rfl h)

def rm_X10_keep : Room := { frames := 1, cells := 0, slots := 0, locals := 23 }
theorem hd_X10_keepS : yX10_keep.cls ≠ "java/lang/invoke/MethodHandle" ∧ yX10_keep.cls ≠ "java/lang/invoke/VarHandle" ∧ (parseMethodDescriptor yX10_keep.desc).map (fun d => d.parameters.length) = some 0 := by decide +kernel
theorem hd_X10_keep : yX10_keep.cls = RX10 ∧ yX10_keep.cls ≠ "java/lang/invoke/MethodHandle" ∧ yX10_keep.cls ≠ "java/lang/invoke/VarHandle" ∧ (parseMethodDescriptor yX10_keep.desc).map (fun d => d.parameters.length) = some 0 := ⟨rfl, hd_X10_keepS⟩
set_option maxHeartbeats 4000000 in
set_option maxRecDepth 100000 in
theorem c_X10_keep (V : ga_V) (a : Nat → Nat) (x_rules : Int32) (x_places : Int32) (x_newRules : Int32) (x_newPlaces : Int32) (x_acts : Int32) (x_length : Int32) (x_next : Int32) (x_place : Int32) (x_isWrong : Int32) (x_parts : Int32) (x_without : Int32) (x_ways : Int32) (x_kept : Int32) (x_slot : Nat → Int32) (K : Int32 → Int32 → (Nat → Int32) → Prop) (h : wp_X10_keep x_kept x_slot K) : ga_C V yX10_keep wsX10_keep rm_X10_keep [.ref (a 0)] [(a 0, .inr (10, [.int x_rules, .int x_places, .ref (a 1), .ref (a 2), .ref (a 3), .int x_newRules, .int x_newPlaces, .ref (a 4), .ref (a 5), .ref (a 6), .ref (a 7), .ref (a 8), .int x_acts, .int x_kept, .int x_length, .ref (a 9), .int x_next, .int x_place, .int x_isWrong, .ref (a 10), .ref (a 11), .ref (a 12), .int x_parts, .int x_without, .ref (a 13), .ref (a 14), .ref (a 15), .ref (a 16), .int x_ways, .ref (a 17), .ref (a 18), .ref (a 19), .ref (a 20)])), (a 8, .inl (V.2 0, 732, .inl x_slot))] 0 0 (ga_Fi (fun (u : Int32 × (Nat → Int32)) => [(a 0, .inr (10, [.int x_rules, .int x_places, .ref (a 1), .ref (a 2), .ref (a 3), .int x_newRules, .int x_newPlaces, .ref (a 4), .ref (a 5), .ref (a 6), .ref (a 7), .ref (a 8), .int x_acts, .int u.1, .int x_length, .ref (a 9), .int x_next, .int x_place, .int x_isWrong, .ref (a 10), .ref (a 11), .ref (a 12), .int x_parts, .int x_without, .ref (a 13), .ref (a 14), .ref (a 15), .ref (a 16), .int x_ways, .ref (a 17), .ref (a 18), .ref (a 19), .ref (a 20)])), (a 8, .inl (V.2 0, 732, .inl u.2))]) (fun r u => K r u.1 u.2)) := by
  refine ga_met (cc := cX10_keep) (maxL := 1) (rt := (some .int)) (by decide) rfl [(0, .ref (a 0))] rfl (Nat.le_of_ble_eq_true rfl) ?_
  intro G hR hE
  have hinX10 : ∀ w ∈ u_ws RX10 TX10 33, w ∈ wsX10_keep := by decide +kernel
  have f127 : Cond.fieldLink RX10 127 "BoundaryRulesModel" "kept" "I" ∈ wsX10_keep := by decide +kernel
  unfold wp_X10_keep at h
  refine ga_aload_n hR (pc := 0) 0 rfl rfl dX10_keep_0 ?_
  refine ga_get hR (pc := 1) 0 rfl rfl hinX10 13 (by decide) f127 rfl dX10_keep_1 ?_
  refine ga_iconst hR (pc := 4) (v := nI 2) (by decide) dX10_keep_4 ?_
  refine ga_icmp_ne hR (pc := 5) 11 (by decide) dX10_keep_5 (fun c5 => ?_) (fun c5 => ?_)
  · replace h := h.1 c5
    refine ga_aload_n hR (pc := 11) 0 rfl rfl dX10_keep_11 ?_
    refine ga_iconst hR (pc := 12) (v := nI 0) (by decide) dX10_keep_12 ?_
    refine ga_sipush hR (pc := 13) (v := nI 549) (by decide) dX10_keep_13 ?_
    refine ga_aload_n hR (pc := 16) 0 rfl rfl dX10_keep_16 ?_
    refine ga_get hR (pc := 17) 0 rfl rfl hinX10 13 (by decide) f127 rfl dX10_keep_17 ?_
    refine ga_bipush hR (pc := 20) (v := nI 61) (by decide) dX10_keep_20 ?_
    refine ga_imul hR (pc := 22) dX10_keep_22 ?_
    refine ga_iadd hR (pc := 23) dX10_keep_23 ?_
    refine ga_callV hR (pc := 24) (As := [.int (nI 0), .int ((nI 549) + (x_kept * (nI 61)))]) (rest := []) (st0 := [.int ((nI 549) + (x_kept * (nI 61))), .int (nI 0), .ref (a 0)]) (b := (a 0)) 2 (c_X10_copies V a x_rules x_places x_newRules x_newPlaces x_acts x_kept x_length x_next x_place x_isWrong x_parts x_without x_ways x_slot (nI 0) ((nI 549) + (x_kept * (nI 61))) _ h) (ga_same_v fun _ => rfl) gX10_keep_X10_copies rfl rfl rfl hd_X10_copies ⟨Nat.le_of_ble_eq_true rfl, Nat.le_of_ble_eq_true rfl⟩ rfl rfl (Nat.le_of_ble_eq_true rfl) ⟨Nat.zero_le _, Nat.zero_le _⟩ [0, 1] rfl rfl 0 rfl rfl dX10_keep_24 ?_
    rintro _ _ ⟨x_slot_1, rfl, rfl, h⟩
    refine ga_to [(a 0, .inr (10, [.int x_rules, .int x_places, .ref (a 1), .ref (a 2), .ref (a 3), .int x_newRules, .int x_newPlaces, .ref (a 4), .ref (a 5), .ref (a 6), .ref (a 7), .ref (a 8), .int x_acts, .int x_kept, .int x_length, .ref (a 9), .int x_next, .int x_place, .int x_isWrong, .ref (a 10), .ref (a 11), .ref (a 12), .int x_parts, .int x_without, .ref (a 13), .ref (a 14), .ref (a 15), .ref (a 16), .int x_ways, .ref (a 17), .ref (a 18), .ref (a 19), .ref (a 20)])), (a 8, .inl (V.2 0, 732, .inl x_slot_1))] [] rfl rfl ?_
    try dsimp only at h
    refine ga_aload_n hR (pc := 27) 0 rfl rfl dX10_keep_27 ?_
    refine ga_dup hR (pc := 28) rfl dX10_keep_28 ?_
    refine ga_get hR (pc := 29) 0 rfl rfl hinX10 13 (by decide) f127 rfl dX10_keep_29 ?_
    refine ga_iconst hR (pc := 32) (v := nI 1) (by decide) dX10_keep_32 ?_
    refine ga_iadd hR (pc := 33) dX10_keep_33 ?_
    refine ga_topi (fun x_kept_2 ex_kept_2 => ?_)
    replace h := h x_kept_2 ex_kept_2
    refine ga_putf hR (pc := 34) (ws' := [(a 0, .inr (10, [.int x_rules, .int x_places, .ref (a 1), .ref (a 2), .ref (a 3), .int x_newRules, .int x_newPlaces, .ref (a 4), .ref (a 5), .ref (a 6), .ref (a 7), .ref (a 8), .int x_acts, .int x_kept_2, .int x_length, .ref (a 9), .int x_next, .int x_place, .int x_isWrong, .ref (a 10), .ref (a 11), .ref (a 12), .int x_parts, .int x_without, .ref (a 13), .ref (a 14), .ref (a 15), .ref (a 16), .int x_ways, .ref (a 17), .ref (a 18), .ref (a 19), .ref (a 20)])), (a 8, .inl (V.2 0, 732, .inl x_slot_1))]) 0 rfl rfl hinX10 13 (by decide) f127 tyX10_ok nmX10 rfl rfl rfl (Nat.le_of_ble_eq_true rfl) rfl dX10_keep_34 ?_
    refine ga_aload_n hR (pc := 37) 0 rfl rfl dX10_keep_37 ?_
    refine ga_get hR (pc := 38) 0 rfl rfl hinX10 13 (by decide) f127 rfl dX10_keep_38 ?_
    exact ga_iret hE dX10_keep_41 rfl (ga_ri (x_kept_2, x_slot_1) rfl h)
  · replace h := h.2 c5
    refine ga_bipush hR (pc := 8) (v := -3) (by decide) dX10_keep_8 ?_
    exact ga_iret hE dX10_keep_10 rfl (ga_ri (x_kept, x_slot) rfl h)

def rm_X10_restore : Room := { frames := 1, cells := 0, slots := 0, locals := 23 }
theorem hd_X10_restoreS : yX10_restore.cls ≠ "java/lang/invoke/MethodHandle" ∧ yX10_restore.cls ≠ "java/lang/invoke/VarHandle" ∧ (parseMethodDescriptor yX10_restore.desc).map (fun d => d.parameters.length) = some 0 := by decide +kernel
theorem hd_X10_restore : yX10_restore.cls = RX10 ∧ yX10_restore.cls ≠ "java/lang/invoke/MethodHandle" ∧ yX10_restore.cls ≠ "java/lang/invoke/VarHandle" ∧ (parseMethodDescriptor yX10_restore.desc).map (fun d => d.parameters.length) = some 0 := ⟨rfl, hd_X10_restoreS⟩
set_option maxHeartbeats 4000000 in
set_option maxRecDepth 100000 in
theorem c_X10_restore (V : ga_V) (a : Nat → Nat) (x_rules : Int32) (x_places : Int32) (x_newRules : Int32) (x_newPlaces : Int32) (x_length : Int32) (x_next : Int32) (x_place : Int32) (x_isWrong : Int32) (x_parts : Int32) (x_without : Int32) (x_ways : Int32) (x_acts : Int32) (x_kept : Int32) (x_slot : Nat → Int32) (K : Int32 → Int32 → Int32 → (Nat → Int32) → Prop) (h : wp_X10_restore x_acts x_kept x_slot K) : ga_C V yX10_restore wsX10_restore rm_X10_restore [.ref (a 0)] [(a 0, .inr (10, [.int x_rules, .int x_places, .ref (a 1), .ref (a 2), .ref (a 3), .int x_newRules, .int x_newPlaces, .ref (a 4), .ref (a 5), .ref (a 6), .ref (a 7), .ref (a 8), .int x_acts, .int x_kept, .int x_length, .ref (a 9), .int x_next, .int x_place, .int x_isWrong, .ref (a 10), .ref (a 11), .ref (a 12), .int x_parts, .int x_without, .ref (a 13), .ref (a 14), .ref (a 15), .ref (a 16), .int x_ways, .ref (a 17), .ref (a 18), .ref (a 19), .ref (a 20)])), (a 8, .inl (V.2 0, 732, .inl x_slot))] 0 0 (ga_Fi (fun (u : Int32 × Int32 × (Nat → Int32)) => [(a 0, .inr (10, [.int x_rules, .int x_places, .ref (a 1), .ref (a 2), .ref (a 3), .int x_newRules, .int x_newPlaces, .ref (a 4), .ref (a 5), .ref (a 6), .ref (a 7), .ref (a 8), .int u.1, .int u.2.1, .int x_length, .ref (a 9), .int x_next, .int x_place, .int x_isWrong, .ref (a 10), .ref (a 11), .ref (a 12), .int x_parts, .int x_without, .ref (a 13), .ref (a 14), .ref (a 15), .ref (a 16), .int x_ways, .ref (a 17), .ref (a 18), .ref (a 19), .ref (a 20)])), (a 8, .inl (V.2 0, 732, .inl u.2.2))]) (fun r u => K r u.1 u.2.1 u.2.2)) := by
  refine ga_met (cc := cX10_restore) (maxL := 1) (rt := (some .int)) (by decide) rfl [(0, .ref (a 0))] rfl (Nat.le_of_ble_eq_true rfl) ?_
  intro G hR hE
  have hinX10 : ∀ w ∈ u_ws RX10 TX10 33, w ∈ wsX10_restore := by decide +kernel
  have f127 : Cond.fieldLink RX10 127 "BoundaryRulesModel" "kept" "I" ∈ wsX10_restore := by decide +kernel
  have f124 : Cond.fieldLink RX10 124 "BoundaryRulesModel" "acts" "I" ∈ wsX10_restore := by decide +kernel
  unfold wp_X10_restore at h
  refine ga_aload_n hR (pc := 0) 0 rfl rfl dX10_restore_0 ?_
  refine ga_get hR (pc := 1) 0 rfl rfl hinX10 13 (by decide) f127 rfl dX10_restore_1 ?_
  refine ga_if_ne hR (pc := 4) 10 (by decide) dX10_restore_4 (fun c4 => ?_) (fun c4 => ?_)
  · replace h := h.1 c4
    refine ga_aload_n hR (pc := 10) 0 rfl rfl dX10_restore_10 ?_
    refine ga_dup hR (pc := 11) rfl dX10_restore_11 ?_
    refine ga_get hR (pc := 12) 0 rfl rfl hinX10 13 (by decide) f127 rfl dX10_restore_12 ?_
    refine ga_iconst hR (pc := 15) (v := nI 1) (by decide) dX10_restore_15 ?_
    refine ga_isub hR (pc := 16) dX10_restore_16 ?_
    refine ga_topi (fun x_kept_1 ex_kept_1 => ?_)
    replace h := h x_kept_1 ex_kept_1
    refine ga_putf hR (pc := 17) (ws' := [(a 0, .inr (10, [.int x_rules, .int x_places, .ref (a 1), .ref (a 2), .ref (a 3), .int x_newRules, .int x_newPlaces, .ref (a 4), .ref (a 5), .ref (a 6), .ref (a 7), .ref (a 8), .int x_acts, .int x_kept_1, .int x_length, .ref (a 9), .int x_next, .int x_place, .int x_isWrong, .ref (a 10), .ref (a 11), .ref (a 12), .int x_parts, .int x_without, .ref (a 13), .ref (a 14), .ref (a 15), .ref (a 16), .int x_ways, .ref (a 17), .ref (a 18), .ref (a 19), .ref (a 20)])), (a 8, .inl (V.2 0, 732, .inl x_slot))]) 0 rfl rfl hinX10 13 (by decide) f127 tyX10_ok nmX10 rfl rfl rfl (Nat.le_of_ble_eq_true rfl) rfl dX10_restore_17 ?_
    refine ga_aload_n hR (pc := 20) 0 rfl rfl dX10_restore_20 ?_
    refine ga_sipush hR (pc := 21) (v := nI 549) (by decide) dX10_restore_21 ?_
    refine ga_aload_n hR (pc := 24) 0 rfl rfl dX10_restore_24 ?_
    refine ga_get hR (pc := 25) 0 rfl rfl hinX10 13 (by decide) f127 rfl dX10_restore_25 ?_
    refine ga_bipush hR (pc := 28) (v := nI 61) (by decide) dX10_restore_28 ?_
    refine ga_imul hR (pc := 30) dX10_restore_30 ?_
    refine ga_iadd hR (pc := 31) dX10_restore_31 ?_
    refine ga_iconst hR (pc := 32) (v := nI 0) (by decide) dX10_restore_32 ?_
    refine ga_callV hR (pc := 33) (As := [.int ((nI 549) + (x_kept_1 * (nI 61))), .int (nI 0)]) (rest := []) (st0 := [.int (nI 0), .int ((nI 549) + (x_kept_1 * (nI 61))), .ref (a 0)]) (b := (a 0)) 2 (c_X10_copies V a x_rules x_places x_newRules x_newPlaces x_acts x_kept_1 x_length x_next x_place x_isWrong x_parts x_without x_ways x_slot ((nI 549) + (x_kept_1 * (nI 61))) (nI 0) _ h) (ga_same_v fun _ => rfl) gX10_restore_X10_copies rfl rfl rfl hd_X10_copies ⟨Nat.le_of_ble_eq_true rfl, Nat.le_of_ble_eq_true rfl⟩ rfl rfl (Nat.le_of_ble_eq_true rfl) ⟨Nat.zero_le _, Nat.zero_le _⟩ [0, 1] rfl rfl 0 rfl rfl dX10_restore_33 ?_
    rintro _ _ ⟨x_slot_2, rfl, rfl, h⟩
    refine ga_to [(a 0, .inr (10, [.int x_rules, .int x_places, .ref (a 1), .ref (a 2), .ref (a 3), .int x_newRules, .int x_newPlaces, .ref (a 4), .ref (a 5), .ref (a 6), .ref (a 7), .ref (a 8), .int x_acts, .int x_kept_1, .int x_length, .ref (a 9), .int x_next, .int x_place, .int x_isWrong, .ref (a 10), .ref (a 11), .ref (a 12), .int x_parts, .int x_without, .ref (a 13), .ref (a 14), .ref (a 15), .ref (a 16), .int x_ways, .ref (a 17), .ref (a 18), .ref (a 19), .ref (a 20)])), (a 8, .inl (V.2 0, 732, .inl x_slot_2))] [] rfl rfl ?_
    try dsimp only at h
    refine ga_aload_n hR (pc := 36) 0 rfl rfl dX10_restore_36 ?_
    refine ga_iconst hR (pc := 37) (v := nI 0) (by decide) dX10_restore_37 ?_
    refine ga_putf hR (pc := 38) (ws' := [(a 0, .inr (10, [.int x_rules, .int x_places, .ref (a 1), .ref (a 2), .ref (a 3), .int x_newRules, .int x_newPlaces, .ref (a 4), .ref (a 5), .ref (a 6), .ref (a 7), .ref (a 8), .int (nI 0), .int x_kept_1, .int x_length, .ref (a 9), .int x_next, .int x_place, .int x_isWrong, .ref (a 10), .ref (a 11), .ref (a 12), .int x_parts, .int x_without, .ref (a 13), .ref (a 14), .ref (a 15), .ref (a 16), .int x_ways, .ref (a 17), .ref (a 18), .ref (a 19), .ref (a 20)])), (a 8, .inl (V.2 0, 732, .inl x_slot_2))]) 0 rfl rfl hinX10 12 (by decide) f124 tyX10_ok nmX10 rfl rfl rfl (Nat.le_of_ble_eq_true rfl) rfl dX10_restore_38 ?_
    refine ga_aload_n hR (pc := 41) 0 rfl rfl dX10_restore_41 ?_
    refine ga_get hR (pc := 42) 0 rfl rfl hinX10 13 (by decide) f127 rfl dX10_restore_42 ?_
    exact ga_iret hE dX10_restore_45 rfl (ga_ri (nI 0, x_kept_1, x_slot_2) rfl h)
  · replace h := h.2 c4
    refine ga_bipush hR (pc := 7) (v := -2) (by decide) dX10_restore_7 ?_
    exact ga_iret hE dX10_restore_9 rfl (ga_ri (x_acts, x_kept, x_slot) rfl h)

def rm_X10_count : Room := { frames := 4, cells := 0, slots := 0, locals := 99 }
theorem hd_X10_countS : yX10_count.cls ≠ "java/lang/invoke/MethodHandle" ∧ yX10_count.cls ≠ "java/lang/invoke/VarHandle" ∧ (parseMethodDescriptor yX10_count.desc).map (fun d => d.parameters.length) = some 1 := by decide +kernel
theorem hd_X10_count : yX10_count.cls = RX10 ∧ yX10_count.cls ≠ "java/lang/invoke/MethodHandle" ∧ yX10_count.cls ≠ "java/lang/invoke/VarHandle" ∧ (parseMethodDescriptor yX10_count.desc).map (fun d => d.parameters.length) = some 1 := ⟨rfl, hd_X10_countS⟩
set_option maxHeartbeats 4000000 in
set_option maxRecDepth 100000 in
theorem c_X10_count (V : ga_V) (a : Nat → Nat) (x_newRules : Int32) (x_newPlaces : Int32) (x_next : Int32) (x_place : Int32) (x_isWrong : Int32) (x_parts : Int32) (x_ways : Int32) (x_rules : Int32) (x_places : Int32) (x_acts : Int32) (x_kept : Int32) (x_length : Int32) (x_without : Int32) (x_rule : Nat → Int32) (x_takes : Nat → Int32) (x_behind : Nat → Int32) (x_slot : Nat → Int32) (x_stood : Nat → Int32) (x_parted : Nat → Int32) (p1 : Int32) (K : Int32 → (Nat → Int32) → (Nat → Int32) → Prop) (h : wp_X10_count x_rules x_places x_acts x_kept x_length x_without x_rule x_takes x_behind x_slot x_stood x_parted p1 K) : ga_C V yX10_count wsX10_count rm_X10_count [.ref (a 0), .int p1] [(a 0, .inr (10, [.int x_rules, .int x_places, .ref (a 1), .ref (a 2), .ref (a 3), .int x_newRules, .int x_newPlaces, .ref (a 4), .ref (a 5), .ref (a 6), .ref (a 7), .ref (a 8), .int x_acts, .int x_kept, .int x_length, .ref (a 9), .int x_next, .int x_place, .int x_isWrong, .ref (a 10), .ref (a 11), .ref (a 12), .int x_parts, .int x_without, .ref (a 13), .ref (a 14), .ref (a 15), .ref (a 16), .int x_ways, .ref (a 17), .ref (a 18), .ref (a 19), .ref (a 20)])), (a 1, .inl (V.2 0, 12, .inl x_rule)), (a 2, .inl (V.2 0, 10, .inl x_takes)), (a 3, .inl (V.2 0, 10, .inl x_behind)), (a 8, .inl (V.2 0, 732, .inl x_slot)), (a 13, .inl (V.2 0, 31, .inl x_stood)), (a 14, .inl (V.2 1, 31, .inl x_parted))] 0 0 (ga_Fi (fun (u : (Nat → Int32) × (Nat → Int32)) => [(a 0, .inr (10, [.int x_rules, .int x_places, .ref (a 1), .ref (a 2), .ref (a 3), .int x_newRules, .int x_newPlaces, .ref (a 4), .ref (a 5), .ref (a 6), .ref (a 7), .ref (a 8), .int x_acts, .int x_kept, .int x_length, .ref (a 9), .int x_next, .int x_place, .int x_isWrong, .ref (a 10), .ref (a 11), .ref (a 12), .int x_parts, .int x_without, .ref (a 13), .ref (a 14), .ref (a 15), .ref (a 16), .int x_ways, .ref (a 17), .ref (a 18), .ref (a 19), .ref (a 20)])), (a 1, .inl (V.2 0, 12, .inl x_rule)), (a 2, .inl (V.2 0, 10, .inl x_takes)), (a 3, .inl (V.2 0, 10, .inl x_behind)), (a 8, .inl (V.2 0, 732, .inl x_slot)), (a 13, .inl (V.2 0, 31, .inl u.1)), (a 14, .inl (V.2 1, 31, .inl u.2))]) (fun r u => K r u.1 u.2)) := by
  refine ga_met (cc := cX10_count) (maxL := 2) (rt := (some .int)) (by decide) rfl [(0, .ref (a 0)), (1, .int p1)] rfl (Nat.le_of_ble_eq_true rfl) ?_
  intro G hR hE
  have hinX10 : ∀ w ∈ u_ws RX10 TX10 33, w ∈ wsX10_count := by decide +kernel
  have f148 : Cond.fieldLink RX10 148 "BoundaryRulesModel" "length" "I" ∈ wsX10_count := by decide +kernel
  have f127 : Cond.fieldLink RX10 127 "BoundaryRulesModel" "kept" "I" ∈ wsX10_count := by decide +kernel
  have f124 : Cond.fieldLink RX10 124 "BoundaryRulesModel" "acts" "I" ∈ wsX10_count := by decide +kernel
  have f31 : Cond.fieldLink RX10 31 "BoundaryRulesModel" "slot" "[I" ∈ wsX10_count := by decide +kernel
  have f121 : Cond.fieldLink RX10 121 "BoundaryRulesModel" "places" "I" ∈ wsX10_count := by decide +kernel
  have f118 : Cond.fieldLink RX10 118 "BoundaryRulesModel" "rules" "I" ∈ wsX10_count := by decide +kernel
  unfold wp_X10_count at h
  refine ga_iload_n hR (pc := 0) 1 rfl rfl dX10_count_0 ?_
  refine ga_i2l hR (pc := 1) dX10_count_1 ?_
  refine ga_lconst hR (pc := 2) (v := lN 0) (by decide) dX10_count_2 ?_
  refine ga_ldc2 hR (pc := 3) (v := lN 6) (by decide +kernel) dX10_count_3 ?_
  refine ga_callS hR (pc := 6) (As := [.long p1.toInt64, .long (lN 0), .long (lN 6)]) (rest := []) (st0 := [.long (lN 6), .long (lN 0), .long p1.toInt64]) 3 (c_X10_in V p1.toInt64 (lN 0) (lN 6) _ h) (ga_same_i fun _ => rfl) gX10_count_X10_in rfl rfl rfl hd_X10_inS ⟨Nat.le_of_ble_eq_true rfl, Nat.le_of_ble_eq_true rfl⟩ rfl rfl (Nat.le_of_ble_eq_true rfl) ⟨Nat.zero_le _, Nat.zero_le _⟩ [] rfl rfl dX10_count_6 ?_
  rintro _ _ ⟨r_1, ⟨⟩, rfl, rfl, h⟩
  refine ga_to [(a 0, .inr (10, [.int x_rules, .int x_places, .ref (a 1), .ref (a 2), .ref (a 3), .int x_newRules, .int x_newPlaces, .ref (a 4), .ref (a 5), .ref (a 6), .ref (a 7), .ref (a 8), .int x_acts, .int x_kept, .int x_length, .ref (a 9), .int x_next, .int x_place, .int x_isWrong, .ref (a 10), .ref (a 11), .ref (a 12), .int x_parts, .int x_without, .ref (a 13), .ref (a 14), .ref (a 15), .ref (a 16), .int x_ways, .ref (a 17), .ref (a 18), .ref (a 19), .ref (a 20)])), (a 1, .inl (V.2 0, 12, .inl x_rule)), (a 2, .inl (V.2 0, 10, .inl x_takes)), (a 3, .inl (V.2 0, 10, .inl x_behind)), (a 8, .inl (V.2 0, 732, .inl x_slot)), (a 13, .inl (V.2 0, 31, .inl x_stood)), (a 14, .inl (V.2 1, 31, .inl x_parted))] [.int r_1] rfl rfl ?_
  try dsimp only at h
  refine ga_if_ne hR (pc := 9) 14 (by decide) dX10_count_9 (fun c9 => ?_) (fun c9 => ?_)
  · replace h := h.1 c9
    refine ga_aload_n hR (pc := 14) 0 rfl rfl dX10_count_14 ?_
    refine ga_iconst hR (pc := 15) (v := nI 0) (by decide) dX10_count_15 ?_
    refine ga_callV hR (pc := 16) (As := [.int (nI 0)]) (rest := []) (st0 := [.int (nI 0), .ref (a 0)]) (b := (a 0)) 1 (c_X10_walks V a x_newRules x_newPlaces x_acts x_kept x_length x_next x_place x_isWrong x_parts x_ways x_rules x_places x_without x_rule x_takes x_behind x_slot x_stood x_parted (nI 0) _ h) (ga_same_v fun _ => rfl) gX10_count_X10_walks rfl rfl rfl hd_X10_walks ⟨Nat.le_of_ble_eq_true rfl, Nat.le_of_ble_eq_true rfl⟩ rfl rfl (Nat.le_of_ble_eq_true rfl) ⟨Nat.zero_le _, Nat.zero_le _⟩ [0, 1, 2, 3, 4, 5, 6] rfl rfl 0 rfl rfl dX10_count_16 ?_
    rintro _ _ ⟨⟨x_stood_2, x_parted_3⟩, rfl, rfl, h⟩
    refine ga_to [(a 0, .inr (10, [.int x_rules, .int x_places, .ref (a 1), .ref (a 2), .ref (a 3), .int x_newRules, .int x_newPlaces, .ref (a 4), .ref (a 5), .ref (a 6), .ref (a 7), .ref (a 8), .int x_acts, .int x_kept, .int x_length, .ref (a 9), .int x_next, .int x_place, .int x_isWrong, .ref (a 10), .ref (a 11), .ref (a 12), .int x_parts, .int x_without, .ref (a 13), .ref (a 14), .ref (a 15), .ref (a 16), .int x_ways, .ref (a 17), .ref (a 18), .ref (a 19), .ref (a 20)])), (a 1, .inl (V.2 0, 12, .inl x_rule)), (a 2, .inl (V.2 0, 10, .inl x_takes)), (a 3, .inl (V.2 0, 10, .inl x_behind)), (a 8, .inl (V.2 0, 732, .inl x_slot)), (a 13, .inl (V.2 0, 31, .inl x_stood_2)), (a 14, .inl (V.2 1, 31, .inl x_parted_3))] [] rfl rfl ?_
    try dsimp only at h
    refine ga_iload_n hR (pc := 19) 1 rfl rfl dX10_count_19 ?_
    refine ga_if_ne hR (pc := 20) 30 (by decide) dX10_count_20 (fun c20 => ?_) (fun c20 => ?_)
    · replace h := h.1 c20
      refine ga_iload_n hR (pc := 30) 1 rfl rfl dX10_count_30 ?_
      refine ga_iconst hR (pc := 31) (v := nI 1) (by decide) dX10_count_31 ?_
      refine ga_icmp_ne hR (pc := 32) 42 (by decide) dX10_count_32 (fun c32 => ?_) (fun c32 => ?_)
      · replace h := h.1 c32
        refine ga_iload_n hR (pc := 42) 1 rfl rfl dX10_count_42 ?_
        refine ga_iconst hR (pc := 43) (v := nI 2) (by decide) dX10_count_43 ?_
        refine ga_icmp_ne hR (pc := 44) 57 (by decide) dX10_count_44 (fun c44 => ?_) (fun c44 => ?_)
        · replace h := h.1 c44
          refine ga_iload_n hR (pc := 57) 1 rfl rfl dX10_count_57 ?_
          refine ga_iconst hR (pc := 58) (v := nI 3) (by decide) dX10_count_58 ?_
          refine ga_icmp_ne hR (pc := 59) 70 (by decide) dX10_count_59 (fun c59 => ?_) (fun c59 => ?_)
          · replace h := h.1 c59
            refine ga_iload_n hR (pc := 70) 1 rfl rfl dX10_count_70 ?_
            refine ga_iconst hR (pc := 71) (v := nI 4) (by decide) dX10_count_71 ?_
            refine ga_icmp_ne hR (pc := 72) 82 (by decide) dX10_count_72 (fun c72 => ?_) (fun c72 => ?_)
            · replace h := h.1 c72
              refine ga_iload_n hR (pc := 82) 1 rfl rfl dX10_count_82 ?_
              refine ga_iconst hR (pc := 83) (v := nI 5) (by decide) dX10_count_83 ?_
              refine ga_icmp_ne hR (pc := 84) 94 (by decide) dX10_count_84 (fun c84 => ?_) (fun c84 => ?_)
              · replace h := h.1 c84
                refine ga_aload_n hR (pc := 94) 0 rfl rfl dX10_count_94 ?_
                refine ga_get hR (pc := 95) 0 rfl rfl hinX10 14 (by decide) f148 rfl dX10_count_95 ?_
                exact ga_iret hE dX10_count_98 rfl (ga_ri (x_stood_2, x_parted_3) rfl h)
              · replace h := h.2 c84
                refine ga_aload_n hR (pc := 87) 0 rfl rfl dX10_count_87 ?_
                refine ga_get hR (pc := 88) 0 rfl rfl hinX10 13 (by decide) f127 rfl dX10_count_88 ?_
                refine ga_goto hR (pc := 91) 98 (by decide) dX10_count_91 ?_
                exact ga_iret hE dX10_count_98 rfl (ga_ri (x_stood_2, x_parted_3) rfl h)
            · replace h := h.2 c72
              refine ga_aload_n hR (pc := 75) 0 rfl rfl dX10_count_75 ?_
              refine ga_get hR (pc := 76) 0 rfl rfl hinX10 12 (by decide) f124 rfl dX10_count_76 ?_
              refine ga_goto hR (pc := 79) 98 (by decide) dX10_count_79 ?_
              exact ga_iret hE dX10_count_98 rfl (ga_ri (x_stood_2, x_parted_3) rfl h)
          · replace h := h.2 c59
            refine ga_aload_n hR (pc := 62) 0 rfl rfl dX10_count_62 ?_
            refine ga_iconst hR (pc := 63) (v := nI 0) (by decide) dX10_count_63 ?_
            refine ga_callV hR (pc := 64) (As := [.int (nI 0)]) (rest := []) (st0 := [.int (nI 0), .ref (a 0)]) (b := (a 0)) 1 (c_X10_pieces V a x_rules x_places x_newRules x_newPlaces x_acts x_kept x_length x_next x_place x_isWrong x_parts x_without x_ways x_slot x_parted_3 (nI 0) _ h) (ga_same_i fun _ => rfl) gX10_count_X10_pieces rfl rfl rfl hd_X10_pieces ⟨Nat.le_of_ble_eq_true rfl, Nat.le_of_ble_eq_true rfl⟩ rfl rfl (Nat.le_of_ble_eq_true rfl) ⟨Nat.zero_le _, Nat.zero_le _⟩ [0, 4, 6] rfl rfl 0 rfl rfl dX10_count_64 ?_
            rintro _ _ ⟨r_4, ⟨⟩, rfl, rfl, h⟩
            refine ga_to [(a 0, .inr (10, [.int x_rules, .int x_places, .ref (a 1), .ref (a 2), .ref (a 3), .int x_newRules, .int x_newPlaces, .ref (a 4), .ref (a 5), .ref (a 6), .ref (a 7), .ref (a 8), .int x_acts, .int x_kept, .int x_length, .ref (a 9), .int x_next, .int x_place, .int x_isWrong, .ref (a 10), .ref (a 11), .ref (a 12), .int x_parts, .int x_without, .ref (a 13), .ref (a 14), .ref (a 15), .ref (a 16), .int x_ways, .ref (a 17), .ref (a 18), .ref (a 19), .ref (a 20)])), (a 1, .inl (V.2 0, 12, .inl x_rule)), (a 2, .inl (V.2 0, 10, .inl x_takes)), (a 3, .inl (V.2 0, 10, .inl x_behind)), (a 8, .inl (V.2 0, 732, .inl x_slot)), (a 13, .inl (V.2 0, 31, .inl x_stood_2)), (a 14, .inl (V.2 1, 31, .inl x_parted_3))] [.int r_4] rfl rfl ?_
            try dsimp only at h
            refine ga_goto hR (pc := 67) 98 (by decide) dX10_count_67 ?_
            exact ga_iret hE dX10_count_98 rfl (ga_ri (x_stood_2, x_parted_3) rfl h)
        · replace h := h.2 c44
          refine ga_aload_n hR (pc := 47) 0 rfl rfl dX10_count_47 ?_
          refine ga_get hR (pc := 48) 0 rfl rfl hinX10 11 (by decide) f31 rfl dX10_count_48 ?_
          refine ga_bipush hR (pc := 51) (v := nI 30) (by decide) dX10_count_51 ?_
          refine ga_iald hR (pc := 53) 4 rfl h.1 dX10_count_53 ?_
          replace h := h.2
          refine ga_goto hR (pc := 54) 98 (by decide) dX10_count_54 ?_
          exact ga_iret hE dX10_count_98 rfl (ga_ri (x_stood_2, x_parted_3) rfl h)
      · replace h := h.2 c32
        refine ga_aload_n hR (pc := 35) 0 rfl rfl dX10_count_35 ?_
        refine ga_get hR (pc := 36) 0 rfl rfl hinX10 1 (by decide) f121 rfl dX10_count_36 ?_
        refine ga_goto hR (pc := 39) 98 (by decide) dX10_count_39 ?_
        exact ga_iret hE dX10_count_98 rfl (ga_ri (x_stood_2, x_parted_3) rfl h)
    · replace h := h.2 c20
      refine ga_aload_n hR (pc := 23) 0 rfl rfl dX10_count_23 ?_
      refine ga_get hR (pc := 24) 0 rfl rfl hinX10 0 (by decide) f118 rfl dX10_count_24 ?_
      refine ga_goto hR (pc := 27) 98 (by decide) dX10_count_27 ?_
      exact ga_iret hE dX10_count_98 rfl (ga_ri (x_stood_2, x_parted_3) rfl h)
  · replace h := h.2 c9
    refine ga_iconst hR (pc := 12) (v := -1) (by decide) dX10_count_12 ?_
    exact ga_iret hE dX10_count_13 rfl (ga_ri (x_stood, x_parted) rfl h)
