def rm_X10_in : Room := { frames := 0, cells := 0, slots := 0, locals := 0 }
theorem hd_X10_inS : yX10_in.cls ≠ "java/lang/invoke/MethodHandle" ∧ yX10_in.cls ≠ "java/lang/invoke/VarHandle" ∧ (parseMethodDescriptor yX10_in.desc).map (fun d => d.parameters.length) = some 3 := by decide +kernel
set_option maxHeartbeats 4000000 in
set_option maxRecDepth 100000 in
theorem c_X10_in (V : ga_V) (p0 : Int64) (p2 : Int64) (p4 : Int64) (K : Int32 → Prop) (h : wp_X10_in p0 p2 p4 K) : ga_C V yX10_in wsX10_in rm_X10_in [.long p0, .long p2, .long p4] [] 0 0 (ga_Fi (fun (u : Unit) => []) (fun r u => K r)) := by
  refine ga_met (cc := cX10_in) (maxL := 6) (rt := (some .boolean)) (by decide) rfl [(0, .long p0), (2, .long p2), (4, .long p4)] rfl (Nat.le_of_ble_eq_true rfl) ?_
  intro G hR hE
  unfold wp_X10_in at h
  refine ga_lload_n hR (pc := 0) 0 rfl rfl dX10_in_0 ?_
  refine ga_lload_n hR (pc := 1) 1 rfl rfl dX10_in_1 ?_
  refine ga_lcmp hR (pc := 2) dX10_in_2 ?_
  refine ga_if_lt hR (pc := 3) 17 (by decide) dX10_in_3 (fun c3 => ?_) (fun c3 => ?_)
  · replace h := h.1 c3
    refine ga_iconst hR (pc := 17) (v := nI 0) (by decide) dX10_in_17 ?_
    exact ga_iret hE dX10_in_18 (by decide) (ga_ri () rfl h)
  · replace h := h.2 c3
    refine ga_lload_n hR (pc := 6) 0 rfl rfl dX10_in_6 ?_
    refine ga_lload hR (pc := 7) 2 rfl dX10_in_7 ?_
    refine ga_lcmp hR (pc := 9) dX10_in_9 ?_
    refine ga_if_gt hR (pc := 10) 17 (by decide) dX10_in_10 (fun c10 => ?_) (fun c10 => ?_)
    · replace h := h.1 c10
      refine ga_iconst hR (pc := 17) (v := nI 0) (by decide) dX10_in_17 ?_
      exact ga_iret hE dX10_in_18 (by decide) (ga_ri () rfl h)
    · replace h := h.2 c10
      refine ga_iconst hR (pc := 13) (v := nI 1) (by decide) dX10_in_13 ?_
      refine ga_goto hR (pc := 14) 18 (by decide) dX10_in_14 ?_
      exact ga_iret hE dX10_in_18 (by decide) (ga_ri () rfl h)

def rm_X10_has : Room := { frames := 0, cells := 0, slots := 0, locals := 0 }
theorem hd_X10_hasS : yX10_has.cls ≠ "java/lang/invoke/MethodHandle" ∧ yX10_has.cls ≠ "java/lang/invoke/VarHandle" ∧ (parseMethodDescriptor yX10_has.desc).map (fun d => d.parameters.length) = some 2 := by decide +kernel
set_option maxHeartbeats 4000000 in
set_option maxRecDepth 100000 in
theorem c_X10_has (V : ga_V) (p0 : Int32) (p1 : Int32) (K : Int32 → Prop) (h : wp_X10_has p0 p1 K) : ga_C V yX10_has wsX10_has rm_X10_has [.int p0, .int p1] [] 0 0 (ga_Fi (fun (u : Unit) => []) (fun r u => K r)) := by
  refine ga_met (cc := cX10_has) (maxL := 2) (rt := (some .boolean)) (by decide) rfl [(0, .int p0), (1, .int p1)] rfl (Nat.le_of_ble_eq_true rfl) ?_
  intro G hR hE
  unfold wp_X10_has at h
  refine ga_iload_n hR (pc := 0) 0 rfl rfl dX10_has_0 ?_
  refine ga_iload_n hR (pc := 1) 1 rfl rfl dX10_has_1 ?_
  refine ga_ishr hR (pc := 2) dX10_has_2 ?_
  refine ga_iconst hR (pc := 3) (v := nI 1) (by decide) dX10_has_3 ?_
  refine ga_iand hR (pc := 4) dX10_has_4 ?_
  refine ga_iconst hR (pc := 5) (v := nI 1) (by decide) dX10_has_5 ?_
  refine ga_icmp_ne hR (pc := 6) 13 (by decide) dX10_has_6 (fun c6 => ?_) (fun c6 => ?_)
  · replace h := h.1 c6
    refine ga_iconst hR (pc := 13) (v := nI 0) (by decide) dX10_has_13 ?_
    exact ga_iret hE dX10_has_14 (by decide) (ga_ri () rfl h)
  · replace h := h.2 c6
    refine ga_iconst hR (pc := 9) (v := nI 1) (by decide) dX10_has_9 ?_
    refine ga_goto hR (pc := 10) 14 (by decide) dX10_has_10 ?_
    exact ga_iret hE dX10_has_14 (by decide) (ga_ri () rfl h)

def rm_X10_larger : Room := { frames := 0, cells := 0, slots := 0, locals := 0 }
theorem hd_X10_largerS : yX10_larger.cls ≠ "java/lang/invoke/MethodHandle" ∧ yX10_larger.cls ≠ "java/lang/invoke/VarHandle" ∧ (parseMethodDescriptor yX10_larger.desc).map (fun d => d.parameters.length) = some 2 := by decide +kernel
set_option maxHeartbeats 4000000 in
set_option maxRecDepth 100000 in
theorem c_X10_larger (V : ga_V) (p0 : Int32) (p1 : Int32) (K : Int32 → Prop) (h : wp_X10_larger p0 p1 K) : ga_C V yX10_larger wsX10_larger rm_X10_larger [.int p0, .int p1] [] 0 0 (ga_Fi (fun (u : Unit) => []) (fun r u => K r)) := by
  refine ga_met (cc := cX10_larger) (maxL := 2) (rt := (some .int)) (by decide) rfl [(0, .int p0), (1, .int p1)] rfl (Nat.le_of_ble_eq_true rfl) ?_
  intro G hR hE
  unfold wp_X10_larger at h
  refine ga_iload_n hR (pc := 0) 0 rfl rfl dX10_larger_0 ?_
  refine ga_iload_n hR (pc := 1) 1 rfl rfl dX10_larger_1 ?_
  refine ga_icmp_ge hR (pc := 2) 9 (by decide) dX10_larger_2 (fun c2 => ?_) (fun c2 => ?_)
  · replace h := h.1 c2
    refine ga_iload_n hR (pc := 9) 0 rfl rfl dX10_larger_9 ?_
    exact ga_iret hE dX10_larger_10 rfl (ga_ri () rfl h)
  · replace h := h.2 c2
    refine ga_iload_n hR (pc := 5) 1 rfl rfl dX10_larger_5 ?_
    refine ga_goto hR (pc := 6) 10 (by decide) dX10_larger_6 ?_
    exact ga_iret hE dX10_larger_10 rfl (ga_ri () rfl h)

def rm_X10_begins : Room := { frames := 0, cells := 0, slots := 0, locals := 0 }
theorem hd_X10_beginsS : yX10_begins.cls ≠ "java/lang/invoke/MethodHandle" ∧ yX10_begins.cls ≠ "java/lang/invoke/VarHandle" ∧ (parseMethodDescriptor yX10_begins.desc).map (fun d => d.parameters.length) = some 0 := by decide +kernel
theorem hd_X10_begins : yX10_begins.cls = RX10 ∧ yX10_begins.cls ≠ "java/lang/invoke/MethodHandle" ∧ yX10_begins.cls ≠ "java/lang/invoke/VarHandle" ∧ (parseMethodDescriptor yX10_begins.desc).map (fun d => d.parameters.length) = some 0 := ⟨rfl, hd_X10_beginsS⟩
set_option maxHeartbeats 4000000 in
set_option maxRecDepth 100000 in
theorem c_X10_begins (V : ga_V) (a : Nat → Nat) (x_rules : Int32) (x_places : Int32) (x_acts : Int32) (x_kept : Int32) (x_length : Int32) (x_next : Int32) (x_place : Int32) (x_isWrong : Int32) (x_parts : Int32) (x_without : Int32) (x_ways : Int32) (x_newRules : Int32) (x_newPlaces : Int32) (x_newSlot : Nat → Int32) (K : Int32 → Int32 → (Nat → Int32) → Prop) (h : wp_X10_begins x_newRules x_newPlaces x_newSlot K) : ga_C V yX10_begins wsX10_begins rm_X10_begins [.ref (a 0)] [(a 0, .inr (10, [.int x_rules, .int x_places, .ref (a 1), .ref (a 2), .ref (a 3), .int x_newRules, .int x_newPlaces, .ref (a 4), .ref (a 5), .ref (a 6), .ref (a 7), .ref (a 8), .int x_acts, .int x_kept, .int x_length, .ref (a 9), .int x_next, .int x_place, .int x_isWrong, .ref (a 10), .ref (a 11), .ref (a 12), .int x_parts, .int x_without, .ref (a 13), .ref (a 14), .ref (a 15), .ref (a 16), .int x_ways, .ref (a 17), .ref (a 18), .ref (a 19), .ref (a 20)])), (a 7, .inl (V.2 0, 61, .inl x_newSlot))] 0 0 (ga_Fv (fun (u : Int32 × Int32 × (Nat → Int32)) => [(a 0, .inr (10, [.int x_rules, .int x_places, .ref (a 1), .ref (a 2), .ref (a 3), .int u.1, .int u.2.1, .ref (a 4), .ref (a 5), .ref (a 6), .ref (a 7), .ref (a 8), .int x_acts, .int x_kept, .int x_length, .ref (a 9), .int x_next, .int x_place, .int x_isWrong, .ref (a 10), .ref (a 11), .ref (a 12), .int x_parts, .int x_without, .ref (a 13), .ref (a 14), .ref (a 15), .ref (a 16), .int x_ways, .ref (a 17), .ref (a 18), .ref (a 19), .ref (a 20)])), (a 7, .inl (V.2 0, 61, .inl u.2.2))]) (fun u => K u.1 u.2.1 u.2.2)) := by
  refine ga_met (cc := cX10_begins) (maxL := 2) (rt := none) (by decide) rfl [(0, .ref (a 0))] rfl (Nat.le_of_ble_eq_true rfl) ?_
  intro G hR hE
  have hinX10 : ∀ w ∈ u_ws RX10 TX10 33, w ∈ wsX10_begins := by decide +kernel
  have f107 : Cond.fieldLink RX10 107 "BoundaryRulesModel" "newRules" "I" ∈ wsX10_begins := by decide +kernel
  have f111 : Cond.fieldLink RX10 111 "BoundaryRulesModel" "newPlaces" "I" ∈ wsX10_begins := by decide +kernel
  have f28 : Cond.fieldLink RX10 28 "BoundaryRulesModel" "newSlot" "[I" ∈ wsX10_begins := by decide +kernel
  unfold wp_X10_begins at h
  refine ga_aload_n hR (pc := 0) 0 rfl rfl dX10_begins_0 ?_
  refine ga_iconst hR (pc := 1) (v := nI 0) (by decide) dX10_begins_1 ?_
  refine ga_putf hR (pc := 2) (ws' := [(a 0, .inr (10, [.int x_rules, .int x_places, .ref (a 1), .ref (a 2), .ref (a 3), .int (nI 0), .int x_newPlaces, .ref (a 4), .ref (a 5), .ref (a 6), .ref (a 7), .ref (a 8), .int x_acts, .int x_kept, .int x_length, .ref (a 9), .int x_next, .int x_place, .int x_isWrong, .ref (a 10), .ref (a 11), .ref (a 12), .int x_parts, .int x_without, .ref (a 13), .ref (a 14), .ref (a 15), .ref (a 16), .int x_ways, .ref (a 17), .ref (a 18), .ref (a 19), .ref (a 20)])), (a 7, .inl (V.2 0, 61, .inl x_newSlot))]) 0 rfl rfl hinX10 5 (by decide) f107 tyX10_ok nmX10 rfl rfl rfl (Nat.le_of_ble_eq_true rfl) rfl dX10_begins_2 ?_
  refine ga_aload_n hR (pc := 5) 0 rfl rfl dX10_begins_5 ?_
  refine ga_iconst hR (pc := 6) (v := nI 0) (by decide) dX10_begins_6 ?_
  refine ga_putf hR (pc := 7) (ws' := [(a 0, .inr (10, [.int x_rules, .int x_places, .ref (a 1), .ref (a 2), .ref (a 3), .int (nI 0), .int (nI 0), .ref (a 4), .ref (a 5), .ref (a 6), .ref (a 7), .ref (a 8), .int x_acts, .int x_kept, .int x_length, .ref (a 9), .int x_next, .int x_place, .int x_isWrong, .ref (a 10), .ref (a 11), .ref (a 12), .int x_parts, .int x_without, .ref (a 13), .ref (a 14), .ref (a 15), .ref (a 16), .int x_ways, .ref (a 17), .ref (a 18), .ref (a 19), .ref (a 20)])), (a 7, .inl (V.2 0, 61, .inl x_newSlot))]) 0 rfl rfl hinX10 6 (by decide) f111 tyX10_ok nmX10 rfl rfl rfl (Nat.le_of_ble_eq_true rfl) rfl dX10_begins_7 ?_
  refine ga_iconst hR (pc := 10) (v := nI 0) (by decide) dX10_begins_10 ?_
  refine ga_istore_n hR (pc := 11) (lv' := [(1, .int (nI 0)), (0, .ref (a 0))]) rfl (by decide) rfl dX10_begins_11 ?_
  have hJ := h (fun (x_newSlot_1 : Nat → Int32) => G 0 0 [(a 0, .inr (10, [.int x_rules, .int x_places, .ref (a 1), .ref (a 2), .ref (a 3), .int (nI 0), .int (nI 0), .ref (a 4), .ref (a 5), .ref (a 6), .ref (a 7), .ref (a 8), .int x_acts, .int x_kept, .int x_length, .ref (a 9), .int x_next, .int x_place, .int x_isWrong, .ref (a 10), .ref (a 11), .ref (a 12), .int x_parts, .int x_without, .ref (a 13), .ref (a 14), .ref (a 15), .ref (a 16), .int x_ways, .ref (a 17), .ref (a 18), .ref (a 19), .ref (a 20)])), (a 7, .inl (V.2 0, 61, .inl x_newSlot_1))] 31 [] [])
  refine ga_bind hJ ?_ ?_
  · intro x_newSlot_1 h
    show G 0 0 [(a 0, .inr (10, [.int x_rules, .int x_places, .ref (a 1), .ref (a 2), .ref (a 3), .int (nI 0), .int (nI 0), .ref (a 4), .ref (a 5), .ref (a 6), .ref (a 7), .ref (a 8), .int x_acts, .int x_kept, .int x_length, .ref (a 9), .int x_next, .int x_place, .int x_isWrong, .ref (a 10), .ref (a 11), .ref (a 12), .int x_parts, .int x_without, .ref (a 13), .ref (a 14), .ref (a 15), .ref (a 16), .int x_ways, .ref (a 17), .ref (a 18), .ref (a 19), .ref (a 20)])), (a 7, .inl (V.2 0, 61, .inl x_newSlot_1))] 31 [] []
    exact ga_vret hE dX10_begins_31 (ga_rv (nI 0, nI 0, x_newSlot_1) rfl h)
  · intro h
    obtain ⟨n, h⟩ := h
    have L12 : ∀ (n : Nat) (v1_5 : Int32) (x_newSlot_6 : Nat → Int32), lp_X10_begins_12 (fun (x_newSlot_1 : Nat → Int32) => G 0 0 [(a 0, .inr (10, [.int x_rules, .int x_places, .ref (a 1), .ref (a 2), .ref (a 3), .int (nI 0), .int (nI 0), .ref (a 4), .ref (a 5), .ref (a 6), .ref (a 7), .ref (a 8), .int x_acts, .int x_kept, .int x_length, .ref (a 9), .int x_next, .int x_place, .int x_isWrong, .ref (a 10), .ref (a 11), .ref (a 12), .int x_parts, .int x_without, .ref (a 13), .ref (a 14), .ref (a 15), .ref (a 16), .int x_ways, .ref (a 17), .ref (a 18), .ref (a 19), .ref (a 20)])), (a 7, .inl (V.2 0, 61, .inl x_newSlot_1))] 31 [] []) n v1_5 x_newSlot_6 → G 0 0 [(a 0, .inr (10, [.int x_rules, .int x_places, .ref (a 1), .ref (a 2), .ref (a 3), .int (nI 0), .int (nI 0), .ref (a 4), .ref (a 5), .ref (a 6), .ref (a 7), .ref (a 8), .int x_acts, .int x_kept, .int x_length, .ref (a 9), .int x_next, .int x_place, .int x_isWrong, .ref (a 10), .ref (a 11), .ref (a 12), .int x_parts, .int x_without, .ref (a 13), .ref (a 14), .ref (a 15), .ref (a 16), .int x_ways, .ref (a 17), .ref (a 18), .ref (a 19), .ref (a 20)])), (a 7, .inl (V.2 0, 61, .inl x_newSlot_6))] 12 [(0, .ref (a 0)), (1, .int v1_5)] [] := by
      intro n
      induction n with
      | zero => exact fun _ _ h => False.elim h
      | succ n ih =>
        intro v1_5 x_newSlot_6 h
        rw [lp_X10_begins_12] at h
        refine ga_iload_n hR (pc := 12) 1 rfl rfl dX10_begins_12 ?_
        refine ga_bipush hR (pc := 13) (v := nI 61) (by decide) dX10_begins_13 ?_
        refine ga_icmp_ge hR (pc := 15) 31 (by decide) dX10_begins_15 (fun c15 => ?_) (fun c15 => ?_)
        · replace h := h.1 c15
          exact ga_lv hR [] rfl h
        · replace h := h.2 c15
          refine ga_aload_n hR (pc := 18) 0 rfl rfl dX10_begins_18 ?_
          refine ga_get hR (pc := 19) 0 rfl rfl hinX10 10 (by decide) f28 rfl dX10_begins_19 ?_
          refine ga_iload_n hR (pc := 22) 1 rfl rfl dX10_begins_22 ?_
          refine ga_iconst hR (pc := 23) (v := nI 0) (by decide) dX10_begins_23 ?_
          refine ga_iast hR (pc := 24) (ws' := [(a 0, .inr (10, [.int x_rules, .int x_places, .ref (a 1), .ref (a 2), .ref (a 3), .int (nI 0), .int (nI 0), .ref (a 4), .ref (a 5), .ref (a 6), .ref (a 7), .ref (a 8), .int x_acts, .int x_kept, .int x_length, .ref (a 9), .int x_next, .int x_place, .int x_isWrong, .ref (a 10), .ref (a 11), .ref (a 12), .int x_parts, .int x_without, .ref (a 13), .ref (a 14), .ref (a 15), .ref (a 16), .int x_ways, .ref (a 17), .ref (a 18), .ref (a 19), .ref (a 20)])), (a 7, .inl (V.2 0, 61, .inl ((upd x_newSlot_6 v1_5.toNatClampNeg (nI 0)))))]) 1 rfl h.1 rfl dX10_begins_24 ?_
          replace h := h.2
          obtain ⟨x_newSlot_7, ex_newSlot_7⟩ : ∃ f : Nat → Int32, f = upd x_newSlot_6 v1_5.toNatClampNeg (nI 0) := ⟨_, rfl⟩
          refine ga_cast (ws' := [(a 0, .inr (10, [.int x_rules, .int x_places, .ref (a 1), .ref (a 2), .ref (a 3), .int (nI 0), .int (nI 0), .ref (a 4), .ref (a 5), .ref (a 6), .ref (a 7), .ref (a 8), .int x_acts, .int x_kept, .int x_length, .ref (a 9), .int x_next, .int x_place, .int x_isWrong, .ref (a 10), .ref (a 11), .ref (a 12), .int x_parts, .int x_without, .ref (a 13), .ref (a 14), .ref (a 15), .ref (a 16), .int x_ways, .ref (a 17), .ref (a 18), .ref (a 19), .ref (a 20)])), (a 7, .inl (V.2 0, 61, .inl x_newSlot_7))]) (by rw [ex_newSlot_7]) rfl ?_
          replace h := h x_newSlot_7 ex_newSlot_7
          obtain ⟨v1_8, ev1_8⟩ : ∃ v : Int32, v = v1_5 + (nI 1) := ⟨_, rfl⟩
          replace h := h v1_8 ev1_8
          refine ga_iinc hR (pc := 25) (lv' := [(1, .int v1_8), (0, .ref (a 0))]) 1 (by decide) rfl ev1_8 (by decide) rfl dX10_begins_25 ?_
          refine ga_goto hR (pc := 28) 12 (by decide) dX10_begins_28 ?_
          exact ga_lv hR [1, 0] rfl (ih _ _ h)
    exact ga_lv hR [1, 0] rfl (L12 n _ _ h)

def rm_X10_addsLetter : Room := { frames := 0, cells := 0, slots := 0, locals := 0 }
theorem hd_X10_addsLetterS : yX10_addsLetter.cls ≠ "java/lang/invoke/MethodHandle" ∧ yX10_addsLetter.cls ≠ "java/lang/invoke/VarHandle" ∧ (parseMethodDescriptor yX10_addsLetter.desc).map (fun d => d.parameters.length) = some 1 := by decide +kernel
theorem hd_X10_addsLetter : yX10_addsLetter.cls = RX10 ∧ yX10_addsLetter.cls ≠ "java/lang/invoke/MethodHandle" ∧ yX10_addsLetter.cls ≠ "java/lang/invoke/VarHandle" ∧ (parseMethodDescriptor yX10_addsLetter.desc).map (fun d => d.parameters.length) = some 1 := ⟨rfl, hd_X10_addsLetterS⟩
set_option maxHeartbeats 4000000 in
set_option maxRecDepth 100000 in
theorem c_X10_addsLetter (V : ga_V) (a : Nat → Nat) (x_rules : Int32) (x_places : Int32) (x_newRules : Int32) (x_newPlaces : Int32) (x_acts : Int32) (x_kept : Int32) (x_length : Int32) (x_next : Int32) (x_place : Int32) (x_isWrong : Int32) (x_parts : Int32) (x_without : Int32) (x_ways : Int32) (x_newSlot : Nat → Int32) (p1 : Int32) (K : (Nat → Int32) → Prop) (h : wp_X10_addsLetter x_newSlot p1 K) : ga_C V yX10_addsLetter wsX10_addsLetter rm_X10_addsLetter [.ref (a 0), .int p1] [(a 0, .inr (10, [.int x_rules, .int x_places, .ref (a 1), .ref (a 2), .ref (a 3), .int x_newRules, .int x_newPlaces, .ref (a 4), .ref (a 5), .ref (a 6), .ref (a 7), .ref (a 8), .int x_acts, .int x_kept, .int x_length, .ref (a 9), .int x_next, .int x_place, .int x_isWrong, .ref (a 10), .ref (a 11), .ref (a 12), .int x_parts, .int x_without, .ref (a 13), .ref (a 14), .ref (a 15), .ref (a 16), .int x_ways, .ref (a 17), .ref (a 18), .ref (a 19), .ref (a 20)])), (a 7, .inl (V.2 0, 61, .inl x_newSlot))] 0 0 (ga_Fv (fun (u : (Nat → Int32)) => [(a 0, .inr (10, [.int x_rules, .int x_places, .ref (a 1), .ref (a 2), .ref (a 3), .int x_newRules, .int x_newPlaces, .ref (a 4), .ref (a 5), .ref (a 6), .ref (a 7), .ref (a 8), .int x_acts, .int x_kept, .int x_length, .ref (a 9), .int x_next, .int x_place, .int x_isWrong, .ref (a 10), .ref (a 11), .ref (a 12), .int x_parts, .int x_without, .ref (a 13), .ref (a 14), .ref (a 15), .ref (a 16), .int x_ways, .ref (a 17), .ref (a 18), .ref (a 19), .ref (a 20)])), (a 7, .inl (V.2 0, 61, .inl u))]) (fun u => K u)) := by
  refine ga_met (cc := cX10_addsLetter) (maxL := 2) (rt := none) (by decide) rfl [(0, .ref (a 0)), (1, .int p1)] rfl (Nat.le_of_ble_eq_true rfl) ?_
  intro G hR hE
  have hinX10 : ∀ w ∈ u_ws RX10 TX10 33, w ∈ wsX10_addsLetter := by decide +kernel
  have f28 : Cond.fieldLink RX10 28 "BoundaryRulesModel" "newSlot" "[I" ∈ wsX10_addsLetter := by decide +kernel
  unfold wp_X10_addsLetter at h
  refine ga_iload_n hR (pc := 0) 1 rfl rfl dX10_addsLetter_0 ?_
  refine ga_if_lt hR (pc := 1) 31 (by decide) dX10_addsLetter_1 (fun c1 => ?_) (fun c1 => ?_)
  · replace h := h.1 c1
    exact ga_vret hE dX10_addsLetter_31 (ga_rv x_newSlot rfl h)
  · replace h := h.2 c1
    refine ga_aload_n hR (pc := 4) 0 rfl rfl dX10_addsLetter_4 ?_
    refine ga_get hR (pc := 5) 0 rfl rfl hinX10 10 (by decide) f28 rfl dX10_addsLetter_5 ?_
    refine ga_bipush hR (pc := 8) (v := nI 31) (by decide) dX10_addsLetter_8 ?_
    refine ga_aload_n hR (pc := 10) 0 rfl rfl dX10_addsLetter_10 ?_
    refine ga_get hR (pc := 11) 0 rfl rfl hinX10 10 (by decide) f28 rfl dX10_addsLetter_11 ?_
    refine ga_bipush hR (pc := 14) (v := nI 30) (by decide) dX10_addsLetter_14 ?_
    refine ga_iald hR (pc := 16) 1 rfl h.1 dX10_addsLetter_16 ?_
    replace h := h.2
    refine ga_iadd hR (pc := 17) dX10_addsLetter_17 ?_
    refine ga_iload_n hR (pc := 18) 1 rfl rfl dX10_addsLetter_18 ?_
    refine ga_iast hR (pc := 19) (ws' := [(a 0, .inr (10, [.int x_rules, .int x_places, .ref (a 1), .ref (a 2), .ref (a 3), .int x_newRules, .int x_newPlaces, .ref (a 4), .ref (a 5), .ref (a 6), .ref (a 7), .ref (a 8), .int x_acts, .int x_kept, .int x_length, .ref (a 9), .int x_next, .int x_place, .int x_isWrong, .ref (a 10), .ref (a 11), .ref (a 12), .int x_parts, .int x_without, .ref (a 13), .ref (a 14), .ref (a 15), .ref (a 16), .int x_ways, .ref (a 17), .ref (a 18), .ref (a 19), .ref (a 20)])), (a 7, .inl (V.2 0, 61, .inl ((upd x_newSlot ((nI 31) + (x_newSlot (nI 30).toNatClampNeg)).toNatClampNeg p1))))]) 1 rfl h.1 rfl dX10_addsLetter_19 ?_
    replace h := h.2
    obtain ⟨x_newSlot_1, ex_newSlot_1⟩ : ∃ f : Nat → Int32, f = upd x_newSlot ((nI 31) + (x_newSlot (nI 30).toNatClampNeg)).toNatClampNeg p1 := ⟨_, rfl⟩
    refine ga_cast (ws' := [(a 0, .inr (10, [.int x_rules, .int x_places, .ref (a 1), .ref (a 2), .ref (a 3), .int x_newRules, .int x_newPlaces, .ref (a 4), .ref (a 5), .ref (a 6), .ref (a 7), .ref (a 8), .int x_acts, .int x_kept, .int x_length, .ref (a 9), .int x_next, .int x_place, .int x_isWrong, .ref (a 10), .ref (a 11), .ref (a 12), .int x_parts, .int x_without, .ref (a 13), .ref (a 14), .ref (a 15), .ref (a 16), .int x_ways, .ref (a 17), .ref (a 18), .ref (a 19), .ref (a 20)])), (a 7, .inl (V.2 0, 61, .inl x_newSlot_1))]) (by rw [ex_newSlot_1]) rfl ?_
    replace h := h x_newSlot_1 ex_newSlot_1
    refine ga_aload_n hR (pc := 20) 0 rfl rfl dX10_addsLetter_20 ?_
    refine ga_get hR (pc := 21) 0 rfl rfl hinX10 10 (by decide) f28 rfl dX10_addsLetter_21 ?_
    refine ga_bipush hR (pc := 24) (v := nI 30) (by decide) dX10_addsLetter_24 ?_
    refine ga_dup2 hR (pc := 26) rfl rfl dX10_addsLetter_26 ?_
    refine ga_iald hR (pc := 27) 1 rfl h.1 dX10_addsLetter_27 ?_
    replace h := h.2
    refine ga_iconst hR (pc := 28) (v := nI 1) (by decide) dX10_addsLetter_28 ?_
    refine ga_iadd hR (pc := 29) dX10_addsLetter_29 ?_
    refine ga_topi (fun t_2 et_2 => ?_)
    replace h := h t_2 et_2
    refine ga_iast hR (pc := 30) (ws' := [(a 0, .inr (10, [.int x_rules, .int x_places, .ref (a 1), .ref (a 2), .ref (a 3), .int x_newRules, .int x_newPlaces, .ref (a 4), .ref (a 5), .ref (a 6), .ref (a 7), .ref (a 8), .int x_acts, .int x_kept, .int x_length, .ref (a 9), .int x_next, .int x_place, .int x_isWrong, .ref (a 10), .ref (a 11), .ref (a 12), .int x_parts, .int x_without, .ref (a 13), .ref (a 14), .ref (a 15), .ref (a 16), .int x_ways, .ref (a 17), .ref (a 18), .ref (a 19), .ref (a 20)])), (a 7, .inl (V.2 0, 61, .inl ((upd x_newSlot_1 (nI 30).toNatClampNeg t_2))))]) 1 rfl h.1 rfl dX10_addsLetter_30 ?_
    replace h := h.2
    obtain ⟨x_newSlot_3, ex_newSlot_3⟩ : ∃ f : Nat → Int32, f = upd x_newSlot_1 (nI 30).toNatClampNeg t_2 := ⟨_, rfl⟩
    refine ga_cast (ws' := [(a 0, .inr (10, [.int x_rules, .int x_places, .ref (a 1), .ref (a 2), .ref (a 3), .int x_newRules, .int x_newPlaces, .ref (a 4), .ref (a 5), .ref (a 6), .ref (a 7), .ref (a 8), .int x_acts, .int x_kept, .int x_length, .ref (a 9), .int x_next, .int x_place, .int x_isWrong, .ref (a 10), .ref (a 11), .ref (a 12), .int x_parts, .int x_without, .ref (a 13), .ref (a 14), .ref (a 15), .ref (a 16), .int x_ways, .ref (a 17), .ref (a 18), .ref (a 19), .ref (a 20)])), (a 7, .inl (V.2 0, 61, .inl x_newSlot_3))]) (by rw [ex_newSlot_3]) rfl ?_
    replace h := h x_newSlot_3 ex_newSlot_3
    exact ga_vret hE dX10_addsLetter_31 (ga_rv x_newSlot_3 rfl h)

def rm_X10_letters : Room := { frames := 1, cells := 0, slots := 0, locals := 21 }
theorem hd_X10_lettersS : yX10_letters.cls ≠ "java/lang/invoke/MethodHandle" ∧ yX10_letters.cls ≠ "java/lang/invoke/VarHandle" ∧ (parseMethodDescriptor yX10_letters.desc).map (fun d => d.parameters.length) = some 4 := by decide +kernel
theorem hd_X10_letters : yX10_letters.cls = RX10 ∧ yX10_letters.cls ≠ "java/lang/invoke/MethodHandle" ∧ yX10_letters.cls ≠ "java/lang/invoke/VarHandle" ∧ (parseMethodDescriptor yX10_letters.desc).map (fun d => d.parameters.length) = some 4 := ⟨rfl, hd_X10_lettersS⟩
set_option maxHeartbeats 4000000 in
set_option maxRecDepth 100000 in
theorem c_X10_letters (V : ga_V) (a : Nat → Nat) (x_rules : Int32) (x_places : Int32) (x_newRules : Int32) (x_newPlaces : Int32) (x_acts : Int32) (x_kept : Int32) (x_length : Int32) (x_next : Int32) (x_place : Int32) (x_isWrong : Int32) (x_parts : Int32) (x_without : Int32) (x_ways : Int32) (x_newSlot : Nat → Int32) (p1 : Int32) (p2 : Int32) (p3 : Int32) (p4 : Int32) (K : (Nat → Int32) → Prop) (h : wp_X10_letters x_newSlot p1 p2 p3 p4 K) : ga_C V yX10_letters wsX10_letters rm_X10_letters [.ref (a 0), .int p1, .int p2, .int p3, .int p4] [(a 0, .inr (10, [.int x_rules, .int x_places, .ref (a 1), .ref (a 2), .ref (a 3), .int x_newRules, .int x_newPlaces, .ref (a 4), .ref (a 5), .ref (a 6), .ref (a 7), .ref (a 8), .int x_acts, .int x_kept, .int x_length, .ref (a 9), .int x_next, .int x_place, .int x_isWrong, .ref (a 10), .ref (a 11), .ref (a 12), .int x_parts, .int x_without, .ref (a 13), .ref (a 14), .ref (a 15), .ref (a 16), .int x_ways, .ref (a 17), .ref (a 18), .ref (a 19), .ref (a 20)])), (a 7, .inl (V.2 0, 61, .inl x_newSlot))] 0 0 (ga_Fv (fun (u : (Nat → Int32)) => [(a 0, .inr (10, [.int x_rules, .int x_places, .ref (a 1), .ref (a 2), .ref (a 3), .int x_newRules, .int x_newPlaces, .ref (a 4), .ref (a 5), .ref (a 6), .ref (a 7), .ref (a 8), .int x_acts, .int x_kept, .int x_length, .ref (a 9), .int x_next, .int x_place, .int x_isWrong, .ref (a 10), .ref (a 11), .ref (a 12), .int x_parts, .int x_without, .ref (a 13), .ref (a 14), .ref (a 15), .ref (a 16), .int x_ways, .ref (a 17), .ref (a 18), .ref (a 19), .ref (a 20)])), (a 7, .inl (V.2 0, 61, .inl u))]) (fun u => K u)) := by
  refine ga_met (cc := cX10_letters) (maxL := 5) (rt := none) (by decide) rfl [(0, .ref (a 0)), (1, .int p1), (2, .int p2), (3, .int p3), (4, .int p4)] rfl (Nat.le_of_ble_eq_true rfl) ?_
  intro G hR hE
  unfold wp_X10_letters at h
  refine ga_aload_n hR (pc := 0) 0 rfl rfl dX10_letters_0 ?_
  refine ga_iload_n hR (pc := 1) 1 rfl rfl dX10_letters_1 ?_
  refine ga_callV hR (pc := 2) (As := [.int p1]) (rest := []) (st0 := [.int p1, .ref (a 0)]) (b := (a 0)) 1 (c_X10_addsLetter V a x_rules x_places x_newRules x_newPlaces x_acts x_kept x_length x_next x_place x_isWrong x_parts x_without x_ways x_newSlot p1 _ h) (ga_same_v fun _ => rfl) gX10_letters_X10_addsLetter rfl rfl rfl hd_X10_addsLetter ⟨Nat.le_of_ble_eq_true rfl, Nat.le_of_ble_eq_true rfl⟩ rfl rfl (Nat.le_of_ble_eq_true rfl) ⟨Nat.zero_le _, Nat.zero_le _⟩ [0, 1] rfl rfl 0 rfl rfl dX10_letters_2 ?_
  rintro _ _ ⟨x_newSlot_1, rfl, rfl, h⟩
  refine ga_to [(a 0, .inr (10, [.int x_rules, .int x_places, .ref (a 1), .ref (a 2), .ref (a 3), .int x_newRules, .int x_newPlaces, .ref (a 4), .ref (a 5), .ref (a 6), .ref (a 7), .ref (a 8), .int x_acts, .int x_kept, .int x_length, .ref (a 9), .int x_next, .int x_place, .int x_isWrong, .ref (a 10), .ref (a 11), .ref (a 12), .int x_parts, .int x_without, .ref (a 13), .ref (a 14), .ref (a 15), .ref (a 16), .int x_ways, .ref (a 17), .ref (a 18), .ref (a 19), .ref (a 20)])), (a 7, .inl (V.2 0, 61, .inl x_newSlot_1))] [] rfl rfl ?_
  try dsimp only at h
  refine ga_aload_n hR (pc := 5) 0 rfl rfl dX10_letters_5 ?_
  refine ga_iload_n hR (pc := 6) 2 rfl rfl dX10_letters_6 ?_
  refine ga_callV hR (pc := 7) (As := [.int p2]) (rest := []) (st0 := [.int p2, .ref (a 0)]) (b := (a 0)) 1 (c_X10_addsLetter V a x_rules x_places x_newRules x_newPlaces x_acts x_kept x_length x_next x_place x_isWrong x_parts x_without x_ways x_newSlot_1 p2 _ h) (ga_same_v fun _ => rfl) gX10_letters_X10_addsLetter rfl rfl rfl hd_X10_addsLetter ⟨Nat.le_of_ble_eq_true rfl, Nat.le_of_ble_eq_true rfl⟩ rfl rfl (Nat.le_of_ble_eq_true rfl) ⟨Nat.zero_le _, Nat.zero_le _⟩ [0, 1] rfl rfl 0 rfl rfl dX10_letters_7 ?_
  rintro _ _ ⟨x_newSlot_2, rfl, rfl, h⟩
  refine ga_to [(a 0, .inr (10, [.int x_rules, .int x_places, .ref (a 1), .ref (a 2), .ref (a 3), .int x_newRules, .int x_newPlaces, .ref (a 4), .ref (a 5), .ref (a 6), .ref (a 7), .ref (a 8), .int x_acts, .int x_kept, .int x_length, .ref (a 9), .int x_next, .int x_place, .int x_isWrong, .ref (a 10), .ref (a 11), .ref (a 12), .int x_parts, .int x_without, .ref (a 13), .ref (a 14), .ref (a 15), .ref (a 16), .int x_ways, .ref (a 17), .ref (a 18), .ref (a 19), .ref (a 20)])), (a 7, .inl (V.2 0, 61, .inl x_newSlot_2))] [] rfl rfl ?_
  try dsimp only at h
  refine ga_aload_n hR (pc := 10) 0 rfl rfl dX10_letters_10 ?_
  refine ga_iload_n hR (pc := 11) 3 rfl rfl dX10_letters_11 ?_
  refine ga_callV hR (pc := 12) (As := [.int p3]) (rest := []) (st0 := [.int p3, .ref (a 0)]) (b := (a 0)) 1 (c_X10_addsLetter V a x_rules x_places x_newRules x_newPlaces x_acts x_kept x_length x_next x_place x_isWrong x_parts x_without x_ways x_newSlot_2 p3 _ h) (ga_same_v fun _ => rfl) gX10_letters_X10_addsLetter rfl rfl rfl hd_X10_addsLetter ⟨Nat.le_of_ble_eq_true rfl, Nat.le_of_ble_eq_true rfl⟩ rfl rfl (Nat.le_of_ble_eq_true rfl) ⟨Nat.zero_le _, Nat.zero_le _⟩ [0, 1] rfl rfl 0 rfl rfl dX10_letters_12 ?_
  rintro _ _ ⟨x_newSlot_3, rfl, rfl, h⟩
  refine ga_to [(a 0, .inr (10, [.int x_rules, .int x_places, .ref (a 1), .ref (a 2), .ref (a 3), .int x_newRules, .int x_newPlaces, .ref (a 4), .ref (a 5), .ref (a 6), .ref (a 7), .ref (a 8), .int x_acts, .int x_kept, .int x_length, .ref (a 9), .int x_next, .int x_place, .int x_isWrong, .ref (a 10), .ref (a 11), .ref (a 12), .int x_parts, .int x_without, .ref (a 13), .ref (a 14), .ref (a 15), .ref (a 16), .int x_ways, .ref (a 17), .ref (a 18), .ref (a 19), .ref (a 20)])), (a 7, .inl (V.2 0, 61, .inl x_newSlot_3))] [] rfl rfl ?_
  try dsimp only at h
  refine ga_aload_n hR (pc := 15) 0 rfl rfl dX10_letters_15 ?_
  refine ga_iload hR (pc := 16) 4 rfl dX10_letters_16 ?_
  refine ga_callV hR (pc := 18) (As := [.int p4]) (rest := []) (st0 := [.int p4, .ref (a 0)]) (b := (a 0)) 1 (c_X10_addsLetter V a x_rules x_places x_newRules x_newPlaces x_acts x_kept x_length x_next x_place x_isWrong x_parts x_without x_ways x_newSlot_3 p4 _ h) (ga_same_v fun _ => rfl) gX10_letters_X10_addsLetter rfl rfl rfl hd_X10_addsLetter ⟨Nat.le_of_ble_eq_true rfl, Nat.le_of_ble_eq_true rfl⟩ rfl rfl (Nat.le_of_ble_eq_true rfl) ⟨Nat.zero_le _, Nat.zero_le _⟩ [0, 1] rfl rfl 0 rfl rfl dX10_letters_18 ?_
  rintro _ _ ⟨x_newSlot_4, rfl, rfl, h⟩
  refine ga_to [(a 0, .inr (10, [.int x_rules, .int x_places, .ref (a 1), .ref (a 2), .ref (a 3), .int x_newRules, .int x_newPlaces, .ref (a 4), .ref (a 5), .ref (a 6), .ref (a 7), .ref (a 8), .int x_acts, .int x_kept, .int x_length, .ref (a 9), .int x_next, .int x_place, .int x_isWrong, .ref (a 10), .ref (a 11), .ref (a 12), .int x_parts, .int x_without, .ref (a 13), .ref (a 14), .ref (a 15), .ref (a 16), .int x_ways, .ref (a 17), .ref (a 18), .ref (a 19), .ref (a 20)])), (a 7, .inl (V.2 0, 61, .inl x_newSlot_4))] [] rfl rfl ?_
  try dsimp only at h
  exact ga_vret hE dX10_letters_21 (ga_rv x_newSlot_4 rfl h)

def rm_X10_settles : Room := { frames := 0, cells := 0, slots := 0, locals := 0 }
theorem hd_X10_settlesS : yX10_settles.cls ≠ "java/lang/invoke/MethodHandle" ∧ yX10_settles.cls ≠ "java/lang/invoke/VarHandle" ∧ (parseMethodDescriptor yX10_settles.desc).map (fun d => d.parameters.length) = some 0 := by decide +kernel
theorem hd_X10_settles : yX10_settles.cls = RX10 ∧ yX10_settles.cls ≠ "java/lang/invoke/MethodHandle" ∧ yX10_settles.cls ≠ "java/lang/invoke/VarHandle" ∧ (parseMethodDescriptor yX10_settles.desc).map (fun d => d.parameters.length) = some 0 := ⟨rfl, hd_X10_settlesS⟩
set_option maxHeartbeats 4000000 in
set_option maxRecDepth 100000 in
theorem c_X10_settles (V : ga_V) (a : Nat → Nat) (x_length : Int32) (x_next : Int32) (x_place : Int32) (x_isWrong : Int32) (x_parts : Int32) (x_without : Int32) (x_ways : Int32) (x_rules : Int32) (x_places : Int32) (x_newRules : Int32) (x_newPlaces : Int32) (x_acts : Int32) (x_kept : Int32) (x_rule : Nat → Int32) (x_takes : Nat → Int32) (x_behind : Nat → Int32) (x_newRule : Nat → Int32) (x_newTakes : Nat → Int32) (x_newBehind : Nat → Int32) (x_newSlot : Nat → Int32) (x_slot : Nat → Int32) (K : Int32 → Int32 → Int32 → Int32 → (Nat → Int32) → (Nat → Int32) → (Nat → Int32) → (Nat → Int32) → Prop) (h : wp_X10_settles x_rules x_places x_newRules x_newPlaces x_acts x_kept x_rule x_takes x_behind x_newRule x_newTakes x_newBehind x_newSlot x_slot K) : ga_C V yX10_settles wsX10_settles rm_X10_settles [.ref (a 0)] [(a 0, .inr (10, [.int x_rules, .int x_places, .ref (a 1), .ref (a 2), .ref (a 3), .int x_newRules, .int x_newPlaces, .ref (a 4), .ref (a 5), .ref (a 6), .ref (a 7), .ref (a 8), .int x_acts, .int x_kept, .int x_length, .ref (a 9), .int x_next, .int x_place, .int x_isWrong, .ref (a 10), .ref (a 11), .ref (a 12), .int x_parts, .int x_without, .ref (a 13), .ref (a 14), .ref (a 15), .ref (a 16), .int x_ways, .ref (a 17), .ref (a 18), .ref (a 19), .ref (a 20)])), (a 1, .inl (V.2 0, 12, .inl x_rule)), (a 2, .inl (V.2 0, 10, .inl x_takes)), (a 3, .inl (V.2 0, 10, .inl x_behind)), (a 4, .inl (V.2 0, 12, .inl x_newRule)), (a 5, .inl (V.2 0, 10, .inl x_newTakes)), (a 6, .inl (V.2 0, 10, .inl x_newBehind)), (a 7, .inl (V.2 0, 61, .inl x_newSlot)), (a 8, .inl (V.2 0, 732, .inl x_slot))] 0 0 (ga_Fv (fun (u : Int32 × Int32 × Int32 × Int32 × (Nat → Int32) × (Nat → Int32) × (Nat → Int32) × (Nat → Int32)) => [(a 0, .inr (10, [.int u.1, .int u.2.1, .ref (a 1), .ref (a 2), .ref (a 3), .int x_newRules, .int x_newPlaces, .ref (a 4), .ref (a 5), .ref (a 6), .ref (a 7), .ref (a 8), .int u.2.2.1, .int u.2.2.2.1, .int x_length, .ref (a 9), .int x_next, .int x_place, .int x_isWrong, .ref (a 10), .ref (a 11), .ref (a 12), .int x_parts, .int x_without, .ref (a 13), .ref (a 14), .ref (a 15), .ref (a 16), .int x_ways, .ref (a 17), .ref (a 18), .ref (a 19), .ref (a 20)])), (a 1, .inl (V.2 0, 12, .inl u.2.2.2.2.1)), (a 2, .inl (V.2 0, 10, .inl u.2.2.2.2.2.1)), (a 3, .inl (V.2 0, 10, .inl u.2.2.2.2.2.2.1)), (a 4, .inl (V.2 0, 12, .inl x_newRule)), (a 5, .inl (V.2 0, 10, .inl x_newTakes)), (a 6, .inl (V.2 0, 10, .inl x_newBehind)), (a 7, .inl (V.2 0, 61, .inl x_newSlot)), (a 8, .inl (V.2 0, 732, .inl u.2.2.2.2.2.2.2))]) (fun u => K u.1 u.2.1 u.2.2.1 u.2.2.2.1 u.2.2.2.2.1 u.2.2.2.2.2.1 u.2.2.2.2.2.2.1 u.2.2.2.2.2.2.2)) := by
  refine ga_met (cc := cX10_settles) (maxL := 2) (rt := none) (by decide) rfl [(0, .ref (a 0))] rfl (Nat.le_of_ble_eq_true rfl) ?_
  intro G hR hE
  have hinX10 : ∀ w ∈ u_ws RX10 TX10 33, w ∈ wsX10_settles := by decide +kernel
  have f107 : Cond.fieldLink RX10 107 "BoundaryRulesModel" "newRules" "I" ∈ wsX10_settles := by decide +kernel
  have f118 : Cond.fieldLink RX10 118 "BoundaryRulesModel" "rules" "I" ∈ wsX10_settles := by decide +kernel
  have f111 : Cond.fieldLink RX10 111 "BoundaryRulesModel" "newPlaces" "I" ∈ wsX10_settles := by decide +kernel
  have f121 : Cond.fieldLink RX10 121 "BoundaryRulesModel" "places" "I" ∈ wsX10_settles := by decide +kernel
  have f124 : Cond.fieldLink RX10 124 "BoundaryRulesModel" "acts" "I" ∈ wsX10_settles := by decide +kernel
  have f127 : Cond.fieldLink RX10 127 "BoundaryRulesModel" "kept" "I" ∈ wsX10_settles := by decide +kernel
  have f31 : Cond.fieldLink RX10 31 "BoundaryRulesModel" "slot" "[I" ∈ wsX10_settles := by decide +kernel
  have f28 : Cond.fieldLink RX10 28 "BoundaryRulesModel" "newSlot" "[I" ∈ wsX10_settles := by decide +kernel
  have f13 : Cond.fieldLink RX10 13 "BoundaryRulesModel" "takes" "[I" ∈ wsX10_settles := by decide +kernel
  have f22 : Cond.fieldLink RX10 22 "BoundaryRulesModel" "newTakes" "[I" ∈ wsX10_settles := by decide +kernel
  have f16 : Cond.fieldLink RX10 16 "BoundaryRulesModel" "behind" "[I" ∈ wsX10_settles := by decide +kernel
  have f25 : Cond.fieldLink RX10 25 "BoundaryRulesModel" "newBehind" "[I" ∈ wsX10_settles := by decide +kernel
  have f7 : Cond.fieldLink RX10 7 "BoundaryRulesModel" "rule" "[I" ∈ wsX10_settles := by decide +kernel
  have f19 : Cond.fieldLink RX10 19 "BoundaryRulesModel" "newRule" "[I" ∈ wsX10_settles := by decide +kernel
  unfold wp_X10_settles at h
  refine ga_aload_n hR (pc := 0) 0 rfl rfl dX10_settles_0 ?_
  refine ga_aload_n hR (pc := 1) 0 rfl rfl dX10_settles_1 ?_
  refine ga_get hR (pc := 2) 0 rfl rfl hinX10 5 (by decide) f107 rfl dX10_settles_2 ?_
  refine ga_putf hR (pc := 5) (ws' := [(a 0, .inr (10, [.int x_newRules, .int x_places, .ref (a 1), .ref (a 2), .ref (a 3), .int x_newRules, .int x_newPlaces, .ref (a 4), .ref (a 5), .ref (a 6), .ref (a 7), .ref (a 8), .int x_acts, .int x_kept, .int x_length, .ref (a 9), .int x_next, .int x_place, .int x_isWrong, .ref (a 10), .ref (a 11), .ref (a 12), .int x_parts, .int x_without, .ref (a 13), .ref (a 14), .ref (a 15), .ref (a 16), .int x_ways, .ref (a 17), .ref (a 18), .ref (a 19), .ref (a 20)])), (a 1, .inl (V.2 0, 12, .inl x_rule)), (a 2, .inl (V.2 0, 10, .inl x_takes)), (a 3, .inl (V.2 0, 10, .inl x_behind)), (a 4, .inl (V.2 0, 12, .inl x_newRule)), (a 5, .inl (V.2 0, 10, .inl x_newTakes)), (a 6, .inl (V.2 0, 10, .inl x_newBehind)), (a 7, .inl (V.2 0, 61, .inl x_newSlot)), (a 8, .inl (V.2 0, 732, .inl x_slot))]) 0 rfl rfl hinX10 0 (by decide) f118 tyX10_ok nmX10 rfl rfl rfl (Nat.le_of_ble_eq_true rfl) rfl dX10_settles_5 ?_
  refine ga_aload_n hR (pc := 8) 0 rfl rfl dX10_settles_8 ?_
  refine ga_aload_n hR (pc := 9) 0 rfl rfl dX10_settles_9 ?_
  refine ga_get hR (pc := 10) 0 rfl rfl hinX10 6 (by decide) f111 rfl dX10_settles_10 ?_
  refine ga_putf hR (pc := 13) (ws' := [(a 0, .inr (10, [.int x_newRules, .int x_newPlaces, .ref (a 1), .ref (a 2), .ref (a 3), .int x_newRules, .int x_newPlaces, .ref (a 4), .ref (a 5), .ref (a 6), .ref (a 7), .ref (a 8), .int x_acts, .int x_kept, .int x_length, .ref (a 9), .int x_next, .int x_place, .int x_isWrong, .ref (a 10), .ref (a 11), .ref (a 12), .int x_parts, .int x_without, .ref (a 13), .ref (a 14), .ref (a 15), .ref (a 16), .int x_ways, .ref (a 17), .ref (a 18), .ref (a 19), .ref (a 20)])), (a 1, .inl (V.2 0, 12, .inl x_rule)), (a 2, .inl (V.2 0, 10, .inl x_takes)), (a 3, .inl (V.2 0, 10, .inl x_behind)), (a 4, .inl (V.2 0, 12, .inl x_newRule)), (a 5, .inl (V.2 0, 10, .inl x_newTakes)), (a 6, .inl (V.2 0, 10, .inl x_newBehind)), (a 7, .inl (V.2 0, 61, .inl x_newSlot)), (a 8, .inl (V.2 0, 732, .inl x_slot))]) 0 rfl rfl hinX10 1 (by decide) f121 tyX10_ok nmX10 rfl rfl rfl (Nat.le_of_ble_eq_true rfl) rfl dX10_settles_13 ?_
  refine ga_iconst hR (pc := 16) (v := nI 0) (by decide) dX10_settles_16 ?_
  refine ga_istore_n hR (pc := 17) (lv' := [(1, .int (nI 0)), (0, .ref (a 0))]) rfl (by decide) rfl dX10_settles_17 ?_
  have hJ := h (fun (x_rule_1 : Nat → Int32) => G 0 0 [(a 0, .inr (10, [.int x_newRules, .int x_newPlaces, .ref (a 1), .ref (a 2), .ref (a 3), .int x_newRules, .int x_newPlaces, .ref (a 4), .ref (a 5), .ref (a 6), .ref (a 7), .ref (a 8), .int x_acts, .int x_kept, .int x_length, .ref (a 9), .int x_next, .int x_place, .int x_isWrong, .ref (a 10), .ref (a 11), .ref (a 12), .int x_parts, .int x_without, .ref (a 13), .ref (a 14), .ref (a 15), .ref (a 16), .int x_ways, .ref (a 17), .ref (a 18), .ref (a 19), .ref (a 20)])), (a 1, .inl (V.2 0, 12, .inl x_rule_1)), (a 2, .inl (V.2 0, 10, .inl x_takes)), (a 3, .inl (V.2 0, 10, .inl x_behind)), (a 4, .inl (V.2 0, 12, .inl x_newRule)), (a 5, .inl (V.2 0, 10, .inl x_newTakes)), (a 6, .inl (V.2 0, 10, .inl x_newBehind)), (a 7, .inl (V.2 0, 61, .inl x_newSlot)), (a 8, .inl (V.2 0, 732, .inl x_slot))] 42 [(0, .ref (a 0))] [])
  refine ga_bind hJ ?_ ?_
  · intro x_rule_1 h
    show G 0 0 [(a 0, .inr (10, [.int x_newRules, .int x_newPlaces, .ref (a 1), .ref (a 2), .ref (a 3), .int x_newRules, .int x_newPlaces, .ref (a 4), .ref (a 5), .ref (a 6), .ref (a 7), .ref (a 8), .int x_acts, .int x_kept, .int x_length, .ref (a 9), .int x_next, .int x_place, .int x_isWrong, .ref (a 10), .ref (a 11), .ref (a 12), .int x_parts, .int x_without, .ref (a 13), .ref (a 14), .ref (a 15), .ref (a 16), .int x_ways, .ref (a 17), .ref (a 18), .ref (a 19), .ref (a 20)])), (a 1, .inl (V.2 0, 12, .inl x_rule_1)), (a 2, .inl (V.2 0, 10, .inl x_takes)), (a 3, .inl (V.2 0, 10, .inl x_behind)), (a 4, .inl (V.2 0, 12, .inl x_newRule)), (a 5, .inl (V.2 0, 10, .inl x_newTakes)), (a 6, .inl (V.2 0, 10, .inl x_newBehind)), (a 7, .inl (V.2 0, 61, .inl x_newSlot)), (a 8, .inl (V.2 0, 732, .inl x_slot))] 42 [(0, .ref (a 0))] []
    refine ga_iconst hR (pc := 42) (v := nI 0) (by decide) dX10_settles_42 ?_
    refine ga_istore_n hR (pc := 43) (lv' := [(1, .int (nI 0)), (0, .ref (a 0))]) rfl (by decide) rfl dX10_settles_43 ?_
    have hJ := h (fun (x_takes_3 : Nat → Int32) (x_behind_4 : Nat → Int32) => G 0 0 [(a 0, .inr (10, [.int x_newRules, .int x_newPlaces, .ref (a 1), .ref (a 2), .ref (a 3), .int x_newRules, .int x_newPlaces, .ref (a 4), .ref (a 5), .ref (a 6), .ref (a 7), .ref (a 8), .int x_acts, .int x_kept, .int x_length, .ref (a 9), .int x_next, .int x_place, .int x_isWrong, .ref (a 10), .ref (a 11), .ref (a 12), .int x_parts, .int x_without, .ref (a 13), .ref (a 14), .ref (a 15), .ref (a 16), .int x_ways, .ref (a 17), .ref (a 18), .ref (a 19), .ref (a 20)])), (a 1, .inl (V.2 0, 12, .inl x_rule_1)), (a 2, .inl (V.2 0, 10, .inl x_takes_3)), (a 3, .inl (V.2 0, 10, .inl x_behind_4)), (a 4, .inl (V.2 0, 12, .inl x_newRule)), (a 5, .inl (V.2 0, 10, .inl x_newTakes)), (a 6, .inl (V.2 0, 10, .inl x_newBehind)), (a 7, .inl (V.2 0, 61, .inl x_newSlot)), (a 8, .inl (V.2 0, 732, .inl x_slot))] 80 [(0, .ref (a 0))] [])
    refine ga_bind hJ ?_ ?_
    · intro x_takes_3 x_behind_4 h
      show G 0 0 [(a 0, .inr (10, [.int x_newRules, .int x_newPlaces, .ref (a 1), .ref (a 2), .ref (a 3), .int x_newRules, .int x_newPlaces, .ref (a 4), .ref (a 5), .ref (a 6), .ref (a 7), .ref (a 8), .int x_acts, .int x_kept, .int x_length, .ref (a 9), .int x_next, .int x_place, .int x_isWrong, .ref (a 10), .ref (a 11), .ref (a 12), .int x_parts, .int x_without, .ref (a 13), .ref (a 14), .ref (a 15), .ref (a 16), .int x_ways, .ref (a 17), .ref (a 18), .ref (a 19), .ref (a 20)])), (a 1, .inl (V.2 0, 12, .inl x_rule_1)), (a 2, .inl (V.2 0, 10, .inl x_takes_3)), (a 3, .inl (V.2 0, 10, .inl x_behind_4)), (a 4, .inl (V.2 0, 12, .inl x_newRule)), (a 5, .inl (V.2 0, 10, .inl x_newTakes)), (a 6, .inl (V.2 0, 10, .inl x_newBehind)), (a 7, .inl (V.2 0, 61, .inl x_newSlot)), (a 8, .inl (V.2 0, 732, .inl x_slot))] 80 [(0, .ref (a 0))] []
      refine ga_iconst hR (pc := 80) (v := nI 0) (by decide) dX10_settles_80 ?_
      refine ga_istore_n hR (pc := 81) (lv' := [(1, .int (nI 0)), (0, .ref (a 0))]) rfl (by decide) rfl dX10_settles_81 ?_
      have hJ := h (fun (x_slot_6 : Nat → Int32) => G 0 0 [(a 0, .inr (10, [.int x_newRules, .int x_newPlaces, .ref (a 1), .ref (a 2), .ref (a 3), .int x_newRules, .int x_newPlaces, .ref (a 4), .ref (a 5), .ref (a 6), .ref (a 7), .ref (a 8), .int x_acts, .int x_kept, .int x_length, .ref (a 9), .int x_next, .int x_place, .int x_isWrong, .ref (a 10), .ref (a 11), .ref (a 12), .int x_parts, .int x_without, .ref (a 13), .ref (a 14), .ref (a 15), .ref (a 16), .int x_ways, .ref (a 17), .ref (a 18), .ref (a 19), .ref (a 20)])), (a 1, .inl (V.2 0, 12, .inl x_rule_1)), (a 2, .inl (V.2 0, 10, .inl x_takes_3)), (a 3, .inl (V.2 0, 10, .inl x_behind_4)), (a 4, .inl (V.2 0, 12, .inl x_newRule)), (a 5, .inl (V.2 0, 10, .inl x_newTakes)), (a 6, .inl (V.2 0, 10, .inl x_newBehind)), (a 7, .inl (V.2 0, 61, .inl x_newSlot)), (a 8, .inl (V.2 0, 732, .inl x_slot_6))] 106 [(0, .ref (a 0))] [])
      refine ga_bind hJ ?_ ?_
      · intro x_slot_6 h
        show G 0 0 [(a 0, .inr (10, [.int x_newRules, .int x_newPlaces, .ref (a 1), .ref (a 2), .ref (a 3), .int x_newRules, .int x_newPlaces, .ref (a 4), .ref (a 5), .ref (a 6), .ref (a 7), .ref (a 8), .int x_acts, .int x_kept, .int x_length, .ref (a 9), .int x_next, .int x_place, .int x_isWrong, .ref (a 10), .ref (a 11), .ref (a 12), .int x_parts, .int x_without, .ref (a 13), .ref (a 14), .ref (a 15), .ref (a 16), .int x_ways, .ref (a 17), .ref (a 18), .ref (a 19), .ref (a 20)])), (a 1, .inl (V.2 0, 12, .inl x_rule_1)), (a 2, .inl (V.2 0, 10, .inl x_takes_3)), (a 3, .inl (V.2 0, 10, .inl x_behind_4)), (a 4, .inl (V.2 0, 12, .inl x_newRule)), (a 5, .inl (V.2 0, 10, .inl x_newTakes)), (a 6, .inl (V.2 0, 10, .inl x_newBehind)), (a 7, .inl (V.2 0, 61, .inl x_newSlot)), (a 8, .inl (V.2 0, 732, .inl x_slot_6))] 106 [(0, .ref (a 0))] []
        refine ga_aload_n hR (pc := 106) 0 rfl rfl dX10_settles_106 ?_
        refine ga_iconst hR (pc := 107) (v := nI 0) (by decide) dX10_settles_107 ?_
        refine ga_putf hR (pc := 108) (ws' := [(a 0, .inr (10, [.int x_newRules, .int x_newPlaces, .ref (a 1), .ref (a 2), .ref (a 3), .int x_newRules, .int x_newPlaces, .ref (a 4), .ref (a 5), .ref (a 6), .ref (a 7), .ref (a 8), .int (nI 0), .int x_kept, .int x_length, .ref (a 9), .int x_next, .int x_place, .int x_isWrong, .ref (a 10), .ref (a 11), .ref (a 12), .int x_parts, .int x_without, .ref (a 13), .ref (a 14), .ref (a 15), .ref (a 16), .int x_ways, .ref (a 17), .ref (a 18), .ref (a 19), .ref (a 20)])), (a 1, .inl (V.2 0, 12, .inl x_rule_1)), (a 2, .inl (V.2 0, 10, .inl x_takes_3)), (a 3, .inl (V.2 0, 10, .inl x_behind_4)), (a 4, .inl (V.2 0, 12, .inl x_newRule)), (a 5, .inl (V.2 0, 10, .inl x_newTakes)), (a 6, .inl (V.2 0, 10, .inl x_newBehind)), (a 7, .inl (V.2 0, 61, .inl x_newSlot)), (a 8, .inl (V.2 0, 732, .inl x_slot_6))]) 0 rfl rfl hinX10 12 (by decide) f124 tyX10_ok nmX10 rfl rfl rfl (Nat.le_of_ble_eq_true rfl) rfl dX10_settles_108 ?_
        refine ga_aload_n hR (pc := 111) 0 rfl rfl dX10_settles_111 ?_
        refine ga_iconst hR (pc := 112) (v := nI 0) (by decide) dX10_settles_112 ?_
        refine ga_putf hR (pc := 113) (ws' := [(a 0, .inr (10, [.int x_newRules, .int x_newPlaces, .ref (a 1), .ref (a 2), .ref (a 3), .int x_newRules, .int x_newPlaces, .ref (a 4), .ref (a 5), .ref (a 6), .ref (a 7), .ref (a 8), .int (nI 0), .int (nI 0), .int x_length, .ref (a 9), .int x_next, .int x_place, .int x_isWrong, .ref (a 10), .ref (a 11), .ref (a 12), .int x_parts, .int x_without, .ref (a 13), .ref (a 14), .ref (a 15), .ref (a 16), .int x_ways, .ref (a 17), .ref (a 18), .ref (a 19), .ref (a 20)])), (a 1, .inl (V.2 0, 12, .inl x_rule_1)), (a 2, .inl (V.2 0, 10, .inl x_takes_3)), (a 3, .inl (V.2 0, 10, .inl x_behind_4)), (a 4, .inl (V.2 0, 12, .inl x_newRule)), (a 5, .inl (V.2 0, 10, .inl x_newTakes)), (a 6, .inl (V.2 0, 10, .inl x_newBehind)), (a 7, .inl (V.2 0, 61, .inl x_newSlot)), (a 8, .inl (V.2 0, 732, .inl x_slot_6))]) 0 rfl rfl hinX10 13 (by decide) f127 tyX10_ok nmX10 rfl rfl rfl (Nat.le_of_ble_eq_true rfl) rfl dX10_settles_113 ?_
        exact ga_vret hE dX10_settles_116 (ga_rv (x_newRules, x_newPlaces, nI 0, nI 0, x_rule_1, x_takes_3, x_behind_4, x_slot_6) rfl h)
      · intro h
        obtain ⟨n, h⟩ := h
        have L82 : ∀ (n : Nat) (v1_11 : Int32) (x_slot_12 : Nat → Int32), lp_X10_settles_82 x_newSlot (fun (x_slot_6 : Nat → Int32) => G 0 0 [(a 0, .inr (10, [.int x_newRules, .int x_newPlaces, .ref (a 1), .ref (a 2), .ref (a 3), .int x_newRules, .int x_newPlaces, .ref (a 4), .ref (a 5), .ref (a 6), .ref (a 7), .ref (a 8), .int x_acts, .int x_kept, .int x_length, .ref (a 9), .int x_next, .int x_place, .int x_isWrong, .ref (a 10), .ref (a 11), .ref (a 12), .int x_parts, .int x_without, .ref (a 13), .ref (a 14), .ref (a 15), .ref (a 16), .int x_ways, .ref (a 17), .ref (a 18), .ref (a 19), .ref (a 20)])), (a 1, .inl (V.2 0, 12, .inl x_rule_1)), (a 2, .inl (V.2 0, 10, .inl x_takes_3)), (a 3, .inl (V.2 0, 10, .inl x_behind_4)), (a 4, .inl (V.2 0, 12, .inl x_newRule)), (a 5, .inl (V.2 0, 10, .inl x_newTakes)), (a 6, .inl (V.2 0, 10, .inl x_newBehind)), (a 7, .inl (V.2 0, 61, .inl x_newSlot)), (a 8, .inl (V.2 0, 732, .inl x_slot_6))] 106 [(0, .ref (a 0))] []) n v1_11 x_slot_12 → G 0 0 [(a 0, .inr (10, [.int x_newRules, .int x_newPlaces, .ref (a 1), .ref (a 2), .ref (a 3), .int x_newRules, .int x_newPlaces, .ref (a 4), .ref (a 5), .ref (a 6), .ref (a 7), .ref (a 8), .int x_acts, .int x_kept, .int x_length, .ref (a 9), .int x_next, .int x_place, .int x_isWrong, .ref (a 10), .ref (a 11), .ref (a 12), .int x_parts, .int x_without, .ref (a 13), .ref (a 14), .ref (a 15), .ref (a 16), .int x_ways, .ref (a 17), .ref (a 18), .ref (a 19), .ref (a 20)])), (a 1, .inl (V.2 0, 12, .inl x_rule_1)), (a 2, .inl (V.2 0, 10, .inl x_takes_3)), (a 3, .inl (V.2 0, 10, .inl x_behind_4)), (a 4, .inl (V.2 0, 12, .inl x_newRule)), (a 5, .inl (V.2 0, 10, .inl x_newTakes)), (a 6, .inl (V.2 0, 10, .inl x_newBehind)), (a 7, .inl (V.2 0, 61, .inl x_newSlot)), (a 8, .inl (V.2 0, 732, .inl x_slot_12))] 82 [(0, .ref (a 0)), (1, .int v1_11)] [] := by
          intro n
          induction n with
          | zero => exact fun _ _ h => False.elim h
          | succ n ih =>
            intro v1_11 x_slot_12 h
            rw [lp_X10_settles_82] at h
            refine ga_iload_n hR (pc := 82) 1 rfl rfl dX10_settles_82 ?_
            refine ga_bipush hR (pc := 83) (v := nI 61) (by decide) dX10_settles_83 ?_
            refine ga_icmp_ge hR (pc := 85) 106 (by decide) dX10_settles_85 (fun c85 => ?_) (fun c85 => ?_)
            · replace h := h.1 c85
              exact ga_lv hR [0] rfl h
            · replace h := h.2 c85
              refine ga_aload_n hR (pc := 88) 0 rfl rfl dX10_settles_88 ?_
              refine ga_get hR (pc := 89) 0 rfl rfl hinX10 11 (by decide) f31 rfl dX10_settles_89 ?_
              refine ga_iload_n hR (pc := 92) 1 rfl rfl dX10_settles_92 ?_
              refine ga_aload_n hR (pc := 93) 0 rfl rfl dX10_settles_93 ?_
              refine ga_get hR (pc := 94) 0 rfl rfl hinX10 10 (by decide) f28 rfl dX10_settles_94 ?_
              refine ga_iload_n hR (pc := 97) 1 rfl rfl dX10_settles_97 ?_
              refine ga_iald hR (pc := 98) 7 rfl h.1 dX10_settles_98 ?_
              replace h := h.2
              refine ga_topi (fun t_13 et_13 => ?_)
              replace h := h t_13 et_13
              refine ga_iast hR (pc := 99) (ws' := [(a 0, .inr (10, [.int x_newRules, .int x_newPlaces, .ref (a 1), .ref (a 2), .ref (a 3), .int x_newRules, .int x_newPlaces, .ref (a 4), .ref (a 5), .ref (a 6), .ref (a 7), .ref (a 8), .int x_acts, .int x_kept, .int x_length, .ref (a 9), .int x_next, .int x_place, .int x_isWrong, .ref (a 10), .ref (a 11), .ref (a 12), .int x_parts, .int x_without, .ref (a 13), .ref (a 14), .ref (a 15), .ref (a 16), .int x_ways, .ref (a 17), .ref (a 18), .ref (a 19), .ref (a 20)])), (a 1, .inl (V.2 0, 12, .inl x_rule_1)), (a 2, .inl (V.2 0, 10, .inl x_takes_3)), (a 3, .inl (V.2 0, 10, .inl x_behind_4)), (a 4, .inl (V.2 0, 12, .inl x_newRule)), (a 5, .inl (V.2 0, 10, .inl x_newTakes)), (a 6, .inl (V.2 0, 10, .inl x_newBehind)), (a 7, .inl (V.2 0, 61, .inl x_newSlot)), (a 8, .inl (V.2 0, 732, .inl ((upd x_slot_12 v1_11.toNatClampNeg t_13))))]) 8 rfl h.1 rfl dX10_settles_99 ?_
              replace h := h.2
              obtain ⟨x_slot_14, ex_slot_14⟩ : ∃ f : Nat → Int32, f = upd x_slot_12 v1_11.toNatClampNeg t_13 := ⟨_, rfl⟩
              refine ga_cast (ws' := [(a 0, .inr (10, [.int x_newRules, .int x_newPlaces, .ref (a 1), .ref (a 2), .ref (a 3), .int x_newRules, .int x_newPlaces, .ref (a 4), .ref (a 5), .ref (a 6), .ref (a 7), .ref (a 8), .int x_acts, .int x_kept, .int x_length, .ref (a 9), .int x_next, .int x_place, .int x_isWrong, .ref (a 10), .ref (a 11), .ref (a 12), .int x_parts, .int x_without, .ref (a 13), .ref (a 14), .ref (a 15), .ref (a 16), .int x_ways, .ref (a 17), .ref (a 18), .ref (a 19), .ref (a 20)])), (a 1, .inl (V.2 0, 12, .inl x_rule_1)), (a 2, .inl (V.2 0, 10, .inl x_takes_3)), (a 3, .inl (V.2 0, 10, .inl x_behind_4)), (a 4, .inl (V.2 0, 12, .inl x_newRule)), (a 5, .inl (V.2 0, 10, .inl x_newTakes)), (a 6, .inl (V.2 0, 10, .inl x_newBehind)), (a 7, .inl (V.2 0, 61, .inl x_newSlot)), (a 8, .inl (V.2 0, 732, .inl x_slot_14))]) (by rw [ex_slot_14]) rfl ?_
              replace h := h x_slot_14 ex_slot_14
              obtain ⟨v1_15, ev1_15⟩ : ∃ v : Int32, v = v1_11 + (nI 1) := ⟨_, rfl⟩
              replace h := h v1_15 ev1_15
              refine ga_iinc hR (pc := 100) (lv' := [(1, .int v1_15), (0, .ref (a 0))]) 1 (by decide) rfl ev1_15 (by decide) rfl dX10_settles_100 ?_
              refine ga_goto hR (pc := 103) 82 (by decide) dX10_settles_103 ?_
              exact ga_lv hR [1, 0] rfl (ih _ _ h)
        exact ga_lv hR [1, 0] rfl (L82 n _ _ h)
    · intro h
      obtain ⟨n, h⟩ := h
      have L44 : ∀ (n : Nat) (v1_21 : Int32) (x_takes_22 : Nat → Int32) (x_behind_23 : Nat → Int32), lp_X10_settles_44 x_newTakes x_newBehind (fun (x_takes_3 : Nat → Int32) (x_behind_4 : Nat → Int32) => G 0 0 [(a 0, .inr (10, [.int x_newRules, .int x_newPlaces, .ref (a 1), .ref (a 2), .ref (a 3), .int x_newRules, .int x_newPlaces, .ref (a 4), .ref (a 5), .ref (a 6), .ref (a 7), .ref (a 8), .int x_acts, .int x_kept, .int x_length, .ref (a 9), .int x_next, .int x_place, .int x_isWrong, .ref (a 10), .ref (a 11), .ref (a 12), .int x_parts, .int x_without, .ref (a 13), .ref (a 14), .ref (a 15), .ref (a 16), .int x_ways, .ref (a 17), .ref (a 18), .ref (a 19), .ref (a 20)])), (a 1, .inl (V.2 0, 12, .inl x_rule_1)), (a 2, .inl (V.2 0, 10, .inl x_takes_3)), (a 3, .inl (V.2 0, 10, .inl x_behind_4)), (a 4, .inl (V.2 0, 12, .inl x_newRule)), (a 5, .inl (V.2 0, 10, .inl x_newTakes)), (a 6, .inl (V.2 0, 10, .inl x_newBehind)), (a 7, .inl (V.2 0, 61, .inl x_newSlot)), (a 8, .inl (V.2 0, 732, .inl x_slot))] 80 [(0, .ref (a 0))] []) n v1_21 x_takes_22 x_behind_23 → G 0 0 [(a 0, .inr (10, [.int x_newRules, .int x_newPlaces, .ref (a 1), .ref (a 2), .ref (a 3), .int x_newRules, .int x_newPlaces, .ref (a 4), .ref (a 5), .ref (a 6), .ref (a 7), .ref (a 8), .int x_acts, .int x_kept, .int x_length, .ref (a 9), .int x_next, .int x_place, .int x_isWrong, .ref (a 10), .ref (a 11), .ref (a 12), .int x_parts, .int x_without, .ref (a 13), .ref (a 14), .ref (a 15), .ref (a 16), .int x_ways, .ref (a 17), .ref (a 18), .ref (a 19), .ref (a 20)])), (a 1, .inl (V.2 0, 12, .inl x_rule_1)), (a 2, .inl (V.2 0, 10, .inl x_takes_22)), (a 3, .inl (V.2 0, 10, .inl x_behind_23)), (a 4, .inl (V.2 0, 12, .inl x_newRule)), (a 5, .inl (V.2 0, 10, .inl x_newTakes)), (a 6, .inl (V.2 0, 10, .inl x_newBehind)), (a 7, .inl (V.2 0, 61, .inl x_newSlot)), (a 8, .inl (V.2 0, 732, .inl x_slot))] 44 [(0, .ref (a 0)), (1, .int v1_21)] [] := by
        intro n
        induction n with
        | zero => exact fun _ _ _ h => False.elim h
        | succ n ih =>
          intro v1_21 x_takes_22 x_behind_23 h
          rw [lp_X10_settles_44] at h
          refine ga_iload_n hR (pc := 44) 1 rfl rfl dX10_settles_44 ?_
          refine ga_bipush hR (pc := 45) (v := nI 10) (by decide) dX10_settles_45 ?_
          refine ga_icmp_ge hR (pc := 47) 80 (by decide) dX10_settles_47 (fun c47 => ?_) (fun c47 => ?_)
          · replace h := h.1 c47
            exact ga_lv hR [0] rfl h
          · replace h := h.2 c47
            refine ga_aload_n hR (pc := 50) 0 rfl rfl dX10_settles_50 ?_
            refine ga_get hR (pc := 51) 0 rfl rfl hinX10 3 (by decide) f13 rfl dX10_settles_51 ?_
            refine ga_iload_n hR (pc := 54) 1 rfl rfl dX10_settles_54 ?_
            refine ga_aload_n hR (pc := 55) 0 rfl rfl dX10_settles_55 ?_
            refine ga_get hR (pc := 56) 0 rfl rfl hinX10 8 (by decide) f22 rfl dX10_settles_56 ?_
            refine ga_iload_n hR (pc := 59) 1 rfl rfl dX10_settles_59 ?_
            refine ga_iald hR (pc := 60) 5 rfl h.1 dX10_settles_60 ?_
            replace h := h.2
            refine ga_topi (fun t_24 et_24 => ?_)
            replace h := h t_24 et_24
            refine ga_iast hR (pc := 61) (ws' := [(a 0, .inr (10, [.int x_newRules, .int x_newPlaces, .ref (a 1), .ref (a 2), .ref (a 3), .int x_newRules, .int x_newPlaces, .ref (a 4), .ref (a 5), .ref (a 6), .ref (a 7), .ref (a 8), .int x_acts, .int x_kept, .int x_length, .ref (a 9), .int x_next, .int x_place, .int x_isWrong, .ref (a 10), .ref (a 11), .ref (a 12), .int x_parts, .int x_without, .ref (a 13), .ref (a 14), .ref (a 15), .ref (a 16), .int x_ways, .ref (a 17), .ref (a 18), .ref (a 19), .ref (a 20)])), (a 1, .inl (V.2 0, 12, .inl x_rule_1)), (a 2, .inl (V.2 0, 10, .inl ((upd x_takes_22 v1_21.toNatClampNeg t_24)))), (a 3, .inl (V.2 0, 10, .inl x_behind_23)), (a 4, .inl (V.2 0, 12, .inl x_newRule)), (a 5, .inl (V.2 0, 10, .inl x_newTakes)), (a 6, .inl (V.2 0, 10, .inl x_newBehind)), (a 7, .inl (V.2 0, 61, .inl x_newSlot)), (a 8, .inl (V.2 0, 732, .inl x_slot))]) 2 rfl h.1 rfl dX10_settles_61 ?_
            replace h := h.2
            obtain ⟨x_takes_25, ex_takes_25⟩ : ∃ f : Nat → Int32, f = upd x_takes_22 v1_21.toNatClampNeg t_24 := ⟨_, rfl⟩
            refine ga_cast (ws' := [(a 0, .inr (10, [.int x_newRules, .int x_newPlaces, .ref (a 1), .ref (a 2), .ref (a 3), .int x_newRules, .int x_newPlaces, .ref (a 4), .ref (a 5), .ref (a 6), .ref (a 7), .ref (a 8), .int x_acts, .int x_kept, .int x_length, .ref (a 9), .int x_next, .int x_place, .int x_isWrong, .ref (a 10), .ref (a 11), .ref (a 12), .int x_parts, .int x_without, .ref (a 13), .ref (a 14), .ref (a 15), .ref (a 16), .int x_ways, .ref (a 17), .ref (a 18), .ref (a 19), .ref (a 20)])), (a 1, .inl (V.2 0, 12, .inl x_rule_1)), (a 2, .inl (V.2 0, 10, .inl x_takes_25)), (a 3, .inl (V.2 0, 10, .inl x_behind_23)), (a 4, .inl (V.2 0, 12, .inl x_newRule)), (a 5, .inl (V.2 0, 10, .inl x_newTakes)), (a 6, .inl (V.2 0, 10, .inl x_newBehind)), (a 7, .inl (V.2 0, 61, .inl x_newSlot)), (a 8, .inl (V.2 0, 732, .inl x_slot))]) (by rw [ex_takes_25]) rfl ?_
            replace h := h x_takes_25 ex_takes_25
            refine ga_aload_n hR (pc := 62) 0 rfl rfl dX10_settles_62 ?_
            refine ga_get hR (pc := 63) 0 rfl rfl hinX10 4 (by decide) f16 rfl dX10_settles_63 ?_
            refine ga_iload_n hR (pc := 66) 1 rfl rfl dX10_settles_66 ?_
            refine ga_aload_n hR (pc := 67) 0 rfl rfl dX10_settles_67 ?_
            refine ga_get hR (pc := 68) 0 rfl rfl hinX10 9 (by decide) f25 rfl dX10_settles_68 ?_
            refine ga_iload_n hR (pc := 71) 1 rfl rfl dX10_settles_71 ?_
            refine ga_iald hR (pc := 72) 6 rfl h.1 dX10_settles_72 ?_
            replace h := h.2
            refine ga_topi (fun t_26 et_26 => ?_)
            replace h := h t_26 et_26
            refine ga_iast hR (pc := 73) (ws' := [(a 0, .inr (10, [.int x_newRules, .int x_newPlaces, .ref (a 1), .ref (a 2), .ref (a 3), .int x_newRules, .int x_newPlaces, .ref (a 4), .ref (a 5), .ref (a 6), .ref (a 7), .ref (a 8), .int x_acts, .int x_kept, .int x_length, .ref (a 9), .int x_next, .int x_place, .int x_isWrong, .ref (a 10), .ref (a 11), .ref (a 12), .int x_parts, .int x_without, .ref (a 13), .ref (a 14), .ref (a 15), .ref (a 16), .int x_ways, .ref (a 17), .ref (a 18), .ref (a 19), .ref (a 20)])), (a 1, .inl (V.2 0, 12, .inl x_rule_1)), (a 2, .inl (V.2 0, 10, .inl x_takes_25)), (a 3, .inl (V.2 0, 10, .inl ((upd x_behind_23 v1_21.toNatClampNeg t_26)))), (a 4, .inl (V.2 0, 12, .inl x_newRule)), (a 5, .inl (V.2 0, 10, .inl x_newTakes)), (a 6, .inl (V.2 0, 10, .inl x_newBehind)), (a 7, .inl (V.2 0, 61, .inl x_newSlot)), (a 8, .inl (V.2 0, 732, .inl x_slot))]) 3 rfl h.1 rfl dX10_settles_73 ?_
            replace h := h.2
            obtain ⟨x_behind_27, ex_behind_27⟩ : ∃ f : Nat → Int32, f = upd x_behind_23 v1_21.toNatClampNeg t_26 := ⟨_, rfl⟩
            refine ga_cast (ws' := [(a 0, .inr (10, [.int x_newRules, .int x_newPlaces, .ref (a 1), .ref (a 2), .ref (a 3), .int x_newRules, .int x_newPlaces, .ref (a 4), .ref (a 5), .ref (a 6), .ref (a 7), .ref (a 8), .int x_acts, .int x_kept, .int x_length, .ref (a 9), .int x_next, .int x_place, .int x_isWrong, .ref (a 10), .ref (a 11), .ref (a 12), .int x_parts, .int x_without, .ref (a 13), .ref (a 14), .ref (a 15), .ref (a 16), .int x_ways, .ref (a 17), .ref (a 18), .ref (a 19), .ref (a 20)])), (a 1, .inl (V.2 0, 12, .inl x_rule_1)), (a 2, .inl (V.2 0, 10, .inl x_takes_25)), (a 3, .inl (V.2 0, 10, .inl x_behind_27)), (a 4, .inl (V.2 0, 12, .inl x_newRule)), (a 5, .inl (V.2 0, 10, .inl x_newTakes)), (a 6, .inl (V.2 0, 10, .inl x_newBehind)), (a 7, .inl (V.2 0, 61, .inl x_newSlot)), (a 8, .inl (V.2 0, 732, .inl x_slot))]) (by rw [ex_behind_27]) rfl ?_
            replace h := h x_behind_27 ex_behind_27
            obtain ⟨v1_28, ev1_28⟩ : ∃ v : Int32, v = v1_21 + (nI 1) := ⟨_, rfl⟩
            replace h := h v1_28 ev1_28
            refine ga_iinc hR (pc := 74) (lv' := [(1, .int v1_28), (0, .ref (a 0))]) 1 (by decide) rfl ev1_28 (by decide) rfl dX10_settles_74 ?_
            refine ga_goto hR (pc := 77) 44 (by decide) dX10_settles_77 ?_
            exact ga_lv hR [1, 0] rfl (ih _ _ _ h)
      exact ga_lv hR [1, 0] rfl (L44 n _ _ _ h)
  · intro h
    obtain ⟨n, h⟩ := h
    have L18 : ∀ (n : Nat) (v1_32 : Int32) (x_rule_33 : Nat → Int32), lp_X10_settles_18 x_newRule (fun (x_rule_1 : Nat → Int32) => G 0 0 [(a 0, .inr (10, [.int x_newRules, .int x_newPlaces, .ref (a 1), .ref (a 2), .ref (a 3), .int x_newRules, .int x_newPlaces, .ref (a 4), .ref (a 5), .ref (a 6), .ref (a 7), .ref (a 8), .int x_acts, .int x_kept, .int x_length, .ref (a 9), .int x_next, .int x_place, .int x_isWrong, .ref (a 10), .ref (a 11), .ref (a 12), .int x_parts, .int x_without, .ref (a 13), .ref (a 14), .ref (a 15), .ref (a 16), .int x_ways, .ref (a 17), .ref (a 18), .ref (a 19), .ref (a 20)])), (a 1, .inl (V.2 0, 12, .inl x_rule_1)), (a 2, .inl (V.2 0, 10, .inl x_takes)), (a 3, .inl (V.2 0, 10, .inl x_behind)), (a 4, .inl (V.2 0, 12, .inl x_newRule)), (a 5, .inl (V.2 0, 10, .inl x_newTakes)), (a 6, .inl (V.2 0, 10, .inl x_newBehind)), (a 7, .inl (V.2 0, 61, .inl x_newSlot)), (a 8, .inl (V.2 0, 732, .inl x_slot))] 42 [(0, .ref (a 0))] []) n v1_32 x_rule_33 → G 0 0 [(a 0, .inr (10, [.int x_newRules, .int x_newPlaces, .ref (a 1), .ref (a 2), .ref (a 3), .int x_newRules, .int x_newPlaces, .ref (a 4), .ref (a 5), .ref (a 6), .ref (a 7), .ref (a 8), .int x_acts, .int x_kept, .int x_length, .ref (a 9), .int x_next, .int x_place, .int x_isWrong, .ref (a 10), .ref (a 11), .ref (a 12), .int x_parts, .int x_without, .ref (a 13), .ref (a 14), .ref (a 15), .ref (a 16), .int x_ways, .ref (a 17), .ref (a 18), .ref (a 19), .ref (a 20)])), (a 1, .inl (V.2 0, 12, .inl x_rule_33)), (a 2, .inl (V.2 0, 10, .inl x_takes)), (a 3, .inl (V.2 0, 10, .inl x_behind)), (a 4, .inl (V.2 0, 12, .inl x_newRule)), (a 5, .inl (V.2 0, 10, .inl x_newTakes)), (a 6, .inl (V.2 0, 10, .inl x_newBehind)), (a 7, .inl (V.2 0, 61, .inl x_newSlot)), (a 8, .inl (V.2 0, 732, .inl x_slot))] 18 [(0, .ref (a 0)), (1, .int v1_32)] [] := by
      intro n
      induction n with
      | zero => exact fun _ _ h => False.elim h
      | succ n ih =>
        intro v1_32 x_rule_33 h
        rw [lp_X10_settles_18] at h
        refine ga_iload_n hR (pc := 18) 1 rfl rfl dX10_settles_18 ?_
        refine ga_bipush hR (pc := 19) (v := nI 12) (by decide) dX10_settles_19 ?_
        refine ga_icmp_ge hR (pc := 21) 42 (by decide) dX10_settles_21 (fun c21 => ?_) (fun c21 => ?_)
        · replace h := h.1 c21
          exact ga_lv hR [0] rfl h
        · replace h := h.2 c21
          refine ga_aload_n hR (pc := 24) 0 rfl rfl dX10_settles_24 ?_
          refine ga_get hR (pc := 25) 0 rfl rfl hinX10 2 (by decide) f7 rfl dX10_settles_25 ?_
          refine ga_iload_n hR (pc := 28) 1 rfl rfl dX10_settles_28 ?_
          refine ga_aload_n hR (pc := 29) 0 rfl rfl dX10_settles_29 ?_
          refine ga_get hR (pc := 30) 0 rfl rfl hinX10 7 (by decide) f19 rfl dX10_settles_30 ?_
          refine ga_iload_n hR (pc := 33) 1 rfl rfl dX10_settles_33 ?_
          refine ga_iald hR (pc := 34) 4 rfl h.1 dX10_settles_34 ?_
          replace h := h.2
          refine ga_topi (fun t_34 et_34 => ?_)
          replace h := h t_34 et_34
          refine ga_iast hR (pc := 35) (ws' := [(a 0, .inr (10, [.int x_newRules, .int x_newPlaces, .ref (a 1), .ref (a 2), .ref (a 3), .int x_newRules, .int x_newPlaces, .ref (a 4), .ref (a 5), .ref (a 6), .ref (a 7), .ref (a 8), .int x_acts, .int x_kept, .int x_length, .ref (a 9), .int x_next, .int x_place, .int x_isWrong, .ref (a 10), .ref (a 11), .ref (a 12), .int x_parts, .int x_without, .ref (a 13), .ref (a 14), .ref (a 15), .ref (a 16), .int x_ways, .ref (a 17), .ref (a 18), .ref (a 19), .ref (a 20)])), (a 1, .inl (V.2 0, 12, .inl ((upd x_rule_33 v1_32.toNatClampNeg t_34)))), (a 2, .inl (V.2 0, 10, .inl x_takes)), (a 3, .inl (V.2 0, 10, .inl x_behind)), (a 4, .inl (V.2 0, 12, .inl x_newRule)), (a 5, .inl (V.2 0, 10, .inl x_newTakes)), (a 6, .inl (V.2 0, 10, .inl x_newBehind)), (a 7, .inl (V.2 0, 61, .inl x_newSlot)), (a 8, .inl (V.2 0, 732, .inl x_slot))]) 1 rfl h.1 rfl dX10_settles_35 ?_
          replace h := h.2
          obtain ⟨x_rule_35, ex_rule_35⟩ : ∃ f : Nat → Int32, f = upd x_rule_33 v1_32.toNatClampNeg t_34 := ⟨_, rfl⟩
          refine ga_cast (ws' := [(a 0, .inr (10, [.int x_newRules, .int x_newPlaces, .ref (a 1), .ref (a 2), .ref (a 3), .int x_newRules, .int x_newPlaces, .ref (a 4), .ref (a 5), .ref (a 6), .ref (a 7), .ref (a 8), .int x_acts, .int x_kept, .int x_length, .ref (a 9), .int x_next, .int x_place, .int x_isWrong, .ref (a 10), .ref (a 11), .ref (a 12), .int x_parts, .int x_without, .ref (a 13), .ref (a 14), .ref (a 15), .ref (a 16), .int x_ways, .ref (a 17), .ref (a 18), .ref (a 19), .ref (a 20)])), (a 1, .inl (V.2 0, 12, .inl x_rule_35)), (a 2, .inl (V.2 0, 10, .inl x_takes)), (a 3, .inl (V.2 0, 10, .inl x_behind)), (a 4, .inl (V.2 0, 12, .inl x_newRule)), (a 5, .inl (V.2 0, 10, .inl x_newTakes)), (a 6, .inl (V.2 0, 10, .inl x_newBehind)), (a 7, .inl (V.2 0, 61, .inl x_newSlot)), (a 8, .inl (V.2 0, 732, .inl x_slot))]) (by rw [ex_rule_35]) rfl ?_
          replace h := h x_rule_35 ex_rule_35
          obtain ⟨v1_36, ev1_36⟩ : ∃ v : Int32, v = v1_32 + (nI 1) := ⟨_, rfl⟩
          replace h := h v1_36 ev1_36
          refine ga_iinc hR (pc := 36) (lv' := [(1, .int v1_36), (0, .ref (a 0))]) 1 (by decide) rfl ev1_36 (by decide) rfl dX10_settles_36 ?_
          refine ga_goto hR (pc := 39) 18 (by decide) dX10_settles_39 ?_
          exact ga_lv hR [1, 0] rfl (ih _ _ h)
    exact ga_lv hR [1, 0] rfl (L18 n _ _ h)

def rm_X10_rowBegins : Room := { frames := 0, cells := 0, slots := 0, locals := 0 }
theorem hd_X10_rowBeginsS : yX10_rowBegins.cls ≠ "java/lang/invoke/MethodHandle" ∧ yX10_rowBegins.cls ≠ "java/lang/invoke/VarHandle" ∧ (parseMethodDescriptor yX10_rowBegins.desc).map (fun d => d.parameters.length) = some 0 := by decide +kernel
theorem hd_X10_rowBegins : yX10_rowBegins.cls = RX10 ∧ yX10_rowBegins.cls ≠ "java/lang/invoke/MethodHandle" ∧ yX10_rowBegins.cls ≠ "java/lang/invoke/VarHandle" ∧ (parseMethodDescriptor yX10_rowBegins.desc).map (fun d => d.parameters.length) = some 0 := ⟨rfl, hd_X10_rowBeginsS⟩
set_option maxHeartbeats 4000000 in
set_option maxRecDepth 100000 in
theorem c_X10_rowBegins (V : ga_V) (a : Nat → Nat) (x_rules : Int32) (x_places : Int32) (x_newRules : Int32) (x_newPlaces : Int32) (x_acts : Int32) (x_kept : Int32) (x_length : Int32) (x_next : Int32) (x_place : Int32) (x_isWrong : Int32) (x_without : Int32) (x_ways : Int32) (x_parts : Int32) (K : Int32 → Prop) (h : wp_X10_rowBegins x_parts K) : ga_C V yX10_rowBegins wsX10_rowBegins rm_X10_rowBegins [.ref (a 0)] [(a 0, .inr (10, [.int x_rules, .int x_places, .ref (a 1), .ref (a 2), .ref (a 3), .int x_newRules, .int x_newPlaces, .ref (a 4), .ref (a 5), .ref (a 6), .ref (a 7), .ref (a 8), .int x_acts, .int x_kept, .int x_length, .ref (a 9), .int x_next, .int x_place, .int x_isWrong, .ref (a 10), .ref (a 11), .ref (a 12), .int x_parts, .int x_without, .ref (a 13), .ref (a 14), .ref (a 15), .ref (a 16), .int x_ways, .ref (a 17), .ref (a 18), .ref (a 19), .ref (a 20)]))] 0 0 (ga_Fv (fun (u : Int32) => [(a 0, .inr (10, [.int x_rules, .int x_places, .ref (a 1), .ref (a 2), .ref (a 3), .int x_newRules, .int x_newPlaces, .ref (a 4), .ref (a 5), .ref (a 6), .ref (a 7), .ref (a 8), .int x_acts, .int x_kept, .int x_length, .ref (a 9), .int x_next, .int x_place, .int x_isWrong, .ref (a 10), .ref (a 11), .ref (a 12), .int u, .int x_without, .ref (a 13), .ref (a 14), .ref (a 15), .ref (a 16), .int x_ways, .ref (a 17), .ref (a 18), .ref (a 19), .ref (a 20)]))]) (fun u => K u)) := by
  refine ga_met (cc := cX10_rowBegins) (maxL := 1) (rt := none) (by decide) rfl [(0, .ref (a 0))] rfl (Nat.le_of_ble_eq_true rfl) ?_
  intro G hR hE
  have hinX10 : ∀ w ∈ u_ws RX10 TX10 33, w ∈ wsX10_rowBegins := by decide +kernel
  have f130 : Cond.fieldLink RX10 130 "BoundaryRulesModel" "parts" "I" ∈ wsX10_rowBegins := by decide +kernel
  unfold wp_X10_rowBegins at h
  refine ga_aload_n hR (pc := 0) 0 rfl rfl dX10_rowBegins_0 ?_
  refine ga_iconst hR (pc := 1) (v := nI 0) (by decide) dX10_rowBegins_1 ?_
  refine ga_putf hR (pc := 2) (ws' := [(a 0, .inr (10, [.int x_rules, .int x_places, .ref (a 1), .ref (a 2), .ref (a 3), .int x_newRules, .int x_newPlaces, .ref (a 4), .ref (a 5), .ref (a 6), .ref (a 7), .ref (a 8), .int x_acts, .int x_kept, .int x_length, .ref (a 9), .int x_next, .int x_place, .int x_isWrong, .ref (a 10), .ref (a 11), .ref (a 12), .int (nI 0), .int x_without, .ref (a 13), .ref (a 14), .ref (a 15), .ref (a 16), .int x_ways, .ref (a 17), .ref (a 18), .ref (a 19), .ref (a 20)]))]) 0 rfl rfl hinX10 22 (by decide) f130 tyX10_ok nmX10 rfl rfl rfl (Nat.le_of_ble_eq_true rfl) rfl dX10_rowBegins_2 ?_
  exact ga_vret hE dX10_rowBegins_5 (ga_rv (nI 0) rfl h)

def rm_X10_atom : Room := { frames := 0, cells := 0, slots := 0, locals := 0 }
theorem hd_X10_atomS : yX10_atom.cls ≠ "java/lang/invoke/MethodHandle" ∧ yX10_atom.cls ≠ "java/lang/invoke/VarHandle" ∧ (parseMethodDescriptor yX10_atom.desc).map (fun d => d.parameters.length) = some 2 := by decide +kernel
theorem hd_X10_atom : yX10_atom.cls = RX10 ∧ yX10_atom.cls ≠ "java/lang/invoke/MethodHandle" ∧ yX10_atom.cls ≠ "java/lang/invoke/VarHandle" ∧ (parseMethodDescriptor yX10_atom.desc).map (fun d => d.parameters.length) = some 2 := ⟨rfl, hd_X10_atomS⟩
set_option maxHeartbeats 4000000 in
set_option maxRecDepth 100000 in
theorem c_X10_atom (V : ga_V) (a : Nat → Nat) (x_rules : Int32) (x_places : Int32) (x_newRules : Int32) (x_acts : Int32) (x_kept : Int32) (x_length : Int32) (x_next : Int32) (x_place : Int32) (x_isWrong : Int32) (x_without : Int32) (x_ways : Int32) (x_newPlaces : Int32) (x_parts : Int32) (x_newTakes : Nat → Int32) (x_newBehind : Nat → Int32) (x_firsts : Nat → Int32) (x_lasts : Nat → Int32) (x_mays : Nat → Int32) (p1 : Int32) (p2 : Int32) (K : Int32 → (Nat → Int32) → (Nat → Int32) → (Nat → Int32) → (Nat → Int32) → (Nat → Int32) → Prop) (h : wp_X10_atom x_newPlaces x_parts x_newTakes x_newBehind x_firsts x_lasts x_mays p1 p2 K) : ga_C V yX10_atom wsX10_atom rm_X10_atom [.ref (a 0), .int p1, .int p2] [(a 0, .inr (10, [.int x_rules, .int x_places, .ref (a 1), .ref (a 2), .ref (a 3), .int x_newRules, .int x_newPlaces, .ref (a 4), .ref (a 5), .ref (a 6), .ref (a 7), .ref (a 8), .int x_acts, .int x_kept, .int x_length, .ref (a 9), .int x_next, .int x_place, .int x_isWrong, .ref (a 10), .ref (a 11), .ref (a 12), .int x_parts, .int x_without, .ref (a 13), .ref (a 14), .ref (a 15), .ref (a 16), .int x_ways, .ref (a 17), .ref (a 18), .ref (a 19), .ref (a 20)])), (a 5, .inl (V.2 0, 10, .inl x_newTakes)), (a 6, .inl (V.2 0, 10, .inl x_newBehind)), (a 10, .inl (V.2 0, 18, .inl x_firsts)), (a 11, .inl (V.2 0, 18, .inl x_lasts)), (a 12, .inl (V.2 1, 18, .inl x_mays))] 0 0 (ga_Fv (fun (u : Int32 × (Nat → Int32) × (Nat → Int32) × (Nat → Int32) × (Nat → Int32) × (Nat → Int32)) => [(a 0, .inr (10, [.int x_rules, .int x_places, .ref (a 1), .ref (a 2), .ref (a 3), .int x_newRules, .int x_newPlaces, .ref (a 4), .ref (a 5), .ref (a 6), .ref (a 7), .ref (a 8), .int x_acts, .int x_kept, .int x_length, .ref (a 9), .int x_next, .int x_place, .int x_isWrong, .ref (a 10), .ref (a 11), .ref (a 12), .int u.1, .int x_without, .ref (a 13), .ref (a 14), .ref (a 15), .ref (a 16), .int x_ways, .ref (a 17), .ref (a 18), .ref (a 19), .ref (a 20)])), (a 5, .inl (V.2 0, 10, .inl u.2.1)), (a 6, .inl (V.2 0, 10, .inl u.2.2.1)), (a 10, .inl (V.2 0, 18, .inl u.2.2.2.1)), (a 11, .inl (V.2 0, 18, .inl u.2.2.2.2.1)), (a 12, .inl (V.2 1, 18, .inl u.2.2.2.2.2))]) (fun u => K u.1 u.2.1 u.2.2.1 u.2.2.2.1 u.2.2.2.2.1 u.2.2.2.2.2)) := by
  refine ga_met (cc := cX10_atom) (maxL := 4) (rt := none) (by decide) rfl [(0, .ref (a 0)), (1, .int p1), (2, .int p2)] rfl (Nat.le_of_ble_eq_true rfl) ?_
  intro G hR hE
  have hinX10 : ∀ w ∈ u_ws RX10 TX10 33, w ∈ wsX10_atom := by decide +kernel
  have f111 : Cond.fieldLink RX10 111 "BoundaryRulesModel" "newPlaces" "I" ∈ wsX10_atom := by decide +kernel
  have f22 : Cond.fieldLink RX10 22 "BoundaryRulesModel" "newTakes" "[I" ∈ wsX10_atom := by decide +kernel
  have f25 : Cond.fieldLink RX10 25 "BoundaryRulesModel" "newBehind" "[I" ∈ wsX10_atom := by decide +kernel
  have f38 : Cond.fieldLink RX10 38 "BoundaryRulesModel" "firsts" "[I" ∈ wsX10_atom := by decide +kernel
  have f130 : Cond.fieldLink RX10 130 "BoundaryRulesModel" "parts" "I" ∈ wsX10_atom := by decide +kernel
  have f41 : Cond.fieldLink RX10 41 "BoundaryRulesModel" "lasts" "[I" ∈ wsX10_atom := by decide +kernel
  have f44 : Cond.fieldLink RX10 44 "BoundaryRulesModel" "mays" "[Z" ∈ wsX10_atom := by decide +kernel
  unfold wp_X10_atom at h
  refine ga_aload_n hR (pc := 0) 0 rfl rfl dX10_atom_0 ?_
  refine ga_get hR (pc := 1) 0 rfl rfl hinX10 6 (by decide) f111 rfl dX10_atom_1 ?_
  refine ga_iload_n hR (pc := 4) 1 rfl rfl dX10_atom_4 ?_
  refine ga_iadd hR (pc := 5) dX10_atom_5 ?_
  refine ga_topi (fun v3_1 ev3_1 => ?_)
  replace h := h v3_1 ev3_1
  refine ga_istore_n hR (pc := 6) (lv' := [(3, .int v3_1), (0, .ref (a 0)), (1, .int p1), (2, .int p2)]) rfl (by decide) rfl dX10_atom_6 ?_
  refine ga_aload_n hR (pc := 7) 1 rfl rfl dX10_atom_7 ?_
  refine ga_get hR (pc := 8) 0 rfl rfl hinX10 8 (by decide) f22 rfl dX10_atom_8 ?_
  refine ga_iload_n hR (pc := 11) 0 rfl rfl dX10_atom_11 ?_
  refine ga_iload_n hR (pc := 12) 3 rfl rfl dX10_atom_12 ?_
  refine ga_iast hR (pc := 13) (ws' := [(a 0, .inr (10, [.int x_rules, .int x_places, .ref (a 1), .ref (a 2), .ref (a 3), .int x_newRules, .int x_newPlaces, .ref (a 4), .ref (a 5), .ref (a 6), .ref (a 7), .ref (a 8), .int x_acts, .int x_kept, .int x_length, .ref (a 9), .int x_next, .int x_place, .int x_isWrong, .ref (a 10), .ref (a 11), .ref (a 12), .int x_parts, .int x_without, .ref (a 13), .ref (a 14), .ref (a 15), .ref (a 16), .int x_ways, .ref (a 17), .ref (a 18), .ref (a 19), .ref (a 20)])), (a 5, .inl (V.2 0, 10, .inl ((upd x_newTakes v3_1.toNatClampNeg p2)))), (a 6, .inl (V.2 0, 10, .inl x_newBehind)), (a 10, .inl (V.2 0, 18, .inl x_firsts)), (a 11, .inl (V.2 0, 18, .inl x_lasts)), (a 12, .inl (V.2 1, 18, .inl x_mays))]) 1 rfl h.1 rfl dX10_atom_13 ?_
  replace h := h.2
  obtain ⟨x_newTakes_2, ex_newTakes_2⟩ : ∃ f : Nat → Int32, f = upd x_newTakes v3_1.toNatClampNeg p2 := ⟨_, rfl⟩
  refine ga_cast (ws' := [(a 0, .inr (10, [.int x_rules, .int x_places, .ref (a 1), .ref (a 2), .ref (a 3), .int x_newRules, .int x_newPlaces, .ref (a 4), .ref (a 5), .ref (a 6), .ref (a 7), .ref (a 8), .int x_acts, .int x_kept, .int x_length, .ref (a 9), .int x_next, .int x_place, .int x_isWrong, .ref (a 10), .ref (a 11), .ref (a 12), .int x_parts, .int x_without, .ref (a 13), .ref (a 14), .ref (a 15), .ref (a 16), .int x_ways, .ref (a 17), .ref (a 18), .ref (a 19), .ref (a 20)])), (a 5, .inl (V.2 0, 10, .inl x_newTakes_2)), (a 6, .inl (V.2 0, 10, .inl x_newBehind)), (a 10, .inl (V.2 0, 18, .inl x_firsts)), (a 11, .inl (V.2 0, 18, .inl x_lasts)), (a 12, .inl (V.2 1, 18, .inl x_mays))]) (by rw [ex_newTakes_2]) rfl ?_
  replace h := h x_newTakes_2 ex_newTakes_2
  refine ga_aload_n hR (pc := 14) 1 rfl rfl dX10_atom_14 ?_
  refine ga_get hR (pc := 15) 0 rfl rfl hinX10 9 (by decide) f25 rfl dX10_atom_15 ?_
  refine ga_iload_n hR (pc := 18) 0 rfl rfl dX10_atom_18 ?_
  refine ga_iconst hR (pc := 19) (v := nI 0) (by decide) dX10_atom_19 ?_
  refine ga_iast hR (pc := 20) (ws' := [(a 0, .inr (10, [.int x_rules, .int x_places, .ref (a 1), .ref (a 2), .ref (a 3), .int x_newRules, .int x_newPlaces, .ref (a 4), .ref (a 5), .ref (a 6), .ref (a 7), .ref (a 8), .int x_acts, .int x_kept, .int x_length, .ref (a 9), .int x_next, .int x_place, .int x_isWrong, .ref (a 10), .ref (a 11), .ref (a 12), .int x_parts, .int x_without, .ref (a 13), .ref (a 14), .ref (a 15), .ref (a 16), .int x_ways, .ref (a 17), .ref (a 18), .ref (a 19), .ref (a 20)])), (a 5, .inl (V.2 0, 10, .inl x_newTakes_2)), (a 6, .inl (V.2 0, 10, .inl ((upd x_newBehind v3_1.toNatClampNeg (nI 0))))), (a 10, .inl (V.2 0, 18, .inl x_firsts)), (a 11, .inl (V.2 0, 18, .inl x_lasts)), (a 12, .inl (V.2 1, 18, .inl x_mays))]) 2 rfl h.1 rfl dX10_atom_20 ?_
  replace h := h.2
  obtain ⟨x_newBehind_3, ex_newBehind_3⟩ : ∃ f : Nat → Int32, f = upd x_newBehind v3_1.toNatClampNeg (nI 0) := ⟨_, rfl⟩
  refine ga_cast (ws' := [(a 0, .inr (10, [.int x_rules, .int x_places, .ref (a 1), .ref (a 2), .ref (a 3), .int x_newRules, .int x_newPlaces, .ref (a 4), .ref (a 5), .ref (a 6), .ref (a 7), .ref (a 8), .int x_acts, .int x_kept, .int x_length, .ref (a 9), .int x_next, .int x_place, .int x_isWrong, .ref (a 10), .ref (a 11), .ref (a 12), .int x_parts, .int x_without, .ref (a 13), .ref (a 14), .ref (a 15), .ref (a 16), .int x_ways, .ref (a 17), .ref (a 18), .ref (a 19), .ref (a 20)])), (a 5, .inl (V.2 0, 10, .inl x_newTakes_2)), (a 6, .inl (V.2 0, 10, .inl x_newBehind_3)), (a 10, .inl (V.2 0, 18, .inl x_firsts)), (a 11, .inl (V.2 0, 18, .inl x_lasts)), (a 12, .inl (V.2 1, 18, .inl x_mays))]) (by rw [ex_newBehind_3]) rfl ?_
  replace h := h x_newBehind_3 ex_newBehind_3
  refine ga_aload_n hR (pc := 21) 1 rfl rfl dX10_atom_21 ?_
  refine ga_get hR (pc := 22) 0 rfl rfl hinX10 19 (by decide) f38 rfl dX10_atom_22 ?_
  refine ga_aload_n hR (pc := 25) 1 rfl rfl dX10_atom_25 ?_
  refine ga_get hR (pc := 26) 0 rfl rfl hinX10 22 (by decide) f130 rfl dX10_atom_26 ?_
  refine ga_iconst hR (pc := 29) (v := nI 1) (by decide) dX10_atom_29 ?_
  refine ga_iload_n hR (pc := 30) 0 rfl rfl dX10_atom_30 ?_
  refine ga_ishl hR (pc := 31) dX10_atom_31 ?_
  refine ga_topi (fun t_4 et_4 => ?_)
  replace h := h t_4 et_4
  refine ga_iast hR (pc := 32) (ws' := [(a 0, .inr (10, [.int x_rules, .int x_places, .ref (a 1), .ref (a 2), .ref (a 3), .int x_newRules, .int x_newPlaces, .ref (a 4), .ref (a 5), .ref (a 6), .ref (a 7), .ref (a 8), .int x_acts, .int x_kept, .int x_length, .ref (a 9), .int x_next, .int x_place, .int x_isWrong, .ref (a 10), .ref (a 11), .ref (a 12), .int x_parts, .int x_without, .ref (a 13), .ref (a 14), .ref (a 15), .ref (a 16), .int x_ways, .ref (a 17), .ref (a 18), .ref (a 19), .ref (a 20)])), (a 5, .inl (V.2 0, 10, .inl x_newTakes_2)), (a 6, .inl (V.2 0, 10, .inl x_newBehind_3)), (a 10, .inl (V.2 0, 18, .inl ((upd x_firsts x_parts.toNatClampNeg t_4)))), (a 11, .inl (V.2 0, 18, .inl x_lasts)), (a 12, .inl (V.2 1, 18, .inl x_mays))]) 3 rfl h.1 rfl dX10_atom_32 ?_
  replace h := h.2
  obtain ⟨x_firsts_5, ex_firsts_5⟩ : ∃ f : Nat → Int32, f = upd x_firsts x_parts.toNatClampNeg t_4 := ⟨_, rfl⟩
  refine ga_cast (ws' := [(a 0, .inr (10, [.int x_rules, .int x_places, .ref (a 1), .ref (a 2), .ref (a 3), .int x_newRules, .int x_newPlaces, .ref (a 4), .ref (a 5), .ref (a 6), .ref (a 7), .ref (a 8), .int x_acts, .int x_kept, .int x_length, .ref (a 9), .int x_next, .int x_place, .int x_isWrong, .ref (a 10), .ref (a 11), .ref (a 12), .int x_parts, .int x_without, .ref (a 13), .ref (a 14), .ref (a 15), .ref (a 16), .int x_ways, .ref (a 17), .ref (a 18), .ref (a 19), .ref (a 20)])), (a 5, .inl (V.2 0, 10, .inl x_newTakes_2)), (a 6, .inl (V.2 0, 10, .inl x_newBehind_3)), (a 10, .inl (V.2 0, 18, .inl x_firsts_5)), (a 11, .inl (V.2 0, 18, .inl x_lasts)), (a 12, .inl (V.2 1, 18, .inl x_mays))]) (by rw [ex_firsts_5]) rfl ?_
  replace h := h x_firsts_5 ex_firsts_5
  refine ga_aload_n hR (pc := 33) 1 rfl rfl dX10_atom_33 ?_
  refine ga_get hR (pc := 34) 0 rfl rfl hinX10 20 (by decide) f41 rfl dX10_atom_34 ?_
  refine ga_aload_n hR (pc := 37) 1 rfl rfl dX10_atom_37 ?_
  refine ga_get hR (pc := 38) 0 rfl rfl hinX10 22 (by decide) f130 rfl dX10_atom_38 ?_
  refine ga_iconst hR (pc := 41) (v := nI 1) (by decide) dX10_atom_41 ?_
  refine ga_iload_n hR (pc := 42) 0 rfl rfl dX10_atom_42 ?_
  refine ga_ishl hR (pc := 43) dX10_atom_43 ?_
  refine ga_topi (fun t_6 et_6 => ?_)
  replace h := h t_6 et_6
  refine ga_iast hR (pc := 44) (ws' := [(a 0, .inr (10, [.int x_rules, .int x_places, .ref (a 1), .ref (a 2), .ref (a 3), .int x_newRules, .int x_newPlaces, .ref (a 4), .ref (a 5), .ref (a 6), .ref (a 7), .ref (a 8), .int x_acts, .int x_kept, .int x_length, .ref (a 9), .int x_next, .int x_place, .int x_isWrong, .ref (a 10), .ref (a 11), .ref (a 12), .int x_parts, .int x_without, .ref (a 13), .ref (a 14), .ref (a 15), .ref (a 16), .int x_ways, .ref (a 17), .ref (a 18), .ref (a 19), .ref (a 20)])), (a 5, .inl (V.2 0, 10, .inl x_newTakes_2)), (a 6, .inl (V.2 0, 10, .inl x_newBehind_3)), (a 10, .inl (V.2 0, 18, .inl x_firsts_5)), (a 11, .inl (V.2 0, 18, .inl ((upd x_lasts x_parts.toNatClampNeg t_6)))), (a 12, .inl (V.2 1, 18, .inl x_mays))]) 4 rfl h.1 rfl dX10_atom_44 ?_
  replace h := h.2
  obtain ⟨x_lasts_7, ex_lasts_7⟩ : ∃ f : Nat → Int32, f = upd x_lasts x_parts.toNatClampNeg t_6 := ⟨_, rfl⟩
  refine ga_cast (ws' := [(a 0, .inr (10, [.int x_rules, .int x_places, .ref (a 1), .ref (a 2), .ref (a 3), .int x_newRules, .int x_newPlaces, .ref (a 4), .ref (a 5), .ref (a 6), .ref (a 7), .ref (a 8), .int x_acts, .int x_kept, .int x_length, .ref (a 9), .int x_next, .int x_place, .int x_isWrong, .ref (a 10), .ref (a 11), .ref (a 12), .int x_parts, .int x_without, .ref (a 13), .ref (a 14), .ref (a 15), .ref (a 16), .int x_ways, .ref (a 17), .ref (a 18), .ref (a 19), .ref (a 20)])), (a 5, .inl (V.2 0, 10, .inl x_newTakes_2)), (a 6, .inl (V.2 0, 10, .inl x_newBehind_3)), (a 10, .inl (V.2 0, 18, .inl x_firsts_5)), (a 11, .inl (V.2 0, 18, .inl x_lasts_7)), (a 12, .inl (V.2 1, 18, .inl x_mays))]) (by rw [ex_lasts_7]) rfl ?_
  replace h := h x_lasts_7 ex_lasts_7
  refine ga_aload_n hR (pc := 45) 1 rfl rfl dX10_atom_45 ?_
  refine ga_get hR (pc := 46) 0 rfl rfl hinX10 21 (by decide) f44 rfl dX10_atom_46 ?_
  refine ga_aload_n hR (pc := 49) 1 rfl rfl dX10_atom_49 ?_
  refine ga_get hR (pc := 50) 0 rfl rfl hinX10 22 (by decide) f130 rfl dX10_atom_50 ?_
  refine ga_iconst hR (pc := 53) (v := nI 0) (by decide) dX10_atom_53 ?_
  refine ga_zast hR (pc := 54) (ws' := [(a 0, .inr (10, [.int x_rules, .int x_places, .ref (a 1), .ref (a 2), .ref (a 3), .int x_newRules, .int x_newPlaces, .ref (a 4), .ref (a 5), .ref (a 6), .ref (a 7), .ref (a 8), .int x_acts, .int x_kept, .int x_length, .ref (a 9), .int x_next, .int x_place, .int x_isWrong, .ref (a 10), .ref (a 11), .ref (a 12), .int x_parts, .int x_without, .ref (a 13), .ref (a 14), .ref (a 15), .ref (a 16), .int x_ways, .ref (a 17), .ref (a 18), .ref (a 19), .ref (a 20)])), (a 5, .inl (V.2 0, 10, .inl x_newTakes_2)), (a 6, .inl (V.2 0, 10, .inl x_newBehind_3)), (a 10, .inl (V.2 0, 18, .inl x_firsts_5)), (a 11, .inl (V.2 0, 18, .inl x_lasts_7)), (a 12, .inl (V.2 1, 18, .inl ((upd x_mays x_parts.toNatClampNeg (vp_nar .boolean (nI 0))))))]) 5 rfl h.1 rfl dX10_atom_54 ?_
  replace h := h.2
  obtain ⟨x_mays_8, ex_mays_8⟩ : ∃ f : Nat → Int32, f = upd x_mays x_parts.toNatClampNeg (vp_nar .boolean (nI 0)) := ⟨_, rfl⟩
  refine ga_cast (ws' := [(a 0, .inr (10, [.int x_rules, .int x_places, .ref (a 1), .ref (a 2), .ref (a 3), .int x_newRules, .int x_newPlaces, .ref (a 4), .ref (a 5), .ref (a 6), .ref (a 7), .ref (a 8), .int x_acts, .int x_kept, .int x_length, .ref (a 9), .int x_next, .int x_place, .int x_isWrong, .ref (a 10), .ref (a 11), .ref (a 12), .int x_parts, .int x_without, .ref (a 13), .ref (a 14), .ref (a 15), .ref (a 16), .int x_ways, .ref (a 17), .ref (a 18), .ref (a 19), .ref (a 20)])), (a 5, .inl (V.2 0, 10, .inl x_newTakes_2)), (a 6, .inl (V.2 0, 10, .inl x_newBehind_3)), (a 10, .inl (V.2 0, 18, .inl x_firsts_5)), (a 11, .inl (V.2 0, 18, .inl x_lasts_7)), (a 12, .inl (V.2 1, 18, .inl x_mays_8))]) (by rw [ex_mays_8]) rfl ?_
  replace h := h x_mays_8 ex_mays_8
  refine ga_aload_n hR (pc := 55) 1 rfl rfl dX10_atom_55 ?_
  refine ga_dup hR (pc := 56) rfl dX10_atom_56 ?_
  refine ga_get hR (pc := 57) 0 rfl rfl hinX10 22 (by decide) f130 rfl dX10_atom_57 ?_
  refine ga_iconst hR (pc := 60) (v := nI 1) (by decide) dX10_atom_60 ?_
  refine ga_iadd hR (pc := 61) dX10_atom_61 ?_
  refine ga_topi (fun x_parts_9 ex_parts_9 => ?_)
  replace h := h x_parts_9 ex_parts_9
  refine ga_putf hR (pc := 62) (ws' := [(a 0, .inr (10, [.int x_rules, .int x_places, .ref (a 1), .ref (a 2), .ref (a 3), .int x_newRules, .int x_newPlaces, .ref (a 4), .ref (a 5), .ref (a 6), .ref (a 7), .ref (a 8), .int x_acts, .int x_kept, .int x_length, .ref (a 9), .int x_next, .int x_place, .int x_isWrong, .ref (a 10), .ref (a 11), .ref (a 12), .int x_parts_9, .int x_without, .ref (a 13), .ref (a 14), .ref (a 15), .ref (a 16), .int x_ways, .ref (a 17), .ref (a 18), .ref (a 19), .ref (a 20)])), (a 5, .inl (V.2 0, 10, .inl x_newTakes_2)), (a 6, .inl (V.2 0, 10, .inl x_newBehind_3)), (a 10, .inl (V.2 0, 18, .inl x_firsts_5)), (a 11, .inl (V.2 0, 18, .inl x_lasts_7)), (a 12, .inl (V.2 1, 18, .inl x_mays_8))]) 0 rfl rfl hinX10 22 (by decide) f130 tyX10_ok nmX10 rfl rfl rfl (Nat.le_of_ble_eq_true rfl) rfl dX10_atom_62 ?_
  exact ga_vret hE dX10_atom_65 (ga_rv (x_parts_9, x_newTakes_2, x_newBehind_3, x_firsts_5, x_lasts_7, x_mays_8) rfl h)

def rm_X10_follows : Room := { frames := 1, cells := 0, slots := 0, locals := 21 }
theorem hd_X10_followsS : yX10_follows.cls ≠ "java/lang/invoke/MethodHandle" ∧ yX10_follows.cls ≠ "java/lang/invoke/VarHandle" ∧ (parseMethodDescriptor yX10_follows.desc).map (fun d => d.parameters.length) = some 2 := by decide +kernel
theorem hd_X10_follows : yX10_follows.cls = RX10 ∧ yX10_follows.cls ≠ "java/lang/invoke/MethodHandle" ∧ yX10_follows.cls ≠ "java/lang/invoke/VarHandle" ∧ (parseMethodDescriptor yX10_follows.desc).map (fun d => d.parameters.length) = some 2 := ⟨rfl, hd_X10_followsS⟩
set_option maxHeartbeats 4000000 in
set_option maxRecDepth 100000 in
theorem c_X10_follows (V : ga_V) (a : Nat → Nat) (x_rules : Int32) (x_places : Int32) (x_newRules : Int32) (x_newPlaces : Int32) (x_acts : Int32) (x_kept : Int32) (x_length : Int32) (x_next : Int32) (x_place : Int32) (x_isWrong : Int32) (x_parts : Int32) (x_without : Int32) (x_ways : Int32) (x_newBehind : Nat → Int32) (p1 : Int32) (p2 : Int32) (K : (Nat → Int32) → Prop) (h : wp_X10_follows x_newBehind p1 p2 K) : ga_C V yX10_follows wsX10_follows rm_X10_follows [.ref (a 0), .int p1, .int p2] [(a 0, .inr (10, [.int x_rules, .int x_places, .ref (a 1), .ref (a 2), .ref (a 3), .int x_newRules, .int x_newPlaces, .ref (a 4), .ref (a 5), .ref (a 6), .ref (a 7), .ref (a 8), .int x_acts, .int x_kept, .int x_length, .ref (a 9), .int x_next, .int x_place, .int x_isWrong, .ref (a 10), .ref (a 11), .ref (a 12), .int x_parts, .int x_without, .ref (a 13), .ref (a 14), .ref (a 15), .ref (a 16), .int x_ways, .ref (a 17), .ref (a 18), .ref (a 19), .ref (a 20)])), (a 6, .inl (V.2 0, 10, .inl x_newBehind))] 0 0 (ga_Fv (fun (u : (Nat → Int32)) => [(a 0, .inr (10, [.int x_rules, .int x_places, .ref (a 1), .ref (a 2), .ref (a 3), .int x_newRules, .int x_newPlaces, .ref (a 4), .ref (a 5), .ref (a 6), .ref (a 7), .ref (a 8), .int x_acts, .int x_kept, .int x_length, .ref (a 9), .int x_next, .int x_place, .int x_isWrong, .ref (a 10), .ref (a 11), .ref (a 12), .int x_parts, .int x_without, .ref (a 13), .ref (a 14), .ref (a 15), .ref (a 16), .int x_ways, .ref (a 17), .ref (a 18), .ref (a 19), .ref (a 20)])), (a 6, .inl (V.2 0, 10, .inl u))]) (fun u => K u)) := by
  refine ga_met (cc := cX10_follows) (maxL := 4) (rt := none) (by decide) rfl [(0, .ref (a 0)), (1, .int p1), (2, .int p2)] rfl (Nat.le_of_ble_eq_true rfl) ?_
  intro G hR hE
  have hinX10 : ∀ w ∈ u_ws RX10 TX10 33, w ∈ wsX10_follows := by decide +kernel
  have f25 : Cond.fieldLink RX10 25 "BoundaryRulesModel" "newBehind" "[I" ∈ wsX10_follows := by decide +kernel
  unfold wp_X10_follows at h
  refine ga_iconst hR (pc := 0) (v := nI 0) (by decide) dX10_follows_0 ?_
  refine ga_istore_n hR (pc := 1) (lv' := [(3, .int (nI 0)), (0, .ref (a 0)), (1, .int p1), (2, .int p2)]) rfl (by decide) rfl dX10_follows_1 ?_
  have hJ := h (fun (x_newBehind_1 : Nat → Int32) => G 0 0 [(a 0, .inr (10, [.int x_rules, .int x_places, .ref (a 1), .ref (a 2), .ref (a 3), .int x_newRules, .int x_newPlaces, .ref (a 4), .ref (a 5), .ref (a 6), .ref (a 7), .ref (a 8), .int x_acts, .int x_kept, .int x_length, .ref (a 9), .int x_next, .int x_place, .int x_isWrong, .ref (a 10), .ref (a 11), .ref (a 12), .int x_parts, .int x_without, .ref (a 13), .ref (a 14), .ref (a 15), .ref (a 16), .int x_ways, .ref (a 17), .ref (a 18), .ref (a 19), .ref (a 20)])), (a 6, .inl (V.2 0, 10, .inl x_newBehind_1))] 36 [] [])
  refine ga_bind hJ ?_ ?_
  · intro x_newBehind_1 h
    show G 0 0 [(a 0, .inr (10, [.int x_rules, .int x_places, .ref (a 1), .ref (a 2), .ref (a 3), .int x_newRules, .int x_newPlaces, .ref (a 4), .ref (a 5), .ref (a 6), .ref (a 7), .ref (a 8), .int x_acts, .int x_kept, .int x_length, .ref (a 9), .int x_next, .int x_place, .int x_isWrong, .ref (a 10), .ref (a 11), .ref (a 12), .int x_parts, .int x_without, .ref (a 13), .ref (a 14), .ref (a 15), .ref (a 16), .int x_ways, .ref (a 17), .ref (a 18), .ref (a 19), .ref (a 20)])), (a 6, .inl (V.2 0, 10, .inl x_newBehind_1))] 36 [] []
    exact ga_vret hE dX10_follows_36 (ga_rv x_newBehind_1 rfl h)
  · intro h
    obtain ⟨n, h⟩ := h
    have L2 : ∀ (n : Nat) (v3_10 : Int32) (x_newBehind_11 : Nat → Int32), lp_X10_follows_2 p1 p2 (fun (x_newBehind_1 : Nat → Int32) => G 0 0 [(a 0, .inr (10, [.int x_rules, .int x_places, .ref (a 1), .ref (a 2), .ref (a 3), .int x_newRules, .int x_newPlaces, .ref (a 4), .ref (a 5), .ref (a 6), .ref (a 7), .ref (a 8), .int x_acts, .int x_kept, .int x_length, .ref (a 9), .int x_next, .int x_place, .int x_isWrong, .ref (a 10), .ref (a 11), .ref (a 12), .int x_parts, .int x_without, .ref (a 13), .ref (a 14), .ref (a 15), .ref (a 16), .int x_ways, .ref (a 17), .ref (a 18), .ref (a 19), .ref (a 20)])), (a 6, .inl (V.2 0, 10, .inl x_newBehind_1))] 36 [] []) n v3_10 x_newBehind_11 → G 0 0 [(a 0, .inr (10, [.int x_rules, .int x_places, .ref (a 1), .ref (a 2), .ref (a 3), .int x_newRules, .int x_newPlaces, .ref (a 4), .ref (a 5), .ref (a 6), .ref (a 7), .ref (a 8), .int x_acts, .int x_kept, .int x_length, .ref (a 9), .int x_next, .int x_place, .int x_isWrong, .ref (a 10), .ref (a 11), .ref (a 12), .int x_parts, .int x_without, .ref (a 13), .ref (a 14), .ref (a 15), .ref (a 16), .int x_ways, .ref (a 17), .ref (a 18), .ref (a 19), .ref (a 20)])), (a 6, .inl (V.2 0, 10, .inl x_newBehind_11))] 2 [(0, .ref (a 0)), (1, .int p1), (2, .int p2), (3, .int v3_10)] [] := by
      intro n
      induction n with
      | zero => exact fun _ _ h => False.elim h
      | succ n ih =>
        intro v3_10 x_newBehind_11 h
        rw [lp_X10_follows_2] at h
        refine ga_iload_n hR (pc := 2) 3 rfl rfl dX10_follows_2 ?_
        refine ga_bipush hR (pc := 3) (v := nI 10) (by decide) dX10_follows_3 ?_
        refine ga_icmp_ge hR (pc := 5) 36 (by decide) dX10_follows_5 (fun c5 => ?_) (fun c5 => ?_)
        · replace h := h.1 c5
          exact ga_lv hR [] rfl h
        · replace h := h.2 c5
          refine ga_aload_n hR (pc := 8) 0 rfl rfl dX10_follows_8 ?_
          refine ga_get hR (pc := 9) 0 rfl rfl hinX10 9 (by decide) f25 rfl dX10_follows_9 ?_
          refine ga_iload_n hR (pc := 12) 3 rfl rfl dX10_follows_12 ?_
          refine ga_dup2 hR (pc := 13) rfl rfl dX10_follows_13 ?_
          refine ga_iald hR (pc := 14) 1 rfl h.1 dX10_follows_14 ?_
          replace h := h.2
          refine ga_iload_n hR (pc := 15) 1 rfl rfl dX10_follows_15 ?_
          refine ga_iload_n hR (pc := 16) 3 rfl rfl dX10_follows_16 ?_
          refine ga_callS hR (pc := 17) (As := [.int p1, .int v3_10]) (rest := [.int (x_newBehind_11 v3_10.toNatClampNeg), .int v3_10, .ref (a 6)]) (st0 := [.int v3_10, .int p1, .int (x_newBehind_11 v3_10.toNatClampNeg), .int v3_10, .ref (a 6)]) 2 (c_X10_has V p1 v3_10 _ h) (ga_same_i fun _ => rfl) gX10_follows_X10_has rfl rfl rfl hd_X10_hasS ⟨Nat.le_of_ble_eq_true rfl, Nat.le_of_ble_eq_true rfl⟩ rfl rfl (Nat.le_of_ble_eq_true rfl) ⟨Nat.zero_le _, Nat.zero_le _⟩ [] rfl rfl dX10_follows_17 ?_
          rintro _ _ ⟨r_12, ⟨⟩, rfl, rfl, h⟩
          refine ga_to [(a 0, .inr (10, [.int x_rules, .int x_places, .ref (a 1), .ref (a 2), .ref (a 3), .int x_newRules, .int x_newPlaces, .ref (a 4), .ref (a 5), .ref (a 6), .ref (a 7), .ref (a 8), .int x_acts, .int x_kept, .int x_length, .ref (a 9), .int x_next, .int x_place, .int x_isWrong, .ref (a 10), .ref (a 11), .ref (a 12), .int x_parts, .int x_without, .ref (a 13), .ref (a 14), .ref (a 15), .ref (a 16), .int x_ways, .ref (a 17), .ref (a 18), .ref (a 19), .ref (a 20)])), (a 6, .inl (V.2 0, 10, .inl x_newBehind_11))] [.int r_12, .int (x_newBehind_11 v3_10.toNatClampNeg), .int v3_10, .ref (a 6)] rfl rfl ?_
          try dsimp only at h
          refine ga_if_eq hR (pc := 20) 27 (by decide) dX10_follows_20 (fun c20 => ?_) (fun c20 => ?_)
          · replace h := h.1 c20
            refine ga_iconst hR (pc := 27) (v := nI 0) (by decide) dX10_follows_27 ?_
            refine ga_ior hR (pc := 28) dX10_follows_28 ?_
            refine ga_topi (fun t_13 et_13 => ?_)
            replace h := h t_13 et_13
            refine ga_iast hR (pc := 29) (ws' := [(a 0, .inr (10, [.int x_rules, .int x_places, .ref (a 1), .ref (a 2), .ref (a 3), .int x_newRules, .int x_newPlaces, .ref (a 4), .ref (a 5), .ref (a 6), .ref (a 7), .ref (a 8), .int x_acts, .int x_kept, .int x_length, .ref (a 9), .int x_next, .int x_place, .int x_isWrong, .ref (a 10), .ref (a 11), .ref (a 12), .int x_parts, .int x_without, .ref (a 13), .ref (a 14), .ref (a 15), .ref (a 16), .int x_ways, .ref (a 17), .ref (a 18), .ref (a 19), .ref (a 20)])), (a 6, .inl (V.2 0, 10, .inl ((upd x_newBehind_11 v3_10.toNatClampNeg t_13))))]) 1 rfl h.1 rfl dX10_follows_29 ?_
            replace h := h.2
            obtain ⟨x_newBehind_14, ex_newBehind_14⟩ : ∃ f : Nat → Int32, f = upd x_newBehind_11 v3_10.toNatClampNeg t_13 := ⟨_, rfl⟩
            refine ga_cast (ws' := [(a 0, .inr (10, [.int x_rules, .int x_places, .ref (a 1), .ref (a 2), .ref (a 3), .int x_newRules, .int x_newPlaces, .ref (a 4), .ref (a 5), .ref (a 6), .ref (a 7), .ref (a 8), .int x_acts, .int x_kept, .int x_length, .ref (a 9), .int x_next, .int x_place, .int x_isWrong, .ref (a 10), .ref (a 11), .ref (a 12), .int x_parts, .int x_without, .ref (a 13), .ref (a 14), .ref (a 15), .ref (a 16), .int x_ways, .ref (a 17), .ref (a 18), .ref (a 19), .ref (a 20)])), (a 6, .inl (V.2 0, 10, .inl x_newBehind_14))]) (by rw [ex_newBehind_14]) rfl ?_
            replace h := h x_newBehind_14 ex_newBehind_14
            obtain ⟨v3_15, ev3_15⟩ : ∃ v : Int32, v = v3_10 + (nI 1) := ⟨_, rfl⟩
            replace h := h v3_15 ev3_15
            refine ga_iinc hR (pc := 30) (lv' := [(3, .int v3_15), (0, .ref (a 0)), (1, .int p1), (2, .int p2)]) 3 (by decide) rfl ev3_15 (by decide) rfl dX10_follows_30 ?_
            refine ga_goto hR (pc := 33) 2 (by decide) dX10_follows_33 ?_
            exact ga_lv hR [1, 2, 3, 0] rfl (ih _ _ h)
          · replace h := h.2 c20
            refine ga_iload_n hR (pc := 23) 2 rfl rfl dX10_follows_23 ?_
            refine ga_goto hR (pc := 24) 28 (by decide) dX10_follows_24 ?_
            refine ga_ior hR (pc := 28) dX10_follows_28 ?_
            refine ga_topi (fun t_16 et_16 => ?_)
            replace h := h t_16 et_16
            refine ga_iast hR (pc := 29) (ws' := [(a 0, .inr (10, [.int x_rules, .int x_places, .ref (a 1), .ref (a 2), .ref (a 3), .int x_newRules, .int x_newPlaces, .ref (a 4), .ref (a 5), .ref (a 6), .ref (a 7), .ref (a 8), .int x_acts, .int x_kept, .int x_length, .ref (a 9), .int x_next, .int x_place, .int x_isWrong, .ref (a 10), .ref (a 11), .ref (a 12), .int x_parts, .int x_without, .ref (a 13), .ref (a 14), .ref (a 15), .ref (a 16), .int x_ways, .ref (a 17), .ref (a 18), .ref (a 19), .ref (a 20)])), (a 6, .inl (V.2 0, 10, .inl ((upd x_newBehind_11 v3_10.toNatClampNeg t_16))))]) 1 rfl h.1 rfl dX10_follows_29 ?_
            replace h := h.2
            obtain ⟨x_newBehind_17, ex_newBehind_17⟩ : ∃ f : Nat → Int32, f = upd x_newBehind_11 v3_10.toNatClampNeg t_16 := ⟨_, rfl⟩
            refine ga_cast (ws' := [(a 0, .inr (10, [.int x_rules, .int x_places, .ref (a 1), .ref (a 2), .ref (a 3), .int x_newRules, .int x_newPlaces, .ref (a 4), .ref (a 5), .ref (a 6), .ref (a 7), .ref (a 8), .int x_acts, .int x_kept, .int x_length, .ref (a 9), .int x_next, .int x_place, .int x_isWrong, .ref (a 10), .ref (a 11), .ref (a 12), .int x_parts, .int x_without, .ref (a 13), .ref (a 14), .ref (a 15), .ref (a 16), .int x_ways, .ref (a 17), .ref (a 18), .ref (a 19), .ref (a 20)])), (a 6, .inl (V.2 0, 10, .inl x_newBehind_17))]) (by rw [ex_newBehind_17]) rfl ?_
            replace h := h x_newBehind_17 ex_newBehind_17
            obtain ⟨v3_18, ev3_18⟩ : ∃ v : Int32, v = v3_10 + (nI 1) := ⟨_, rfl⟩
            replace h := h v3_18 ev3_18
            refine ga_iinc hR (pc := 30) (lv' := [(3, .int v3_18), (0, .ref (a 0)), (1, .int p1), (2, .int p2)]) 3 (by decide) rfl ev3_18 (by decide) rfl dX10_follows_30 ?_
            refine ga_goto hR (pc := 33) 2 (by decide) dX10_follows_33 ?_
            exact ga_lv hR [1, 2, 3, 0] rfl (ih _ _ h)
    exact ga_lv hR [1, 2, 3, 0] rfl (L2 n _ _ h)

def rm_X10_both : Room := { frames := 2, cells := 0, slots := 0, locals := 44 }
theorem hd_X10_bothS : yX10_both.cls ≠ "java/lang/invoke/MethodHandle" ∧ yX10_both.cls ≠ "java/lang/invoke/VarHandle" ∧ (parseMethodDescriptor yX10_both.desc).map (fun d => d.parameters.length) = some 0 := by decide +kernel
theorem hd_X10_both : yX10_both.cls = RX10 ∧ yX10_both.cls ≠ "java/lang/invoke/MethodHandle" ∧ yX10_both.cls ≠ "java/lang/invoke/VarHandle" ∧ (parseMethodDescriptor yX10_both.desc).map (fun d => d.parameters.length) = some 0 := ⟨rfl, hd_X10_bothS⟩
set_option maxHeartbeats 4000000 in
set_option maxRecDepth 100000 in
theorem c_X10_both (V : ga_V) (a : Nat → Nat) (x_rules : Int32) (x_places : Int32) (x_newRules : Int32) (x_newPlaces : Int32) (x_acts : Int32) (x_kept : Int32) (x_length : Int32) (x_next : Int32) (x_place : Int32) (x_isWrong : Int32) (x_without : Int32) (x_ways : Int32) (x_parts : Int32) (x_newBehind : Nat → Int32) (x_firsts : Nat → Int32) (x_lasts : Nat → Int32) (x_mays : Nat → Int32) (K : Int32 → (Nat → Int32) → (Nat → Int32) → (Nat → Int32) → (Nat → Int32) → Prop) (h : wp_X10_both x_parts x_newBehind x_firsts x_lasts x_mays K) : ga_C V yX10_both wsX10_both rm_X10_both [.ref (a 0)] [(a 0, .inr (10, [.int x_rules, .int x_places, .ref (a 1), .ref (a 2), .ref (a 3), .int x_newRules, .int x_newPlaces, .ref (a 4), .ref (a 5), .ref (a 6), .ref (a 7), .ref (a 8), .int x_acts, .int x_kept, .int x_length, .ref (a 9), .int x_next, .int x_place, .int x_isWrong, .ref (a 10), .ref (a 11), .ref (a 12), .int x_parts, .int x_without, .ref (a 13), .ref (a 14), .ref (a 15), .ref (a 16), .int x_ways, .ref (a 17), .ref (a 18), .ref (a 19), .ref (a 20)])), (a 6, .inl (V.2 0, 10, .inl x_newBehind)), (a 10, .inl (V.2 0, 18, .inl x_firsts)), (a 11, .inl (V.2 0, 18, .inl x_lasts)), (a 12, .inl (V.2 1, 18, .inl x_mays))] 0 0 (ga_Fv (fun (u : Int32 × (Nat → Int32) × (Nat → Int32) × (Nat → Int32) × (Nat → Int32)) => [(a 0, .inr (10, [.int x_rules, .int x_places, .ref (a 1), .ref (a 2), .ref (a 3), .int x_newRules, .int x_newPlaces, .ref (a 4), .ref (a 5), .ref (a 6), .ref (a 7), .ref (a 8), .int x_acts, .int x_kept, .int x_length, .ref (a 9), .int x_next, .int x_place, .int x_isWrong, .ref (a 10), .ref (a 11), .ref (a 12), .int u.1, .int x_without, .ref (a 13), .ref (a 14), .ref (a 15), .ref (a 16), .int x_ways, .ref (a 17), .ref (a 18), .ref (a 19), .ref (a 20)])), (a 6, .inl (V.2 0, 10, .inl u.2.1)), (a 10, .inl (V.2 0, 18, .inl u.2.2.1)), (a 11, .inl (V.2 0, 18, .inl u.2.2.2.1)), (a 12, .inl (V.2 1, 18, .inl u.2.2.2.2))]) (fun u => K u.1 u.2.1 u.2.2.1 u.2.2.2.1 u.2.2.2.2)) := by
  refine ga_met (cc := cX10_both) (maxL := 5) (rt := none) (by decide) rfl [(0, .ref (a 0))] rfl (Nat.le_of_ble_eq_true rfl) ?_
  intro G hR hE
  have hinX10 : ∀ w ∈ u_ws RX10 TX10 33, w ∈ wsX10_both := by decide +kernel
  have f130 : Cond.fieldLink RX10 130 "BoundaryRulesModel" "parts" "I" ∈ wsX10_both := by decide +kernel
  have f41 : Cond.fieldLink RX10 41 "BoundaryRulesModel" "lasts" "[I" ∈ wsX10_both := by decide +kernel
  have f38 : Cond.fieldLink RX10 38 "BoundaryRulesModel" "firsts" "[I" ∈ wsX10_both := by decide +kernel
  have f44 : Cond.fieldLink RX10 44 "BoundaryRulesModel" "mays" "[Z" ∈ wsX10_both := by decide +kernel
  unfold wp_X10_both at h
  refine ga_aload_n hR (pc := 0) 0 rfl rfl dX10_both_0 ?_
  refine ga_get hR (pc := 1) 0 rfl rfl hinX10 22 (by decide) f130 rfl dX10_both_1 ?_
  refine ga_iconst hR (pc := 4) (v := nI 1) (by decide) dX10_both_4 ?_
  refine ga_isub hR (pc := 5) dX10_both_5 ?_
  refine ga_topi (fun v1_1 ev1_1 => ?_)
  replace h := h v1_1 ev1_1
  refine ga_istore_n hR (pc := 6) (lv' := [(1, .int v1_1), (0, .ref (a 0))]) rfl (by decide) rfl dX10_both_6 ?_
  refine ga_aload_n hR (pc := 7) 1 rfl rfl dX10_both_7 ?_
  refine ga_get hR (pc := 8) 0 rfl rfl hinX10 22 (by decide) f130 rfl dX10_both_8 ?_
  refine ga_iconst hR (pc := 11) (v := nI 2) (by decide) dX10_both_11 ?_
  refine ga_isub hR (pc := 12) dX10_both_12 ?_
  refine ga_topi (fun v2_2 ev2_2 => ?_)
  replace h := h v2_2 ev2_2
  refine ga_istore_n hR (pc := 13) (lv' := [(2, .int v2_2), (1, .int v1_1), (0, .ref (a 0))]) rfl (by decide) rfl dX10_both_13 ?_
  refine ga_aload_n hR (pc := 14) 2 rfl rfl dX10_both_14 ?_
  refine ga_aload_n hR (pc := 15) 2 rfl rfl dX10_both_15 ?_
  refine ga_get hR (pc := 16) 0 rfl rfl hinX10 20 (by decide) f41 rfl dX10_both_16 ?_
  refine ga_iload_n hR (pc := 19) 1 rfl rfl dX10_both_19 ?_
  refine ga_iald hR (pc := 20) 3 rfl h.1 dX10_both_20 ?_
  replace h := h.2
  refine ga_aload_n hR (pc := 21) 2 rfl rfl dX10_both_21 ?_
  refine ga_get hR (pc := 22) 0 rfl rfl hinX10 19 (by decide) f38 rfl dX10_both_22 ?_
  refine ga_iload_n hR (pc := 25) 0 rfl rfl dX10_both_25 ?_
  refine ga_iald hR (pc := 26) 2 rfl h.1 dX10_both_26 ?_
  replace h := h.2
  refine ga_callV hR (pc := 27) (As := [.int (x_lasts v1_1.toNatClampNeg), .int (x_firsts v2_2.toNatClampNeg)]) (rest := []) (st0 := [.int (x_firsts v2_2.toNatClampNeg), .int (x_lasts v1_1.toNatClampNeg), .ref (a 0)]) (b := (a 0)) 2 (c_X10_follows V a x_rules x_places x_newRules x_newPlaces x_acts x_kept x_length x_next x_place x_isWrong x_parts x_without x_ways x_newBehind (x_lasts v1_1.toNatClampNeg) (x_firsts v2_2.toNatClampNeg) _ h) (ga_same_v fun _ => rfl) gX10_both_X10_follows rfl rfl rfl hd_X10_follows ⟨Nat.le_of_ble_eq_true rfl, Nat.le_of_ble_eq_true rfl⟩ rfl rfl (Nat.le_of_ble_eq_true rfl) ⟨Nat.zero_le _, Nat.zero_le _⟩ [0, 1] rfl rfl 0 rfl rfl dX10_both_27 ?_
  rintro _ _ ⟨x_newBehind_3, rfl, rfl, h⟩
  refine ga_to [(a 0, .inr (10, [.int x_rules, .int x_places, .ref (a 1), .ref (a 2), .ref (a 3), .int x_newRules, .int x_newPlaces, .ref (a 4), .ref (a 5), .ref (a 6), .ref (a 7), .ref (a 8), .int x_acts, .int x_kept, .int x_length, .ref (a 9), .int x_next, .int x_place, .int x_isWrong, .ref (a 10), .ref (a 11), .ref (a 12), .int x_parts, .int x_without, .ref (a 13), .ref (a 14), .ref (a 15), .ref (a 16), .int x_ways, .ref (a 17), .ref (a 18), .ref (a 19), .ref (a 20)])), (a 6, .inl (V.2 0, 10, .inl x_newBehind_3)), (a 10, .inl (V.2 0, 18, .inl x_firsts)), (a 11, .inl (V.2 0, 18, .inl x_lasts)), (a 12, .inl (V.2 1, 18, .inl x_mays))] [] rfl rfl ?_
  try dsimp only at h
  refine ga_aload_n hR (pc := 30) 2 rfl rfl dX10_both_30 ?_
  refine ga_get hR (pc := 31) 0 rfl rfl hinX10 19 (by decide) f38 rfl dX10_both_31 ?_
  refine ga_iload_n hR (pc := 34) 1 rfl rfl dX10_both_34 ?_
  refine ga_iald hR (pc := 35) 2 rfl h.1 dX10_both_35 ?_
  replace h := h.2
  refine ga_aload_n hR (pc := 36) 2 rfl rfl dX10_both_36 ?_
  refine ga_get hR (pc := 37) 0 rfl rfl hinX10 21 (by decide) f44 rfl dX10_both_37 ?_
  refine ga_iload_n hR (pc := 40) 1 rfl rfl dX10_both_40 ?_
  refine ga_zald hR (pc := 41) 4 rfl h.1 dX10_both_41 ?_
  replace h := h.2
  have hJ := h (fun (s1_4 : Int32) => G 0 0 [(a 0, .inr (10, [.int x_rules, .int x_places, .ref (a 1), .ref (a 2), .ref (a 3), .int x_newRules, .int x_newPlaces, .ref (a 4), .ref (a 5), .ref (a 6), .ref (a 7), .ref (a 8), .int x_acts, .int x_kept, .int x_length, .ref (a 9), .int x_next, .int x_place, .int x_isWrong, .ref (a 10), .ref (a 11), .ref (a 12), .int x_parts, .int x_without, .ref (a 13), .ref (a 14), .ref (a 15), .ref (a 16), .int x_ways, .ref (a 17), .ref (a 18), .ref (a 19), .ref (a 20)])), (a 6, .inl (V.2 0, 10, .inl x_newBehind_3)), (a 10, .inl (V.2 0, 18, .inl x_firsts)), (a 11, .inl (V.2 0, 18, .inl x_lasts)), (a 12, .inl (V.2 1, 18, .inl x_mays))] 55 [(0, .ref (a 0)), (1, .int v1_1), (2, .int v2_2)] [.int s1_4, .int (x_firsts v1_1.toNatClampNeg)])
  refine ga_bind hJ ?_ ?_
  · intro s1_4 h
    show G 0 0 [(a 0, .inr (10, [.int x_rules, .int x_places, .ref (a 1), .ref (a 2), .ref (a 3), .int x_newRules, .int x_newPlaces, .ref (a 4), .ref (a 5), .ref (a 6), .ref (a 7), .ref (a 8), .int x_acts, .int x_kept, .int x_length, .ref (a 9), .int x_next, .int x_place, .int x_isWrong, .ref (a 10), .ref (a 11), .ref (a 12), .int x_parts, .int x_without, .ref (a 13), .ref (a 14), .ref (a 15), .ref (a 16), .int x_ways, .ref (a 17), .ref (a 18), .ref (a 19), .ref (a 20)])), (a 6, .inl (V.2 0, 10, .inl x_newBehind_3)), (a 10, .inl (V.2 0, 18, .inl x_firsts)), (a 11, .inl (V.2 0, 18, .inl x_lasts)), (a 12, .inl (V.2 1, 18, .inl x_mays))] 55 [(0, .ref (a 0)), (1, .int v1_1), (2, .int v2_2)] [.int s1_4, .int (x_firsts v1_1.toNatClampNeg)]
    refine ga_ior hR (pc := 55) dX10_both_55 ?_
    refine ga_topi (fun v3_6 ev3_6 => ?_)
    replace h := h v3_6 ev3_6
    refine ga_istore_n hR (pc := 56) (lv' := [(3, .int v3_6), (0, .ref (a 0)), (1, .int v1_1), (2, .int v2_2)]) rfl (by decide) rfl dX10_both_56 ?_
    refine ga_aload_n hR (pc := 57) 1 rfl rfl dX10_both_57 ?_
    refine ga_get hR (pc := 58) 0 rfl rfl hinX10 20 (by decide) f41 rfl dX10_both_58 ?_
    refine ga_iload_n hR (pc := 61) 3 rfl rfl dX10_both_61 ?_
    refine ga_iald hR (pc := 62) 3 rfl h.1 dX10_both_62 ?_
    replace h := h.2
    refine ga_aload_n hR (pc := 63) 1 rfl rfl dX10_both_63 ?_
    refine ga_get hR (pc := 64) 0 rfl rfl hinX10 21 (by decide) f44 rfl dX10_both_64 ?_
    refine ga_iload_n hR (pc := 67) 3 rfl rfl dX10_both_67 ?_
    refine ga_zald hR (pc := 68) 4 rfl h.1 dX10_both_68 ?_
    replace h := h.2
    have hJ := h (fun (s1_7 : Int32) => G 0 0 [(a 0, .inr (10, [.int x_rules, .int x_places, .ref (a 1), .ref (a 2), .ref (a 3), .int x_newRules, .int x_newPlaces, .ref (a 4), .ref (a 5), .ref (a 6), .ref (a 7), .ref (a 8), .int x_acts, .int x_kept, .int x_length, .ref (a 9), .int x_next, .int x_place, .int x_isWrong, .ref (a 10), .ref (a 11), .ref (a 12), .int x_parts, .int x_without, .ref (a 13), .ref (a 14), .ref (a 15), .ref (a 16), .int x_ways, .ref (a 17), .ref (a 18), .ref (a 19), .ref (a 20)])), (a 6, .inl (V.2 0, 10, .inl x_newBehind_3)), (a 10, .inl (V.2 0, 18, .inl x_firsts)), (a 11, .inl (V.2 0, 18, .inl x_lasts)), (a 12, .inl (V.2 1, 18, .inl x_mays))] 82 [(0, .ref (a 0)), (1, .int v1_1), (2, .int v2_2), (3, .int v3_6)] [.int s1_7, .int (x_lasts v2_2.toNatClampNeg)])
    refine ga_bind hJ ?_ ?_
    · intro s1_7 h
      show G 0 0 [(a 0, .inr (10, [.int x_rules, .int x_places, .ref (a 1), .ref (a 2), .ref (a 3), .int x_newRules, .int x_newPlaces, .ref (a 4), .ref (a 5), .ref (a 6), .ref (a 7), .ref (a 8), .int x_acts, .int x_kept, .int x_length, .ref (a 9), .int x_next, .int x_place, .int x_isWrong, .ref (a 10), .ref (a 11), .ref (a 12), .int x_parts, .int x_without, .ref (a 13), .ref (a 14), .ref (a 15), .ref (a 16), .int x_ways, .ref (a 17), .ref (a 18), .ref (a 19), .ref (a 20)])), (a 6, .inl (V.2 0, 10, .inl x_newBehind_3)), (a 10, .inl (V.2 0, 18, .inl x_firsts)), (a 11, .inl (V.2 0, 18, .inl x_lasts)), (a 12, .inl (V.2 1, 18, .inl x_mays))] 82 [(0, .ref (a 0)), (1, .int v1_1), (2, .int v2_2), (3, .int v3_6)] [.int s1_7, .int (x_lasts v2_2.toNatClampNeg)]
      refine ga_ior hR (pc := 82) dX10_both_82 ?_
      refine ga_topi (fun v4_9 ev4_9 => ?_)
      replace h := h v4_9 ev4_9
      refine ga_istore hR (pc := 83) (lv' := [(4, .int v4_9), (0, .ref (a 0)), (1, .int v1_1), (2, .int v2_2), (3, .int v3_6)]) (by decide) rfl dX10_both_83 ?_
      refine ga_aload_n hR (pc := 85) 1 rfl rfl dX10_both_85 ?_
      refine ga_get hR (pc := 86) 0 rfl rfl hinX10 19 (by decide) f38 rfl dX10_both_86 ?_
      refine ga_iload_n hR (pc := 89) 3 rfl rfl dX10_both_89 ?_
      refine ga_iload_n hR (pc := 90) 4 rfl rfl dX10_both_90 ?_
      refine ga_iast hR (pc := 91) (ws' := [(a 0, .inr (10, [.int x_rules, .int x_places, .ref (a 1), .ref (a 2), .ref (a 3), .int x_newRules, .int x_newPlaces, .ref (a 4), .ref (a 5), .ref (a 6), .ref (a 7), .ref (a 8), .int x_acts, .int x_kept, .int x_length, .ref (a 9), .int x_next, .int x_place, .int x_isWrong, .ref (a 10), .ref (a 11), .ref (a 12), .int x_parts, .int x_without, .ref (a 13), .ref (a 14), .ref (a 15), .ref (a 16), .int x_ways, .ref (a 17), .ref (a 18), .ref (a 19), .ref (a 20)])), (a 6, .inl (V.2 0, 10, .inl x_newBehind_3)), (a 10, .inl (V.2 0, 18, .inl ((upd x_firsts v2_2.toNatClampNeg v3_6)))), (a 11, .inl (V.2 0, 18, .inl x_lasts)), (a 12, .inl (V.2 1, 18, .inl x_mays))]) 2 rfl h.1 rfl dX10_both_91 ?_
      replace h := h.2
      obtain ⟨x_firsts_10, ex_firsts_10⟩ : ∃ f : Nat → Int32, f = upd x_firsts v2_2.toNatClampNeg v3_6 := ⟨_, rfl⟩
      refine ga_cast (ws' := [(a 0, .inr (10, [.int x_rules, .int x_places, .ref (a 1), .ref (a 2), .ref (a 3), .int x_newRules, .int x_newPlaces, .ref (a 4), .ref (a 5), .ref (a 6), .ref (a 7), .ref (a 8), .int x_acts, .int x_kept, .int x_length, .ref (a 9), .int x_next, .int x_place, .int x_isWrong, .ref (a 10), .ref (a 11), .ref (a 12), .int x_parts, .int x_without, .ref (a 13), .ref (a 14), .ref (a 15), .ref (a 16), .int x_ways, .ref (a 17), .ref (a 18), .ref (a 19), .ref (a 20)])), (a 6, .inl (V.2 0, 10, .inl x_newBehind_3)), (a 10, .inl (V.2 0, 18, .inl x_firsts_10)), (a 11, .inl (V.2 0, 18, .inl x_lasts)), (a 12, .inl (V.2 1, 18, .inl x_mays))]) (by rw [ex_firsts_10]) rfl ?_
      replace h := h x_firsts_10 ex_firsts_10
      refine ga_aload_n hR (pc := 92) 1 rfl rfl dX10_both_92 ?_
      refine ga_get hR (pc := 93) 0 rfl rfl hinX10 20 (by decide) f41 rfl dX10_both_93 ?_
      refine ga_iload_n hR (pc := 96) 3 rfl rfl dX10_both_96 ?_
      refine ga_iload hR (pc := 97) 0 rfl dX10_both_97 ?_
      refine ga_iast hR (pc := 99) (ws' := [(a 0, .inr (10, [.int x_rules, .int x_places, .ref (a 1), .ref (a 2), .ref (a 3), .int x_newRules, .int x_newPlaces, .ref (a 4), .ref (a 5), .ref (a 6), .ref (a 7), .ref (a 8), .int x_acts, .int x_kept, .int x_length, .ref (a 9), .int x_next, .int x_place, .int x_isWrong, .ref (a 10), .ref (a 11), .ref (a 12), .int x_parts, .int x_without, .ref (a 13), .ref (a 14), .ref (a 15), .ref (a 16), .int x_ways, .ref (a 17), .ref (a 18), .ref (a 19), .ref (a 20)])), (a 6, .inl (V.2 0, 10, .inl x_newBehind_3)), (a 10, .inl (V.2 0, 18, .inl x_firsts_10)), (a 11, .inl (V.2 0, 18, .inl ((upd x_lasts v2_2.toNatClampNeg v4_9)))), (a 12, .inl (V.2 1, 18, .inl x_mays))]) 3 rfl h.1 rfl dX10_both_99 ?_
      replace h := h.2
      obtain ⟨x_lasts_11, ex_lasts_11⟩ : ∃ f : Nat → Int32, f = upd x_lasts v2_2.toNatClampNeg v4_9 := ⟨_, rfl⟩
      refine ga_cast (ws' := [(a 0, .inr (10, [.int x_rules, .int x_places, .ref (a 1), .ref (a 2), .ref (a 3), .int x_newRules, .int x_newPlaces, .ref (a 4), .ref (a 5), .ref (a 6), .ref (a 7), .ref (a 8), .int x_acts, .int x_kept, .int x_length, .ref (a 9), .int x_next, .int x_place, .int x_isWrong, .ref (a 10), .ref (a 11), .ref (a 12), .int x_parts, .int x_without, .ref (a 13), .ref (a 14), .ref (a 15), .ref (a 16), .int x_ways, .ref (a 17), .ref (a 18), .ref (a 19), .ref (a 20)])), (a 6, .inl (V.2 0, 10, .inl x_newBehind_3)), (a 10, .inl (V.2 0, 18, .inl x_firsts_10)), (a 11, .inl (V.2 0, 18, .inl x_lasts_11)), (a 12, .inl (V.2 1, 18, .inl x_mays))]) (by rw [ex_lasts_11]) rfl ?_
      replace h := h x_lasts_11 ex_lasts_11
      refine ga_aload_n hR (pc := 100) 1 rfl rfl dX10_both_100 ?_
      refine ga_get hR (pc := 101) 0 rfl rfl hinX10 21 (by decide) f44 rfl dX10_both_101 ?_
      refine ga_iload_n hR (pc := 104) 3 rfl rfl dX10_both_104 ?_
      refine ga_aload_n hR (pc := 105) 1 rfl rfl dX10_both_105 ?_
      refine ga_get hR (pc := 106) 0 rfl rfl hinX10 21 (by decide) f44 rfl dX10_both_106 ?_
      refine ga_iload_n hR (pc := 109) 2 rfl rfl dX10_both_109 ?_
      refine ga_zald hR (pc := 110) 4 rfl h.1 dX10_both_110 ?_
      replace h := h.2
      refine ga_if_eq hR (pc := 111) 127 (by decide) dX10_both_111 (fun c111 => ?_) (fun c111 => ?_)
      · replace h := h.1 c111
        refine ga_iconst hR (pc := 127) (v := nI 0) (by decide) dX10_both_127 ?_
        refine ga_zast hR (pc := 128) (ws' := [(a 0, .inr (10, [.int x_rules, .int x_places, .ref (a 1), .ref (a 2), .ref (a 3), .int x_newRules, .int x_newPlaces, .ref (a 4), .ref (a 5), .ref (a 6), .ref (a 7), .ref (a 8), .int x_acts, .int x_kept, .int x_length, .ref (a 9), .int x_next, .int x_place, .int x_isWrong, .ref (a 10), .ref (a 11), .ref (a 12), .int x_parts, .int x_without, .ref (a 13), .ref (a 14), .ref (a 15), .ref (a 16), .int x_ways, .ref (a 17), .ref (a 18), .ref (a 19), .ref (a 20)])), (a 6, .inl (V.2 0, 10, .inl x_newBehind_3)), (a 10, .inl (V.2 0, 18, .inl x_firsts_10)), (a 11, .inl (V.2 0, 18, .inl x_lasts_11)), (a 12, .inl (V.2 1, 18, .inl ((upd x_mays v2_2.toNatClampNeg (vp_nar .boolean (nI 0))))))]) 4 rfl h.1 rfl dX10_both_128 ?_
        replace h := h.2
        obtain ⟨x_mays_12, ex_mays_12⟩ : ∃ f : Nat → Int32, f = upd x_mays v2_2.toNatClampNeg (vp_nar .boolean (nI 0)) := ⟨_, rfl⟩
        refine ga_cast (ws' := [(a 0, .inr (10, [.int x_rules, .int x_places, .ref (a 1), .ref (a 2), .ref (a 3), .int x_newRules, .int x_newPlaces, .ref (a 4), .ref (a 5), .ref (a 6), .ref (a 7), .ref (a 8), .int x_acts, .int x_kept, .int x_length, .ref (a 9), .int x_next, .int x_place, .int x_isWrong, .ref (a 10), .ref (a 11), .ref (a 12), .int x_parts, .int x_without, .ref (a 13), .ref (a 14), .ref (a 15), .ref (a 16), .int x_ways, .ref (a 17), .ref (a 18), .ref (a 19), .ref (a 20)])), (a 6, .inl (V.2 0, 10, .inl x_newBehind_3)), (a 10, .inl (V.2 0, 18, .inl x_firsts_10)), (a 11, .inl (V.2 0, 18, .inl x_lasts_11)), (a 12, .inl (V.2 1, 18, .inl x_mays_12))]) (by rw [ex_mays_12]) rfl ?_
        replace h := h x_mays_12 ex_mays_12
        refine ga_aload_n hR (pc := 129) 1 rfl rfl dX10_both_129 ?_
        refine ga_dup hR (pc := 130) rfl dX10_both_130 ?_
        refine ga_get hR (pc := 131) 0 rfl rfl hinX10 22 (by decide) f130 rfl dX10_both_131 ?_
        refine ga_iconst hR (pc := 134) (v := nI 1) (by decide) dX10_both_134 ?_
        refine ga_isub hR (pc := 135) dX10_both_135 ?_
        refine ga_topi (fun x_parts_13 ex_parts_13 => ?_)
        replace h := h x_parts_13 ex_parts_13
        refine ga_putf hR (pc := 136) (ws' := [(a 0, .inr (10, [.int x_rules, .int x_places, .ref (a 1), .ref (a 2), .ref (a 3), .int x_newRules, .int x_newPlaces, .ref (a 4), .ref (a 5), .ref (a 6), .ref (a 7), .ref (a 8), .int x_acts, .int x_kept, .int x_length, .ref (a 9), .int x_next, .int x_place, .int x_isWrong, .ref (a 10), .ref (a 11), .ref (a 12), .int x_parts_13, .int x_without, .ref (a 13), .ref (a 14), .ref (a 15), .ref (a 16), .int x_ways, .ref (a 17), .ref (a 18), .ref (a 19), .ref (a 20)])), (a 6, .inl (V.2 0, 10, .inl x_newBehind_3)), (a 10, .inl (V.2 0, 18, .inl x_firsts_10)), (a 11, .inl (V.2 0, 18, .inl x_lasts_11)), (a 12, .inl (V.2 1, 18, .inl x_mays_12))]) 0 rfl rfl hinX10 22 (by decide) f130 tyX10_ok nmX10 rfl rfl rfl (Nat.le_of_ble_eq_true rfl) rfl dX10_both_136 ?_
        exact ga_vret hE dX10_both_139 (ga_rv (x_parts_13, x_newBehind_3, x_firsts_10, x_lasts_11, x_mays_12) rfl h)
      · replace h := h.2 c111
        refine ga_aload_n hR (pc := 114) 1 rfl rfl dX10_both_114 ?_
        refine ga_get hR (pc := 115) 0 rfl rfl hinX10 21 (by decide) f44 rfl dX10_both_115 ?_
        refine ga_iload_n hR (pc := 118) 3 rfl rfl dX10_both_118 ?_
        refine ga_zald hR (pc := 119) 4 rfl h.1 dX10_both_119 ?_
        replace h := h.2
        refine ga_if_eq hR (pc := 120) 127 (by decide) dX10_both_120 (fun c120 => ?_) (fun c120 => ?_)
        · replace h := h.1 c120
          refine ga_iconst hR (pc := 127) (v := nI 0) (by decide) dX10_both_127 ?_
          refine ga_zast hR (pc := 128) (ws' := [(a 0, .inr (10, [.int x_rules, .int x_places, .ref (a 1), .ref (a 2), .ref (a 3), .int x_newRules, .int x_newPlaces, .ref (a 4), .ref (a 5), .ref (a 6), .ref (a 7), .ref (a 8), .int x_acts, .int x_kept, .int x_length, .ref (a 9), .int x_next, .int x_place, .int x_isWrong, .ref (a 10), .ref (a 11), .ref (a 12), .int x_parts, .int x_without, .ref (a 13), .ref (a 14), .ref (a 15), .ref (a 16), .int x_ways, .ref (a 17), .ref (a 18), .ref (a 19), .ref (a 20)])), (a 6, .inl (V.2 0, 10, .inl x_newBehind_3)), (a 10, .inl (V.2 0, 18, .inl x_firsts_10)), (a 11, .inl (V.2 0, 18, .inl x_lasts_11)), (a 12, .inl (V.2 1, 18, .inl ((upd x_mays v2_2.toNatClampNeg (vp_nar .boolean (nI 0))))))]) 4 rfl h.1 rfl dX10_both_128 ?_
          replace h := h.2
          obtain ⟨x_mays_14, ex_mays_14⟩ : ∃ f : Nat → Int32, f = upd x_mays v2_2.toNatClampNeg (vp_nar .boolean (nI 0)) := ⟨_, rfl⟩
          refine ga_cast (ws' := [(a 0, .inr (10, [.int x_rules, .int x_places, .ref (a 1), .ref (a 2), .ref (a 3), .int x_newRules, .int x_newPlaces, .ref (a 4), .ref (a 5), .ref (a 6), .ref (a 7), .ref (a 8), .int x_acts, .int x_kept, .int x_length, .ref (a 9), .int x_next, .int x_place, .int x_isWrong, .ref (a 10), .ref (a 11), .ref (a 12), .int x_parts, .int x_without, .ref (a 13), .ref (a 14), .ref (a 15), .ref (a 16), .int x_ways, .ref (a 17), .ref (a 18), .ref (a 19), .ref (a 20)])), (a 6, .inl (V.2 0, 10, .inl x_newBehind_3)), (a 10, .inl (V.2 0, 18, .inl x_firsts_10)), (a 11, .inl (V.2 0, 18, .inl x_lasts_11)), (a 12, .inl (V.2 1, 18, .inl x_mays_14))]) (by rw [ex_mays_14]) rfl ?_
          replace h := h x_mays_14 ex_mays_14
          refine ga_aload_n hR (pc := 129) 1 rfl rfl dX10_both_129 ?_
          refine ga_dup hR (pc := 130) rfl dX10_both_130 ?_
          refine ga_get hR (pc := 131) 0 rfl rfl hinX10 22 (by decide) f130 rfl dX10_both_131 ?_
          refine ga_iconst hR (pc := 134) (v := nI 1) (by decide) dX10_both_134 ?_
          refine ga_isub hR (pc := 135) dX10_both_135 ?_
          refine ga_topi (fun x_parts_15 ex_parts_15 => ?_)
          replace h := h x_parts_15 ex_parts_15
          refine ga_putf hR (pc := 136) (ws' := [(a 0, .inr (10, [.int x_rules, .int x_places, .ref (a 1), .ref (a 2), .ref (a 3), .int x_newRules, .int x_newPlaces, .ref (a 4), .ref (a 5), .ref (a 6), .ref (a 7), .ref (a 8), .int x_acts, .int x_kept, .int x_length, .ref (a 9), .int x_next, .int x_place, .int x_isWrong, .ref (a 10), .ref (a 11), .ref (a 12), .int x_parts_15, .int x_without, .ref (a 13), .ref (a 14), .ref (a 15), .ref (a 16), .int x_ways, .ref (a 17), .ref (a 18), .ref (a 19), .ref (a 20)])), (a 6, .inl (V.2 0, 10, .inl x_newBehind_3)), (a 10, .inl (V.2 0, 18, .inl x_firsts_10)), (a 11, .inl (V.2 0, 18, .inl x_lasts_11)), (a 12, .inl (V.2 1, 18, .inl x_mays_14))]) 0 rfl rfl hinX10 22 (by decide) f130 tyX10_ok nmX10 rfl rfl rfl (Nat.le_of_ble_eq_true rfl) rfl dX10_both_136 ?_
          exact ga_vret hE dX10_both_139 (ga_rv (x_parts_15, x_newBehind_3, x_firsts_10, x_lasts_11, x_mays_14) rfl h)
        · replace h := h.2 c120
          refine ga_iconst hR (pc := 123) (v := nI 1) (by decide) dX10_both_123 ?_
          refine ga_goto hR (pc := 124) 128 (by decide) dX10_both_124 ?_
          refine ga_zast hR (pc := 128) (ws' := [(a 0, .inr (10, [.int x_rules, .int x_places, .ref (a 1), .ref (a 2), .ref (a 3), .int x_newRules, .int x_newPlaces, .ref (a 4), .ref (a 5), .ref (a 6), .ref (a 7), .ref (a 8), .int x_acts, .int x_kept, .int x_length, .ref (a 9), .int x_next, .int x_place, .int x_isWrong, .ref (a 10), .ref (a 11), .ref (a 12), .int x_parts, .int x_without, .ref (a 13), .ref (a 14), .ref (a 15), .ref (a 16), .int x_ways, .ref (a 17), .ref (a 18), .ref (a 19), .ref (a 20)])), (a 6, .inl (V.2 0, 10, .inl x_newBehind_3)), (a 10, .inl (V.2 0, 18, .inl x_firsts_10)), (a 11, .inl (V.2 0, 18, .inl x_lasts_11)), (a 12, .inl (V.2 1, 18, .inl ((upd x_mays v2_2.toNatClampNeg (vp_nar .boolean (nI 1))))))]) 4 rfl h.1 rfl dX10_both_128 ?_
          replace h := h.2
          obtain ⟨x_mays_16, ex_mays_16⟩ : ∃ f : Nat → Int32, f = upd x_mays v2_2.toNatClampNeg (vp_nar .boolean (nI 1)) := ⟨_, rfl⟩
          refine ga_cast (ws' := [(a 0, .inr (10, [.int x_rules, .int x_places, .ref (a 1), .ref (a 2), .ref (a 3), .int x_newRules, .int x_newPlaces, .ref (a 4), .ref (a 5), .ref (a 6), .ref (a 7), .ref (a 8), .int x_acts, .int x_kept, .int x_length, .ref (a 9), .int x_next, .int x_place, .int x_isWrong, .ref (a 10), .ref (a 11), .ref (a 12), .int x_parts, .int x_without, .ref (a 13), .ref (a 14), .ref (a 15), .ref (a 16), .int x_ways, .ref (a 17), .ref (a 18), .ref (a 19), .ref (a 20)])), (a 6, .inl (V.2 0, 10, .inl x_newBehind_3)), (a 10, .inl (V.2 0, 18, .inl x_firsts_10)), (a 11, .inl (V.2 0, 18, .inl x_lasts_11)), (a 12, .inl (V.2 1, 18, .inl x_mays_16))]) (by rw [ex_mays_16]) rfl ?_
          replace h := h x_mays_16 ex_mays_16
          refine ga_aload_n hR (pc := 129) 1 rfl rfl dX10_both_129 ?_
          refine ga_dup hR (pc := 130) rfl dX10_both_130 ?_
          refine ga_get hR (pc := 131) 0 rfl rfl hinX10 22 (by decide) f130 rfl dX10_both_131 ?_
          refine ga_iconst hR (pc := 134) (v := nI 1) (by decide) dX10_both_134 ?_
          refine ga_isub hR (pc := 135) dX10_both_135 ?_
          refine ga_topi (fun x_parts_17 ex_parts_17 => ?_)
          replace h := h x_parts_17 ex_parts_17
          refine ga_putf hR (pc := 136) (ws' := [(a 0, .inr (10, [.int x_rules, .int x_places, .ref (a 1), .ref (a 2), .ref (a 3), .int x_newRules, .int x_newPlaces, .ref (a 4), .ref (a 5), .ref (a 6), .ref (a 7), .ref (a 8), .int x_acts, .int x_kept, .int x_length, .ref (a 9), .int x_next, .int x_place, .int x_isWrong, .ref (a 10), .ref (a 11), .ref (a 12), .int x_parts_17, .int x_without, .ref (a 13), .ref (a 14), .ref (a 15), .ref (a 16), .int x_ways, .ref (a 17), .ref (a 18), .ref (a 19), .ref (a 20)])), (a 6, .inl (V.2 0, 10, .inl x_newBehind_3)), (a 10, .inl (V.2 0, 18, .inl x_firsts_10)), (a 11, .inl (V.2 0, 18, .inl x_lasts_11)), (a 12, .inl (V.2 1, 18, .inl x_mays_16))]) 0 rfl rfl hinX10 22 (by decide) f130 tyX10_ok nmX10 rfl rfl rfl (Nat.le_of_ble_eq_true rfl) rfl dX10_both_136 ?_
          exact ga_vret hE dX10_both_139 (ga_rv (x_parts_17, x_newBehind_3, x_firsts_10, x_lasts_11, x_mays_16) rfl h)
    · intro h
      refine ga_if_eq hR (pc := 69) 81 (by decide) dX10_both_69 (fun c69 => ?_) (fun c69 => ?_)
      · replace h := h.1 c69
        refine ga_iconst hR (pc := 81) (v := nI 0) (by decide) dX10_both_81 ?_
        exact ga_lv hR [1, 2, 3, 0] rfl h
      · replace h := h.2 c69
        refine ga_aload_n hR (pc := 72) 1 rfl rfl dX10_both_72 ?_
        refine ga_get hR (pc := 73) 0 rfl rfl hinX10 20 (by decide) f41 rfl dX10_both_73 ?_
        refine ga_iload_n hR (pc := 76) 2 rfl rfl dX10_both_76 ?_
        refine ga_iald hR (pc := 77) 3 rfl h.1 dX10_both_77 ?_
        replace h := h.2
        refine ga_goto hR (pc := 78) 82 (by decide) dX10_both_78 ?_
        exact ga_lv hR [1, 2, 3, 0] rfl h
  · intro h
    refine ga_if_eq hR (pc := 42) 54 (by decide) dX10_both_42 (fun c42 => ?_) (fun c42 => ?_)
    · replace h := h.1 c42
      refine ga_iconst hR (pc := 54) (v := nI 0) (by decide) dX10_both_54 ?_
      exact ga_lv hR [2, 1, 0] rfl h
    · replace h := h.2 c42
      refine ga_aload_n hR (pc := 45) 2 rfl rfl dX10_both_45 ?_
      refine ga_get hR (pc := 46) 0 rfl rfl hinX10 19 (by decide) f38 rfl dX10_both_46 ?_
      refine ga_iload_n hR (pc := 49) 0 rfl rfl dX10_both_49 ?_
      refine ga_iald hR (pc := 50) 2 rfl h.1 dX10_both_50 ?_
      replace h := h.2
      refine ga_goto hR (pc := 51) 55 (by decide) dX10_both_51 ?_
      exact ga_lv hR [2, 1, 0] rfl h

def rm_X10_either : Room := { frames := 0, cells := 0, slots := 0, locals := 0 }
theorem hd_X10_eitherS : yX10_either.cls ≠ "java/lang/invoke/MethodHandle" ∧ yX10_either.cls ≠ "java/lang/invoke/VarHandle" ∧ (parseMethodDescriptor yX10_either.desc).map (fun d => d.parameters.length) = some 0 := by decide +kernel
theorem hd_X10_either : yX10_either.cls = RX10 ∧ yX10_either.cls ≠ "java/lang/invoke/MethodHandle" ∧ yX10_either.cls ≠ "java/lang/invoke/VarHandle" ∧ (parseMethodDescriptor yX10_either.desc).map (fun d => d.parameters.length) = some 0 := ⟨rfl, hd_X10_eitherS⟩
set_option maxHeartbeats 4000000 in
set_option maxRecDepth 100000 in
theorem c_X10_either (V : ga_V) (a : Nat → Nat) (x_rules : Int32) (x_places : Int32) (x_newRules : Int32) (x_newPlaces : Int32) (x_acts : Int32) (x_kept : Int32) (x_length : Int32) (x_next : Int32) (x_place : Int32) (x_isWrong : Int32) (x_without : Int32) (x_ways : Int32) (x_parts : Int32) (x_firsts : Nat → Int32) (x_lasts : Nat → Int32) (x_mays : Nat → Int32) (K : Int32 → (Nat → Int32) → (Nat → Int32) → (Nat → Int32) → Prop) (h : wp_X10_either x_parts x_firsts x_lasts x_mays K) : ga_C V yX10_either wsX10_either rm_X10_either [.ref (a 0)] [(a 0, .inr (10, [.int x_rules, .int x_places, .ref (a 1), .ref (a 2), .ref (a 3), .int x_newRules, .int x_newPlaces, .ref (a 4), .ref (a 5), .ref (a 6), .ref (a 7), .ref (a 8), .int x_acts, .int x_kept, .int x_length, .ref (a 9), .int x_next, .int x_place, .int x_isWrong, .ref (a 10), .ref (a 11), .ref (a 12), .int x_parts, .int x_without, .ref (a 13), .ref (a 14), .ref (a 15), .ref (a 16), .int x_ways, .ref (a 17), .ref (a 18), .ref (a 19), .ref (a 20)])), (a 10, .inl (V.2 0, 18, .inl x_firsts)), (a 11, .inl (V.2 0, 18, .inl x_lasts)), (a 12, .inl (V.2 1, 18, .inl x_mays))] 0 0 (ga_Fv (fun (u : Int32 × (Nat → Int32) × (Nat → Int32) × (Nat → Int32)) => [(a 0, .inr (10, [.int x_rules, .int x_places, .ref (a 1), .ref (a 2), .ref (a 3), .int x_newRules, .int x_newPlaces, .ref (a 4), .ref (a 5), .ref (a 6), .ref (a 7), .ref (a 8), .int x_acts, .int x_kept, .int x_length, .ref (a 9), .int x_next, .int x_place, .int x_isWrong, .ref (a 10), .ref (a 11), .ref (a 12), .int u.1, .int x_without, .ref (a 13), .ref (a 14), .ref (a 15), .ref (a 16), .int x_ways, .ref (a 17), .ref (a 18), .ref (a 19), .ref (a 20)])), (a 10, .inl (V.2 0, 18, .inl u.2.1)), (a 11, .inl (V.2 0, 18, .inl u.2.2.1)), (a 12, .inl (V.2 1, 18, .inl u.2.2.2))]) (fun u => K u.1 u.2.1 u.2.2.1 u.2.2.2)) := by
  refine ga_met (cc := cX10_either) (maxL := 3) (rt := none) (by decide) rfl [(0, .ref (a 0))] rfl (Nat.le_of_ble_eq_true rfl) ?_
  intro G hR hE
  have hinX10 : ∀ w ∈ u_ws RX10 TX10 33, w ∈ wsX10_either := by decide +kernel
  have f130 : Cond.fieldLink RX10 130 "BoundaryRulesModel" "parts" "I" ∈ wsX10_either := by decide +kernel
  have f38 : Cond.fieldLink RX10 38 "BoundaryRulesModel" "firsts" "[I" ∈ wsX10_either := by decide +kernel
  have f41 : Cond.fieldLink RX10 41 "BoundaryRulesModel" "lasts" "[I" ∈ wsX10_either := by decide +kernel
  have f44 : Cond.fieldLink RX10 44 "BoundaryRulesModel" "mays" "[Z" ∈ wsX10_either := by decide +kernel
  unfold wp_X10_either at h
  refine ga_aload_n hR (pc := 0) 0 rfl rfl dX10_either_0 ?_
  refine ga_get hR (pc := 1) 0 rfl rfl hinX10 22 (by decide) f130 rfl dX10_either_1 ?_
  refine ga_iconst hR (pc := 4) (v := nI 1) (by decide) dX10_either_4 ?_
  refine ga_isub hR (pc := 5) dX10_either_5 ?_
  refine ga_topi (fun v1_1 ev1_1 => ?_)
  replace h := h v1_1 ev1_1
  refine ga_istore_n hR (pc := 6) (lv' := [(1, .int v1_1), (0, .ref (a 0))]) rfl (by decide) rfl dX10_either_6 ?_
  refine ga_aload_n hR (pc := 7) 1 rfl rfl dX10_either_7 ?_
  refine ga_get hR (pc := 8) 0 rfl rfl hinX10 22 (by decide) f130 rfl dX10_either_8 ?_
  refine ga_iconst hR (pc := 11) (v := nI 2) (by decide) dX10_either_11 ?_
  refine ga_isub hR (pc := 12) dX10_either_12 ?_
  refine ga_topi (fun v2_2 ev2_2 => ?_)
  replace h := h v2_2 ev2_2
  refine ga_istore_n hR (pc := 13) (lv' := [(2, .int v2_2), (1, .int v1_1), (0, .ref (a 0))]) rfl (by decide) rfl dX10_either_13 ?_
  refine ga_aload_n hR (pc := 14) 2 rfl rfl dX10_either_14 ?_
  refine ga_get hR (pc := 15) 0 rfl rfl hinX10 19 (by decide) f38 rfl dX10_either_15 ?_
  refine ga_iload_n hR (pc := 18) 0 rfl rfl dX10_either_18 ?_
  refine ga_dup2 hR (pc := 19) rfl rfl dX10_either_19 ?_
  refine ga_iald hR (pc := 20) 1 rfl h.1 dX10_either_20 ?_
  replace h := h.2
  refine ga_aload_n hR (pc := 21) 2 rfl rfl dX10_either_21 ?_
  refine ga_get hR (pc := 22) 0 rfl rfl hinX10 19 (by decide) f38 rfl dX10_either_22 ?_
  refine ga_iload_n hR (pc := 25) 1 rfl rfl dX10_either_25 ?_
  refine ga_iald hR (pc := 26) 1 rfl h.1 dX10_either_26 ?_
  replace h := h.2
  refine ga_ior hR (pc := 27) dX10_either_27 ?_
  refine ga_topi (fun t_3 et_3 => ?_)
  replace h := h t_3 et_3
  refine ga_iast hR (pc := 28) (ws' := [(a 0, .inr (10, [.int x_rules, .int x_places, .ref (a 1), .ref (a 2), .ref (a 3), .int x_newRules, .int x_newPlaces, .ref (a 4), .ref (a 5), .ref (a 6), .ref (a 7), .ref (a 8), .int x_acts, .int x_kept, .int x_length, .ref (a 9), .int x_next, .int x_place, .int x_isWrong, .ref (a 10), .ref (a 11), .ref (a 12), .int x_parts, .int x_without, .ref (a 13), .ref (a 14), .ref (a 15), .ref (a 16), .int x_ways, .ref (a 17), .ref (a 18), .ref (a 19), .ref (a 20)])), (a 10, .inl (V.2 0, 18, .inl ((upd x_firsts v2_2.toNatClampNeg t_3)))), (a 11, .inl (V.2 0, 18, .inl x_lasts)), (a 12, .inl (V.2 1, 18, .inl x_mays))]) 1 rfl h.1 rfl dX10_either_28 ?_
  replace h := h.2
  obtain ⟨x_firsts_4, ex_firsts_4⟩ : ∃ f : Nat → Int32, f = upd x_firsts v2_2.toNatClampNeg t_3 := ⟨_, rfl⟩
  refine ga_cast (ws' := [(a 0, .inr (10, [.int x_rules, .int x_places, .ref (a 1), .ref (a 2), .ref (a 3), .int x_newRules, .int x_newPlaces, .ref (a 4), .ref (a 5), .ref (a 6), .ref (a 7), .ref (a 8), .int x_acts, .int x_kept, .int x_length, .ref (a 9), .int x_next, .int x_place, .int x_isWrong, .ref (a 10), .ref (a 11), .ref (a 12), .int x_parts, .int x_without, .ref (a 13), .ref (a 14), .ref (a 15), .ref (a 16), .int x_ways, .ref (a 17), .ref (a 18), .ref (a 19), .ref (a 20)])), (a 10, .inl (V.2 0, 18, .inl x_firsts_4)), (a 11, .inl (V.2 0, 18, .inl x_lasts)), (a 12, .inl (V.2 1, 18, .inl x_mays))]) (by rw [ex_firsts_4]) rfl ?_
  replace h := h x_firsts_4 ex_firsts_4
  refine ga_aload_n hR (pc := 29) 2 rfl rfl dX10_either_29 ?_
  refine ga_get hR (pc := 30) 0 rfl rfl hinX10 20 (by decide) f41 rfl dX10_either_30 ?_
  refine ga_iload_n hR (pc := 33) 0 rfl rfl dX10_either_33 ?_
  refine ga_dup2 hR (pc := 34) rfl rfl dX10_either_34 ?_
  refine ga_iald hR (pc := 35) 2 rfl h.1 dX10_either_35 ?_
  replace h := h.2
  refine ga_aload_n hR (pc := 36) 2 rfl rfl dX10_either_36 ?_
  refine ga_get hR (pc := 37) 0 rfl rfl hinX10 20 (by decide) f41 rfl dX10_either_37 ?_
  refine ga_iload_n hR (pc := 40) 1 rfl rfl dX10_either_40 ?_
  refine ga_iald hR (pc := 41) 2 rfl h.1 dX10_either_41 ?_
  replace h := h.2
  refine ga_ior hR (pc := 42) dX10_either_42 ?_
  refine ga_topi (fun t_5 et_5 => ?_)
  replace h := h t_5 et_5
  refine ga_iast hR (pc := 43) (ws' := [(a 0, .inr (10, [.int x_rules, .int x_places, .ref (a 1), .ref (a 2), .ref (a 3), .int x_newRules, .int x_newPlaces, .ref (a 4), .ref (a 5), .ref (a 6), .ref (a 7), .ref (a 8), .int x_acts, .int x_kept, .int x_length, .ref (a 9), .int x_next, .int x_place, .int x_isWrong, .ref (a 10), .ref (a 11), .ref (a 12), .int x_parts, .int x_without, .ref (a 13), .ref (a 14), .ref (a 15), .ref (a 16), .int x_ways, .ref (a 17), .ref (a 18), .ref (a 19), .ref (a 20)])), (a 10, .inl (V.2 0, 18, .inl x_firsts_4)), (a 11, .inl (V.2 0, 18, .inl ((upd x_lasts v2_2.toNatClampNeg t_5)))), (a 12, .inl (V.2 1, 18, .inl x_mays))]) 2 rfl h.1 rfl dX10_either_43 ?_
  replace h := h.2
  obtain ⟨x_lasts_6, ex_lasts_6⟩ : ∃ f : Nat → Int32, f = upd x_lasts v2_2.toNatClampNeg t_5 := ⟨_, rfl⟩
  refine ga_cast (ws' := [(a 0, .inr (10, [.int x_rules, .int x_places, .ref (a 1), .ref (a 2), .ref (a 3), .int x_newRules, .int x_newPlaces, .ref (a 4), .ref (a 5), .ref (a 6), .ref (a 7), .ref (a 8), .int x_acts, .int x_kept, .int x_length, .ref (a 9), .int x_next, .int x_place, .int x_isWrong, .ref (a 10), .ref (a 11), .ref (a 12), .int x_parts, .int x_without, .ref (a 13), .ref (a 14), .ref (a 15), .ref (a 16), .int x_ways, .ref (a 17), .ref (a 18), .ref (a 19), .ref (a 20)])), (a 10, .inl (V.2 0, 18, .inl x_firsts_4)), (a 11, .inl (V.2 0, 18, .inl x_lasts_6)), (a 12, .inl (V.2 1, 18, .inl x_mays))]) (by rw [ex_lasts_6]) rfl ?_
  replace h := h x_lasts_6 ex_lasts_6
  refine ga_aload_n hR (pc := 44) 2 rfl rfl dX10_either_44 ?_
  refine ga_get hR (pc := 45) 0 rfl rfl hinX10 21 (by decide) f44 rfl dX10_either_45 ?_
  refine ga_iload_n hR (pc := 48) 0 rfl rfl dX10_either_48 ?_
  refine ga_aload_n hR (pc := 49) 2 rfl rfl dX10_either_49 ?_
  refine ga_get hR (pc := 50) 0 rfl rfl hinX10 21 (by decide) f44 rfl dX10_either_50 ?_
  refine ga_iload_n hR (pc := 53) 1 rfl rfl dX10_either_53 ?_
  refine ga_zald hR (pc := 54) 3 rfl h.1 dX10_either_54 ?_
  replace h := h.2
  have hJ := h (G 0 0 [(a 0, .inr (10, [.int x_rules, .int x_places, .ref (a 1), .ref (a 2), .ref (a 3), .int x_newRules, .int x_newPlaces, .ref (a 4), .ref (a 5), .ref (a 6), .ref (a 7), .ref (a 8), .int x_acts, .int x_kept, .int x_length, .ref (a 9), .int x_next, .int x_place, .int x_isWrong, .ref (a 10), .ref (a 11), .ref (a 12), .int x_parts, .int x_without, .ref (a 13), .ref (a 14), .ref (a 15), .ref (a 16), .int x_ways, .ref (a 17), .ref (a 18), .ref (a 19), .ref (a 20)])), (a 10, .inl (V.2 0, 18, .inl x_firsts_4)), (a 11, .inl (V.2 0, 18, .inl x_lasts_6)), (a 12, .inl (V.2 1, 18, .inl x_mays))] 67 [(0, .ref (a 0))] [.int v2_2, .ref (a 12)])
  refine ga_bind hJ ?_ ?_
  · intro h
    show G 0 0 [(a 0, .inr (10, [.int x_rules, .int x_places, .ref (a 1), .ref (a 2), .ref (a 3), .int x_newRules, .int x_newPlaces, .ref (a 4), .ref (a 5), .ref (a 6), .ref (a 7), .ref (a 8), .int x_acts, .int x_kept, .int x_length, .ref (a 9), .int x_next, .int x_place, .int x_isWrong, .ref (a 10), .ref (a 11), .ref (a 12), .int x_parts, .int x_without, .ref (a 13), .ref (a 14), .ref (a 15), .ref (a 16), .int x_ways, .ref (a 17), .ref (a 18), .ref (a 19), .ref (a 20)])), (a 10, .inl (V.2 0, 18, .inl x_firsts_4)), (a 11, .inl (V.2 0, 18, .inl x_lasts_6)), (a 12, .inl (V.2 1, 18, .inl x_mays))] 67 [(0, .ref (a 0))] [.int v2_2, .ref (a 12)]
    refine ga_iconst hR (pc := 67) (v := nI 1) (by decide) dX10_either_67 ?_
    refine ga_goto hR (pc := 68) 72 (by decide) dX10_either_68 ?_
    refine ga_zast hR (pc := 72) (ws' := [(a 0, .inr (10, [.int x_rules, .int x_places, .ref (a 1), .ref (a 2), .ref (a 3), .int x_newRules, .int x_newPlaces, .ref (a 4), .ref (a 5), .ref (a 6), .ref (a 7), .ref (a 8), .int x_acts, .int x_kept, .int x_length, .ref (a 9), .int x_next, .int x_place, .int x_isWrong, .ref (a 10), .ref (a 11), .ref (a 12), .int x_parts, .int x_without, .ref (a 13), .ref (a 14), .ref (a 15), .ref (a 16), .int x_ways, .ref (a 17), .ref (a 18), .ref (a 19), .ref (a 20)])), (a 10, .inl (V.2 0, 18, .inl x_firsts_4)), (a 11, .inl (V.2 0, 18, .inl x_lasts_6)), (a 12, .inl (V.2 1, 18, .inl ((upd x_mays v2_2.toNatClampNeg (vp_nar .boolean (nI 1))))))]) 3 rfl h.1 rfl dX10_either_72 ?_
    replace h := h.2
    obtain ⟨x_mays_8, ex_mays_8⟩ : ∃ f : Nat → Int32, f = upd x_mays v2_2.toNatClampNeg (vp_nar .boolean (nI 1)) := ⟨_, rfl⟩
    refine ga_cast (ws' := [(a 0, .inr (10, [.int x_rules, .int x_places, .ref (a 1), .ref (a 2), .ref (a 3), .int x_newRules, .int x_newPlaces, .ref (a 4), .ref (a 5), .ref (a 6), .ref (a 7), .ref (a 8), .int x_acts, .int x_kept, .int x_length, .ref (a 9), .int x_next, .int x_place, .int x_isWrong, .ref (a 10), .ref (a 11), .ref (a 12), .int x_parts, .int x_without, .ref (a 13), .ref (a 14), .ref (a 15), .ref (a 16), .int x_ways, .ref (a 17), .ref (a 18), .ref (a 19), .ref (a 20)])), (a 10, .inl (V.2 0, 18, .inl x_firsts_4)), (a 11, .inl (V.2 0, 18, .inl x_lasts_6)), (a 12, .inl (V.2 1, 18, .inl x_mays_8))]) (by rw [ex_mays_8]) rfl ?_
    replace h := h x_mays_8 ex_mays_8
    refine ga_aload_n hR (pc := 73) 0 rfl rfl dX10_either_73 ?_
    refine ga_dup hR (pc := 74) rfl dX10_either_74 ?_
    refine ga_get hR (pc := 75) 0 rfl rfl hinX10 22 (by decide) f130 rfl dX10_either_75 ?_
    refine ga_iconst hR (pc := 78) (v := nI 1) (by decide) dX10_either_78 ?_
    refine ga_isub hR (pc := 79) dX10_either_79 ?_
    refine ga_topi (fun x_parts_9 ex_parts_9 => ?_)
    replace h := h x_parts_9 ex_parts_9
    refine ga_putf hR (pc := 80) (ws' := [(a 0, .inr (10, [.int x_rules, .int x_places, .ref (a 1), .ref (a 2), .ref (a 3), .int x_newRules, .int x_newPlaces, .ref (a 4), .ref (a 5), .ref (a 6), .ref (a 7), .ref (a 8), .int x_acts, .int x_kept, .int x_length, .ref (a 9), .int x_next, .int x_place, .int x_isWrong, .ref (a 10), .ref (a 11), .ref (a 12), .int x_parts_9, .int x_without, .ref (a 13), .ref (a 14), .ref (a 15), .ref (a 16), .int x_ways, .ref (a 17), .ref (a 18), .ref (a 19), .ref (a 20)])), (a 10, .inl (V.2 0, 18, .inl x_firsts_4)), (a 11, .inl (V.2 0, 18, .inl x_lasts_6)), (a 12, .inl (V.2 1, 18, .inl x_mays_8))]) 0 rfl rfl hinX10 22 (by decide) f130 tyX10_ok nmX10 rfl rfl rfl (Nat.le_of_ble_eq_true rfl) rfl dX10_either_80 ?_
    exact ga_vret hE dX10_either_83 (ga_rv (x_parts_9, x_firsts_4, x_lasts_6, x_mays_8) rfl h)
  · intro h
    refine ga_if_ne hR (pc := 55) 67 (by decide) dX10_either_55 (fun c55 => ?_) (fun c55 => ?_)
    · replace h := h.1 c55
      exact ga_lv hR [2] rfl h
    · replace h := h.2 c55
      refine ga_aload_n hR (pc := 58) 2 rfl rfl dX10_either_58 ?_
      refine ga_get hR (pc := 59) 0 rfl rfl hinX10 21 (by decide) f44 rfl dX10_either_59 ?_
      refine ga_iload_n hR (pc := 62) 0 rfl rfl dX10_either_62 ?_
      refine ga_zald hR (pc := 63) 3 rfl h.1 dX10_either_63 ?_
      replace h := h.2
      refine ga_if_eq hR (pc := 64) 71 (by decide) dX10_either_64 (fun c64 => ?_) (fun c64 => ?_)
      · replace h := h.1 c64
        refine ga_iconst hR (pc := 71) (v := nI 0) (by decide) dX10_either_71 ?_
        refine ga_zast hR (pc := 72) (ws' := [(a 0, .inr (10, [.int x_rules, .int x_places, .ref (a 1), .ref (a 2), .ref (a 3), .int x_newRules, .int x_newPlaces, .ref (a 4), .ref (a 5), .ref (a 6), .ref (a 7), .ref (a 8), .int x_acts, .int x_kept, .int x_length, .ref (a 9), .int x_next, .int x_place, .int x_isWrong, .ref (a 10), .ref (a 11), .ref (a 12), .int x_parts, .int x_without, .ref (a 13), .ref (a 14), .ref (a 15), .ref (a 16), .int x_ways, .ref (a 17), .ref (a 18), .ref (a 19), .ref (a 20)])), (a 10, .inl (V.2 0, 18, .inl x_firsts_4)), (a 11, .inl (V.2 0, 18, .inl x_lasts_6)), (a 12, .inl (V.2 1, 18, .inl ((upd x_mays v2_2.toNatClampNeg (vp_nar .boolean (nI 0))))))]) 3 rfl h.1 rfl dX10_either_72 ?_
        replace h := h.2
        obtain ⟨x_mays_10, ex_mays_10⟩ : ∃ f : Nat → Int32, f = upd x_mays v2_2.toNatClampNeg (vp_nar .boolean (nI 0)) := ⟨_, rfl⟩
        refine ga_cast (ws' := [(a 0, .inr (10, [.int x_rules, .int x_places, .ref (a 1), .ref (a 2), .ref (a 3), .int x_newRules, .int x_newPlaces, .ref (a 4), .ref (a 5), .ref (a 6), .ref (a 7), .ref (a 8), .int x_acts, .int x_kept, .int x_length, .ref (a 9), .int x_next, .int x_place, .int x_isWrong, .ref (a 10), .ref (a 11), .ref (a 12), .int x_parts, .int x_without, .ref (a 13), .ref (a 14), .ref (a 15), .ref (a 16), .int x_ways, .ref (a 17), .ref (a 18), .ref (a 19), .ref (a 20)])), (a 10, .inl (V.2 0, 18, .inl x_firsts_4)), (a 11, .inl (V.2 0, 18, .inl x_lasts_6)), (a 12, .inl (V.2 1, 18, .inl x_mays_10))]) (by rw [ex_mays_10]) rfl ?_
        replace h := h x_mays_10 ex_mays_10
        refine ga_aload_n hR (pc := 73) 2 rfl rfl dX10_either_73 ?_
        refine ga_dup hR (pc := 74) rfl dX10_either_74 ?_
        refine ga_get hR (pc := 75) 0 rfl rfl hinX10 22 (by decide) f130 rfl dX10_either_75 ?_
        refine ga_iconst hR (pc := 78) (v := nI 1) (by decide) dX10_either_78 ?_
        refine ga_isub hR (pc := 79) dX10_either_79 ?_
        refine ga_topi (fun x_parts_11 ex_parts_11 => ?_)
        replace h := h x_parts_11 ex_parts_11
        refine ga_putf hR (pc := 80) (ws' := [(a 0, .inr (10, [.int x_rules, .int x_places, .ref (a 1), .ref (a 2), .ref (a 3), .int x_newRules, .int x_newPlaces, .ref (a 4), .ref (a 5), .ref (a 6), .ref (a 7), .ref (a 8), .int x_acts, .int x_kept, .int x_length, .ref (a 9), .int x_next, .int x_place, .int x_isWrong, .ref (a 10), .ref (a 11), .ref (a 12), .int x_parts_11, .int x_without, .ref (a 13), .ref (a 14), .ref (a 15), .ref (a 16), .int x_ways, .ref (a 17), .ref (a 18), .ref (a 19), .ref (a 20)])), (a 10, .inl (V.2 0, 18, .inl x_firsts_4)), (a 11, .inl (V.2 0, 18, .inl x_lasts_6)), (a 12, .inl (V.2 1, 18, .inl x_mays_10))]) 0 rfl rfl hinX10 22 (by decide) f130 tyX10_ok nmX10 rfl rfl rfl (Nat.le_of_ble_eq_true rfl) rfl dX10_either_80 ?_
        exact ga_vret hE dX10_either_83 (ga_rv (x_parts_11, x_firsts_4, x_lasts_6, x_mays_10) rfl h)
      · replace h := h.2 c64
        exact ga_lv hR [2] rfl h

def rm_X10_again : Room := { frames := 2, cells := 0, slots := 0, locals := 44 }
theorem hd_X10_againS : yX10_again.cls ≠ "java/lang/invoke/MethodHandle" ∧ yX10_again.cls ≠ "java/lang/invoke/VarHandle" ∧ (parseMethodDescriptor yX10_again.desc).map (fun d => d.parameters.length) = some 0 := by decide +kernel
theorem hd_X10_again : yX10_again.cls = RX10 ∧ yX10_again.cls ≠ "java/lang/invoke/MethodHandle" ∧ yX10_again.cls ≠ "java/lang/invoke/VarHandle" ∧ (parseMethodDescriptor yX10_again.desc).map (fun d => d.parameters.length) = some 0 := ⟨rfl, hd_X10_againS⟩
set_option maxHeartbeats 4000000 in
set_option maxRecDepth 100000 in
theorem c_X10_again (V : ga_V) (a : Nat → Nat) (x_rules : Int32) (x_places : Int32) (x_newRules : Int32) (x_newPlaces : Int32) (x_acts : Int32) (x_kept : Int32) (x_length : Int32) (x_next : Int32) (x_place : Int32) (x_isWrong : Int32) (x_without : Int32) (x_ways : Int32) (x_parts : Int32) (x_newBehind : Nat → Int32) (x_firsts : Nat → Int32) (x_lasts : Nat → Int32) (K : (Nat → Int32) → Prop) (h : wp_X10_again x_parts x_newBehind x_firsts x_lasts K) : ga_C V yX10_again wsX10_again rm_X10_again [.ref (a 0)] [(a 0, .inr (10, [.int x_rules, .int x_places, .ref (a 1), .ref (a 2), .ref (a 3), .int x_newRules, .int x_newPlaces, .ref (a 4), .ref (a 5), .ref (a 6), .ref (a 7), .ref (a 8), .int x_acts, .int x_kept, .int x_length, .ref (a 9), .int x_next, .int x_place, .int x_isWrong, .ref (a 10), .ref (a 11), .ref (a 12), .int x_parts, .int x_without, .ref (a 13), .ref (a 14), .ref (a 15), .ref (a 16), .int x_ways, .ref (a 17), .ref (a 18), .ref (a 19), .ref (a 20)])), (a 6, .inl (V.2 0, 10, .inl x_newBehind)), (a 10, .inl (V.2 0, 18, .inl x_firsts)), (a 11, .inl (V.2 0, 18, .inl x_lasts))] 0 0 (ga_Fv (fun (u : (Nat → Int32)) => [(a 0, .inr (10, [.int x_rules, .int x_places, .ref (a 1), .ref (a 2), .ref (a 3), .int x_newRules, .int x_newPlaces, .ref (a 4), .ref (a 5), .ref (a 6), .ref (a 7), .ref (a 8), .int x_acts, .int x_kept, .int x_length, .ref (a 9), .int x_next, .int x_place, .int x_isWrong, .ref (a 10), .ref (a 11), .ref (a 12), .int x_parts, .int x_without, .ref (a 13), .ref (a 14), .ref (a 15), .ref (a 16), .int x_ways, .ref (a 17), .ref (a 18), .ref (a 19), .ref (a 20)])), (a 6, .inl (V.2 0, 10, .inl u)), (a 10, .inl (V.2 0, 18, .inl x_firsts)), (a 11, .inl (V.2 0, 18, .inl x_lasts))]) (fun u => K u)) := by
  refine ga_met (cc := cX10_again) (maxL := 1) (rt := none) (by decide) rfl [(0, .ref (a 0))] rfl (Nat.le_of_ble_eq_true rfl) ?_
  intro G hR hE
  have hinX10 : ∀ w ∈ u_ws RX10 TX10 33, w ∈ wsX10_again := by decide +kernel
  have f41 : Cond.fieldLink RX10 41 "BoundaryRulesModel" "lasts" "[I" ∈ wsX10_again := by decide +kernel
  have f130 : Cond.fieldLink RX10 130 "BoundaryRulesModel" "parts" "I" ∈ wsX10_again := by decide +kernel
  have f38 : Cond.fieldLink RX10 38 "BoundaryRulesModel" "firsts" "[I" ∈ wsX10_again := by decide +kernel
  unfold wp_X10_again at h
  refine ga_aload_n hR (pc := 0) 0 rfl rfl dX10_again_0 ?_
  refine ga_aload_n hR (pc := 1) 0 rfl rfl dX10_again_1 ?_
  refine ga_get hR (pc := 2) 0 rfl rfl hinX10 20 (by decide) f41 rfl dX10_again_2 ?_
  refine ga_aload_n hR (pc := 5) 0 rfl rfl dX10_again_5 ?_
  refine ga_get hR (pc := 6) 0 rfl rfl hinX10 22 (by decide) f130 rfl dX10_again_6 ?_
  refine ga_iconst hR (pc := 9) (v := nI 1) (by decide) dX10_again_9 ?_
  refine ga_isub hR (pc := 10) dX10_again_10 ?_
  refine ga_iald hR (pc := 11) 3 rfl h.1 dX10_again_11 ?_
  replace h := h.2
  refine ga_aload_n hR (pc := 12) 0 rfl rfl dX10_again_12 ?_
  refine ga_get hR (pc := 13) 0 rfl rfl hinX10 19 (by decide) f38 rfl dX10_again_13 ?_
  refine ga_aload_n hR (pc := 16) 0 rfl rfl dX10_again_16 ?_
  refine ga_get hR (pc := 17) 0 rfl rfl hinX10 22 (by decide) f130 rfl dX10_again_17 ?_
  refine ga_iconst hR (pc := 20) (v := nI 1) (by decide) dX10_again_20 ?_
  refine ga_isub hR (pc := 21) dX10_again_21 ?_
  refine ga_iald hR (pc := 22) 2 rfl h.1 dX10_again_22 ?_
  replace h := h.2
  refine ga_callV hR (pc := 23) (As := [.int (x_lasts (x_parts - (nI 1)).toNatClampNeg), .int (x_firsts (x_parts - (nI 1)).toNatClampNeg)]) (rest := []) (st0 := [.int (x_firsts (x_parts - (nI 1)).toNatClampNeg), .int (x_lasts (x_parts - (nI 1)).toNatClampNeg), .ref (a 0)]) (b := (a 0)) 2 (c_X10_follows V a x_rules x_places x_newRules x_newPlaces x_acts x_kept x_length x_next x_place x_isWrong x_parts x_without x_ways x_newBehind (x_lasts (x_parts - (nI 1)).toNatClampNeg) (x_firsts (x_parts - (nI 1)).toNatClampNeg) _ h) (ga_same_v fun _ => rfl) gX10_again_X10_follows rfl rfl rfl hd_X10_follows ⟨Nat.le_of_ble_eq_true rfl, Nat.le_of_ble_eq_true rfl⟩ rfl rfl (Nat.le_of_ble_eq_true rfl) ⟨Nat.zero_le _, Nat.zero_le _⟩ [0, 1] rfl rfl 0 rfl rfl dX10_again_23 ?_
  rintro _ _ ⟨x_newBehind_1, rfl, rfl, h⟩
  refine ga_to [(a 0, .inr (10, [.int x_rules, .int x_places, .ref (a 1), .ref (a 2), .ref (a 3), .int x_newRules, .int x_newPlaces, .ref (a 4), .ref (a 5), .ref (a 6), .ref (a 7), .ref (a 8), .int x_acts, .int x_kept, .int x_length, .ref (a 9), .int x_next, .int x_place, .int x_isWrong, .ref (a 10), .ref (a 11), .ref (a 12), .int x_parts, .int x_without, .ref (a 13), .ref (a 14), .ref (a 15), .ref (a 16), .int x_ways, .ref (a 17), .ref (a 18), .ref (a 19), .ref (a 20)])), (a 6, .inl (V.2 0, 10, .inl x_newBehind_1)), (a 10, .inl (V.2 0, 18, .inl x_firsts)), (a 11, .inl (V.2 0, 18, .inl x_lasts))] [] rfl rfl ?_
  try dsimp only at h
  exact ga_vret hE dX10_again_26 (ga_rv x_newBehind_1 rfl h)

def rm_X10_maybe : Room := { frames := 0, cells := 0, slots := 0, locals := 0 }
theorem hd_X10_maybeS : yX10_maybe.cls ≠ "java/lang/invoke/MethodHandle" ∧ yX10_maybe.cls ≠ "java/lang/invoke/VarHandle" ∧ (parseMethodDescriptor yX10_maybe.desc).map (fun d => d.parameters.length) = some 0 := by decide +kernel
theorem hd_X10_maybe : yX10_maybe.cls = RX10 ∧ yX10_maybe.cls ≠ "java/lang/invoke/MethodHandle" ∧ yX10_maybe.cls ≠ "java/lang/invoke/VarHandle" ∧ (parseMethodDescriptor yX10_maybe.desc).map (fun d => d.parameters.length) = some 0 := ⟨rfl, hd_X10_maybeS⟩
set_option maxHeartbeats 4000000 in
set_option maxRecDepth 100000 in
theorem c_X10_maybe (V : ga_V) (a : Nat → Nat) (x_rules : Int32) (x_places : Int32) (x_newRules : Int32) (x_newPlaces : Int32) (x_acts : Int32) (x_kept : Int32) (x_length : Int32) (x_next : Int32) (x_place : Int32) (x_isWrong : Int32) (x_without : Int32) (x_ways : Int32) (x_parts : Int32) (x_mays : Nat → Int32) (K : (Nat → Int32) → Prop) (h : wp_X10_maybe x_parts x_mays K) : ga_C V yX10_maybe wsX10_maybe rm_X10_maybe [.ref (a 0)] [(a 0, .inr (10, [.int x_rules, .int x_places, .ref (a 1), .ref (a 2), .ref (a 3), .int x_newRules, .int x_newPlaces, .ref (a 4), .ref (a 5), .ref (a 6), .ref (a 7), .ref (a 8), .int x_acts, .int x_kept, .int x_length, .ref (a 9), .int x_next, .int x_place, .int x_isWrong, .ref (a 10), .ref (a 11), .ref (a 12), .int x_parts, .int x_without, .ref (a 13), .ref (a 14), .ref (a 15), .ref (a 16), .int x_ways, .ref (a 17), .ref (a 18), .ref (a 19), .ref (a 20)])), (a 12, .inl (V.2 1, 18, .inl x_mays))] 0 0 (ga_Fv (fun (u : (Nat → Int32)) => [(a 0, .inr (10, [.int x_rules, .int x_places, .ref (a 1), .ref (a 2), .ref (a 3), .int x_newRules, .int x_newPlaces, .ref (a 4), .ref (a 5), .ref (a 6), .ref (a 7), .ref (a 8), .int x_acts, .int x_kept, .int x_length, .ref (a 9), .int x_next, .int x_place, .int x_isWrong, .ref (a 10), .ref (a 11), .ref (a 12), .int x_parts, .int x_without, .ref (a 13), .ref (a 14), .ref (a 15), .ref (a 16), .int x_ways, .ref (a 17), .ref (a 18), .ref (a 19), .ref (a 20)])), (a 12, .inl (V.2 1, 18, .inl u))]) (fun u => K u)) := by
  refine ga_met (cc := cX10_maybe) (maxL := 1) (rt := none) (by decide) rfl [(0, .ref (a 0))] rfl (Nat.le_of_ble_eq_true rfl) ?_
  intro G hR hE
  have hinX10 : ∀ w ∈ u_ws RX10 TX10 33, w ∈ wsX10_maybe := by decide +kernel
  have f44 : Cond.fieldLink RX10 44 "BoundaryRulesModel" "mays" "[Z" ∈ wsX10_maybe := by decide +kernel
  have f130 : Cond.fieldLink RX10 130 "BoundaryRulesModel" "parts" "I" ∈ wsX10_maybe := by decide +kernel
  unfold wp_X10_maybe at h
  refine ga_aload_n hR (pc := 0) 0 rfl rfl dX10_maybe_0 ?_
  refine ga_get hR (pc := 1) 0 rfl rfl hinX10 21 (by decide) f44 rfl dX10_maybe_1 ?_
  refine ga_aload_n hR (pc := 4) 0 rfl rfl dX10_maybe_4 ?_
  refine ga_get hR (pc := 5) 0 rfl rfl hinX10 22 (by decide) f130 rfl dX10_maybe_5 ?_
  refine ga_iconst hR (pc := 8) (v := nI 1) (by decide) dX10_maybe_8 ?_
  refine ga_isub hR (pc := 9) dX10_maybe_9 ?_
  refine ga_iconst hR (pc := 10) (v := nI 1) (by decide) dX10_maybe_10 ?_
  refine ga_zast hR (pc := 11) (ws' := [(a 0, .inr (10, [.int x_rules, .int x_places, .ref (a 1), .ref (a 2), .ref (a 3), .int x_newRules, .int x_newPlaces, .ref (a 4), .ref (a 5), .ref (a 6), .ref (a 7), .ref (a 8), .int x_acts, .int x_kept, .int x_length, .ref (a 9), .int x_next, .int x_place, .int x_isWrong, .ref (a 10), .ref (a 11), .ref (a 12), .int x_parts, .int x_without, .ref (a 13), .ref (a 14), .ref (a 15), .ref (a 16), .int x_ways, .ref (a 17), .ref (a 18), .ref (a 19), .ref (a 20)])), (a 12, .inl (V.2 1, 18, .inl ((upd x_mays (x_parts - (nI 1)).toNatClampNeg (vp_nar .boolean (nI 1))))))]) 1 rfl h.1 rfl dX10_maybe_11 ?_
  replace h := h.2
  obtain ⟨x_mays_1, ex_mays_1⟩ : ∃ f : Nat → Int32, f = upd x_mays (x_parts - (nI 1)).toNatClampNeg (vp_nar .boolean (nI 1)) := ⟨_, rfl⟩
  refine ga_cast (ws' := [(a 0, .inr (10, [.int x_rules, .int x_places, .ref (a 1), .ref (a 2), .ref (a 3), .int x_newRules, .int x_newPlaces, .ref (a 4), .ref (a 5), .ref (a 6), .ref (a 7), .ref (a 8), .int x_acts, .int x_kept, .int x_length, .ref (a 9), .int x_next, .int x_place, .int x_isWrong, .ref (a 10), .ref (a 11), .ref (a 12), .int x_parts, .int x_without, .ref (a 13), .ref (a 14), .ref (a 15), .ref (a 16), .int x_ways, .ref (a 17), .ref (a 18), .ref (a 19), .ref (a 20)])), (a 12, .inl (V.2 1, 18, .inl x_mays_1))]) (by rw [ex_mays_1]) rfl ?_
  replace h := h x_mays_1 ex_mays_1
  exact ga_vret hE dX10_maybe_12 (ga_rv x_mays_1 rfl h)

def rm_X10_any : Room := { frames := 3, cells := 0, slots := 0, locals := 64 }
theorem hd_X10_anyS : yX10_any.cls ≠ "java/lang/invoke/MethodHandle" ∧ yX10_any.cls ≠ "java/lang/invoke/VarHandle" ∧ (parseMethodDescriptor yX10_any.desc).map (fun d => d.parameters.length) = some 0 := by decide +kernel
theorem hd_X10_any : yX10_any.cls = RX10 ∧ yX10_any.cls ≠ "java/lang/invoke/MethodHandle" ∧ yX10_any.cls ≠ "java/lang/invoke/VarHandle" ∧ (parseMethodDescriptor yX10_any.desc).map (fun d => d.parameters.length) = some 0 := ⟨rfl, hd_X10_anyS⟩
set_option maxHeartbeats 4000000 in
set_option maxRecDepth 100000 in
theorem c_X10_any (V : ga_V) (a : Nat → Nat) (x_rules : Int32) (x_places : Int32) (x_newRules : Int32) (x_newPlaces : Int32) (x_acts : Int32) (x_kept : Int32) (x_length : Int32) (x_next : Int32) (x_place : Int32) (x_isWrong : Int32) (x_without : Int32) (x_ways : Int32) (x_parts : Int32) (x_newBehind : Nat → Int32) (x_firsts : Nat → Int32) (x_lasts : Nat → Int32) (x_mays : Nat → Int32) (K : (Nat → Int32) → (Nat → Int32) → Prop) (h : wp_X10_any x_parts x_newBehind x_firsts x_lasts x_mays K) : ga_C V yX10_any wsX10_any rm_X10_any [.ref (a 0)] [(a 0, .inr (10, [.int x_rules, .int x_places, .ref (a 1), .ref (a 2), .ref (a 3), .int x_newRules, .int x_newPlaces, .ref (a 4), .ref (a 5), .ref (a 6), .ref (a 7), .ref (a 8), .int x_acts, .int x_kept, .int x_length, .ref (a 9), .int x_next, .int x_place, .int x_isWrong, .ref (a 10), .ref (a 11), .ref (a 12), .int x_parts, .int x_without, .ref (a 13), .ref (a 14), .ref (a 15), .ref (a 16), .int x_ways, .ref (a 17), .ref (a 18), .ref (a 19), .ref (a 20)])), (a 6, .inl (V.2 0, 10, .inl x_newBehind)), (a 10, .inl (V.2 0, 18, .inl x_firsts)), (a 11, .inl (V.2 0, 18, .inl x_lasts)), (a 12, .inl (V.2 1, 18, .inl x_mays))] 0 0 (ga_Fv (fun (u : (Nat → Int32) × (Nat → Int32)) => [(a 0, .inr (10, [.int x_rules, .int x_places, .ref (a 1), .ref (a 2), .ref (a 3), .int x_newRules, .int x_newPlaces, .ref (a 4), .ref (a 5), .ref (a 6), .ref (a 7), .ref (a 8), .int x_acts, .int x_kept, .int x_length, .ref (a 9), .int x_next, .int x_place, .int x_isWrong, .ref (a 10), .ref (a 11), .ref (a 12), .int x_parts, .int x_without, .ref (a 13), .ref (a 14), .ref (a 15), .ref (a 16), .int x_ways, .ref (a 17), .ref (a 18), .ref (a 19), .ref (a 20)])), (a 6, .inl (V.2 0, 10, .inl u.1)), (a 10, .inl (V.2 0, 18, .inl x_firsts)), (a 11, .inl (V.2 0, 18, .inl x_lasts)), (a 12, .inl (V.2 1, 18, .inl u.2))]) (fun u => K u.1 u.2)) := by
  refine ga_met (cc := cX10_any) (maxL := 1) (rt := none) (by decide) rfl [(0, .ref (a 0))] rfl (Nat.le_of_ble_eq_true rfl) ?_
  intro G hR hE
  unfold wp_X10_any at h
  refine ga_aload_n hR (pc := 0) 0 rfl rfl dX10_any_0 ?_
  refine ga_callV hR (pc := 1) (As := []) (rest := []) (st0 := [.ref (a 0)]) (b := (a 0)) 0 (c_X10_again V a x_rules x_places x_newRules x_newPlaces x_acts x_kept x_length x_next x_place x_isWrong x_without x_ways x_parts x_newBehind x_firsts x_lasts _ h) (ga_same_v fun _ => rfl) gX10_any_X10_again rfl rfl rfl hd_X10_again ⟨Nat.le_of_ble_eq_true rfl, Nat.le_of_ble_eq_true rfl⟩ rfl rfl (Nat.le_of_ble_eq_true rfl) ⟨Nat.zero_le _, Nat.zero_le _⟩ [0, 1, 2, 3] rfl rfl 0 rfl rfl dX10_any_1 ?_
  rintro _ _ ⟨x_newBehind_1, rfl, rfl, h⟩
  refine ga_to [(a 0, .inr (10, [.int x_rules, .int x_places, .ref (a 1), .ref (a 2), .ref (a 3), .int x_newRules, .int x_newPlaces, .ref (a 4), .ref (a 5), .ref (a 6), .ref (a 7), .ref (a 8), .int x_acts, .int x_kept, .int x_length, .ref (a 9), .int x_next, .int x_place, .int x_isWrong, .ref (a 10), .ref (a 11), .ref (a 12), .int x_parts, .int x_without, .ref (a 13), .ref (a 14), .ref (a 15), .ref (a 16), .int x_ways, .ref (a 17), .ref (a 18), .ref (a 19), .ref (a 20)])), (a 6, .inl (V.2 0, 10, .inl x_newBehind_1)), (a 10, .inl (V.2 0, 18, .inl x_firsts)), (a 11, .inl (V.2 0, 18, .inl x_lasts)), (a 12, .inl (V.2 1, 18, .inl x_mays))] [] rfl rfl ?_
  try dsimp only at h
  refine ga_aload_n hR (pc := 4) 0 rfl rfl dX10_any_4 ?_
  refine ga_callV hR (pc := 5) (As := []) (rest := []) (st0 := [.ref (a 0)]) (b := (a 0)) 0 (c_X10_maybe V a x_rules x_places x_newRules x_newPlaces x_acts x_kept x_length x_next x_place x_isWrong x_without x_ways x_parts x_mays _ h) (ga_same_v fun _ => rfl) gX10_any_X10_maybe rfl rfl rfl hd_X10_maybe ⟨Nat.le_of_ble_eq_true rfl, Nat.le_of_ble_eq_true rfl⟩ rfl rfl (Nat.le_of_ble_eq_true rfl) ⟨Nat.zero_le _, Nat.zero_le _⟩ [0, 4] rfl rfl 0 rfl rfl dX10_any_5 ?_
  rintro _ _ ⟨x_mays_2, rfl, rfl, h⟩
  refine ga_to [(a 0, .inr (10, [.int x_rules, .int x_places, .ref (a 1), .ref (a 2), .ref (a 3), .int x_newRules, .int x_newPlaces, .ref (a 4), .ref (a 5), .ref (a 6), .ref (a 7), .ref (a 8), .int x_acts, .int x_kept, .int x_length, .ref (a 9), .int x_next, .int x_place, .int x_isWrong, .ref (a 10), .ref (a 11), .ref (a 12), .int x_parts, .int x_without, .ref (a 13), .ref (a 14), .ref (a 15), .ref (a 16), .int x_ways, .ref (a 17), .ref (a 18), .ref (a 19), .ref (a 20)])), (a 6, .inl (V.2 0, 10, .inl x_newBehind_1)), (a 10, .inl (V.2 0, 18, .inl x_firsts)), (a 11, .inl (V.2 0, 18, .inl x_lasts)), (a 12, .inl (V.2 1, 18, .inl x_mays_2))] [] rfl rfl ?_
  try dsimp only at h
  exact ga_vret hE dX10_any_8 (ga_rv (x_newBehind_1, x_mays_2) rfl h)

def rm_X10_ends : Room := { frames := 0, cells := 0, slots := 0, locals := 0 }
theorem hd_X10_endsS : yX10_ends.cls ≠ "java/lang/invoke/MethodHandle" ∧ yX10_ends.cls ≠ "java/lang/invoke/VarHandle" ∧ (parseMethodDescriptor yX10_ends.desc).map (fun d => d.parameters.length) = some 2 := by decide +kernel
theorem hd_X10_ends : yX10_ends.cls = RX10 ∧ yX10_ends.cls ≠ "java/lang/invoke/MethodHandle" ∧ yX10_ends.cls ≠ "java/lang/invoke/VarHandle" ∧ (parseMethodDescriptor yX10_ends.desc).map (fun d => d.parameters.length) = some 2 := ⟨rfl, hd_X10_endsS⟩
set_option maxHeartbeats 4000000 in
set_option maxRecDepth 100000 in
theorem c_X10_ends (V : ga_V) (a : Nat → Nat) (x_rules : Int32) (x_places : Int32) (x_acts : Int32) (x_kept : Int32) (x_length : Int32) (x_next : Int32) (x_place : Int32) (x_isWrong : Int32) (x_parts : Int32) (x_without : Int32) (x_ways : Int32) (x_newRules : Int32) (x_newPlaces : Int32) (x_newRule : Nat → Int32) (x_newSlot : Nat → Int32) (x_firsts : Nat → Int32) (x_lasts : Nat → Int32) (p1 : Int32) (p2 : Int32) (K : Int32 → Int32 → (Nat → Int32) → (Nat → Int32) → Prop) (h : wp_X10_ends x_newRules x_newPlaces x_newRule x_newSlot x_firsts x_lasts p1 p2 K) : ga_C V yX10_ends wsX10_ends rm_X10_ends [.ref (a 0), .int p1, .int p2] [(a 0, .inr (10, [.int x_rules, .int x_places, .ref (a 1), .ref (a 2), .ref (a 3), .int x_newRules, .int x_newPlaces, .ref (a 4), .ref (a 5), .ref (a 6), .ref (a 7), .ref (a 8), .int x_acts, .int x_kept, .int x_length, .ref (a 9), .int x_next, .int x_place, .int x_isWrong, .ref (a 10), .ref (a 11), .ref (a 12), .int x_parts, .int x_without, .ref (a 13), .ref (a 14), .ref (a 15), .ref (a 16), .int x_ways, .ref (a 17), .ref (a 18), .ref (a 19), .ref (a 20)])), (a 4, .inl (V.2 0, 12, .inl x_newRule)), (a 7, .inl (V.2 0, 61, .inl x_newSlot)), (a 10, .inl (V.2 0, 18, .inl x_firsts)), (a 11, .inl (V.2 0, 18, .inl x_lasts))] 0 0 (ga_Fv (fun (u : Int32 × Int32 × (Nat → Int32) × (Nat → Int32)) => [(a 0, .inr (10, [.int x_rules, .int x_places, .ref (a 1), .ref (a 2), .ref (a 3), .int u.1, .int u.2.1, .ref (a 4), .ref (a 5), .ref (a 6), .ref (a 7), .ref (a 8), .int x_acts, .int x_kept, .int x_length, .ref (a 9), .int x_next, .int x_place, .int x_isWrong, .ref (a 10), .ref (a 11), .ref (a 12), .int x_parts, .int x_without, .ref (a 13), .ref (a 14), .ref (a 15), .ref (a 16), .int x_ways, .ref (a 17), .ref (a 18), .ref (a 19), .ref (a 20)])), (a 4, .inl (V.2 0, 12, .inl u.2.2.1)), (a 7, .inl (V.2 0, 61, .inl u.2.2.2)), (a 10, .inl (V.2 0, 18, .inl x_firsts)), (a 11, .inl (V.2 0, 18, .inl x_lasts))]) (fun u => K u.1 u.2.1 u.2.2.1 u.2.2.2)) := by
  refine ga_met (cc := cX10_ends) (maxL := 3) (rt := none) (by decide) rfl [(0, .ref (a 0)), (1, .int p1), (2, .int p2)] rfl (Nat.le_of_ble_eq_true rfl) ?_
  intro G hR hE
  have hinX10 : ∀ w ∈ u_ws RX10 TX10 33, w ∈ wsX10_ends := by decide +kernel
  have f19 : Cond.fieldLink RX10 19 "BoundaryRulesModel" "newRule" "[I" ∈ wsX10_ends := by decide +kernel
  have f107 : Cond.fieldLink RX10 107 "BoundaryRulesModel" "newRules" "I" ∈ wsX10_ends := by decide +kernel
  have f38 : Cond.fieldLink RX10 38 "BoundaryRulesModel" "firsts" "[I" ∈ wsX10_ends := by decide +kernel
  have f41 : Cond.fieldLink RX10 41 "BoundaryRulesModel" "lasts" "[I" ∈ wsX10_ends := by decide +kernel
  have f111 : Cond.fieldLink RX10 111 "BoundaryRulesModel" "newPlaces" "I" ∈ wsX10_ends := by decide +kernel
  have f28 : Cond.fieldLink RX10 28 "BoundaryRulesModel" "newSlot" "[I" ∈ wsX10_ends := by decide +kernel
  unfold wp_X10_ends at h
  refine ga_aload_n hR (pc := 0) 0 rfl rfl dX10_ends_0 ?_
  refine ga_get hR (pc := 1) 0 rfl rfl hinX10 7 (by decide) f19 rfl dX10_ends_1 ?_
  refine ga_iconst hR (pc := 4) (v := nI 0) (by decide) dX10_ends_4 ?_
  refine ga_aload_n hR (pc := 5) 0 rfl rfl dX10_ends_5 ?_
  refine ga_get hR (pc := 6) 0 rfl rfl hinX10 5 (by decide) f107 rfl dX10_ends_6 ?_
  refine ga_iadd hR (pc := 9) dX10_ends_9 ?_
  refine ga_aload_n hR (pc := 10) 0 rfl rfl dX10_ends_10 ?_
  refine ga_get hR (pc := 11) 0 rfl rfl hinX10 19 (by decide) f38 rfl dX10_ends_11 ?_
  refine ga_iconst hR (pc := 14) (v := nI 0) (by decide) dX10_ends_14 ?_
  refine ga_iald hR (pc := 15) 3 rfl h.1 dX10_ends_15 ?_
  replace h := h.2
  refine ga_topi (fun t_1 et_1 => ?_)
  replace h := h t_1 et_1
  refine ga_iast hR (pc := 16) (ws' := [(a 0, .inr (10, [.int x_rules, .int x_places, .ref (a 1), .ref (a 2), .ref (a 3), .int x_newRules, .int x_newPlaces, .ref (a 4), .ref (a 5), .ref (a 6), .ref (a 7), .ref (a 8), .int x_acts, .int x_kept, .int x_length, .ref (a 9), .int x_next, .int x_place, .int x_isWrong, .ref (a 10), .ref (a 11), .ref (a 12), .int x_parts, .int x_without, .ref (a 13), .ref (a 14), .ref (a 15), .ref (a 16), .int x_ways, .ref (a 17), .ref (a 18), .ref (a 19), .ref (a 20)])), (a 4, .inl (V.2 0, 12, .inl ((upd x_newRule ((nI 0) + x_newRules).toNatClampNeg t_1)))), (a 7, .inl (V.2 0, 61, .inl x_newSlot)), (a 10, .inl (V.2 0, 18, .inl x_firsts)), (a 11, .inl (V.2 0, 18, .inl x_lasts))]) 1 rfl h.1 rfl dX10_ends_16 ?_
  replace h := h.2
  obtain ⟨x_newRule_2, ex_newRule_2⟩ : ∃ f : Nat → Int32, f = upd x_newRule ((nI 0) + x_newRules).toNatClampNeg t_1 := ⟨_, rfl⟩
  refine ga_cast (ws' := [(a 0, .inr (10, [.int x_rules, .int x_places, .ref (a 1), .ref (a 2), .ref (a 3), .int x_newRules, .int x_newPlaces, .ref (a 4), .ref (a 5), .ref (a 6), .ref (a 7), .ref (a 8), .int x_acts, .int x_kept, .int x_length, .ref (a 9), .int x_next, .int x_place, .int x_isWrong, .ref (a 10), .ref (a 11), .ref (a 12), .int x_parts, .int x_without, .ref (a 13), .ref (a 14), .ref (a 15), .ref (a 16), .int x_ways, .ref (a 17), .ref (a 18), .ref (a 19), .ref (a 20)])), (a 4, .inl (V.2 0, 12, .inl x_newRule_2)), (a 7, .inl (V.2 0, 61, .inl x_newSlot)), (a 10, .inl (V.2 0, 18, .inl x_firsts)), (a 11, .inl (V.2 0, 18, .inl x_lasts))]) (by rw [ex_newRule_2]) rfl ?_
  replace h := h x_newRule_2 ex_newRule_2
  refine ga_aload_n hR (pc := 17) 0 rfl rfl dX10_ends_17 ?_
  refine ga_get hR (pc := 18) 0 rfl rfl hinX10 7 (by decide) f19 rfl dX10_ends_18 ?_
  refine ga_iconst hR (pc := 21) (v := nI 4) (by decide) dX10_ends_21 ?_
  refine ga_aload_n hR (pc := 22) 0 rfl rfl dX10_ends_22 ?_
  refine ga_get hR (pc := 23) 0 rfl rfl hinX10 5 (by decide) f107 rfl dX10_ends_23 ?_
  refine ga_iadd hR (pc := 26) dX10_ends_26 ?_
  refine ga_aload_n hR (pc := 27) 0 rfl rfl dX10_ends_27 ?_
  refine ga_get hR (pc := 28) 0 rfl rfl hinX10 20 (by decide) f41 rfl dX10_ends_28 ?_
  refine ga_iconst hR (pc := 31) (v := nI 0) (by decide) dX10_ends_31 ?_
  refine ga_iald hR (pc := 32) 4 rfl h.1 dX10_ends_32 ?_
  replace h := h.2
  refine ga_topi (fun t_3 et_3 => ?_)
  replace h := h t_3 et_3
  refine ga_iast hR (pc := 33) (ws' := [(a 0, .inr (10, [.int x_rules, .int x_places, .ref (a 1), .ref (a 2), .ref (a 3), .int x_newRules, .int x_newPlaces, .ref (a 4), .ref (a 5), .ref (a 6), .ref (a 7), .ref (a 8), .int x_acts, .int x_kept, .int x_length, .ref (a 9), .int x_next, .int x_place, .int x_isWrong, .ref (a 10), .ref (a 11), .ref (a 12), .int x_parts, .int x_without, .ref (a 13), .ref (a 14), .ref (a 15), .ref (a 16), .int x_ways, .ref (a 17), .ref (a 18), .ref (a 19), .ref (a 20)])), (a 4, .inl (V.2 0, 12, .inl ((upd x_newRule_2 ((nI 4) + x_newRules).toNatClampNeg t_3)))), (a 7, .inl (V.2 0, 61, .inl x_newSlot)), (a 10, .inl (V.2 0, 18, .inl x_firsts)), (a 11, .inl (V.2 0, 18, .inl x_lasts))]) 1 rfl h.1 rfl dX10_ends_33 ?_
  replace h := h.2
  obtain ⟨x_newRule_4, ex_newRule_4⟩ : ∃ f : Nat → Int32, f = upd x_newRule_2 ((nI 4) + x_newRules).toNatClampNeg t_3 := ⟨_, rfl⟩
  refine ga_cast (ws' := [(a 0, .inr (10, [.int x_rules, .int x_places, .ref (a 1), .ref (a 2), .ref (a 3), .int x_newRules, .int x_newPlaces, .ref (a 4), .ref (a 5), .ref (a 6), .ref (a 7), .ref (a 8), .int x_acts, .int x_kept, .int x_length, .ref (a 9), .int x_next, .int x_place, .int x_isWrong, .ref (a 10), .ref (a 11), .ref (a 12), .int x_parts, .int x_without, .ref (a 13), .ref (a 14), .ref (a 15), .ref (a 16), .int x_ways, .ref (a 17), .ref (a 18), .ref (a 19), .ref (a 20)])), (a 4, .inl (V.2 0, 12, .inl x_newRule_4)), (a 7, .inl (V.2 0, 61, .inl x_newSlot)), (a 10, .inl (V.2 0, 18, .inl x_firsts)), (a 11, .inl (V.2 0, 18, .inl x_lasts))]) (by rw [ex_newRule_4]) rfl ?_
  replace h := h x_newRule_4 ex_newRule_4
  refine ga_aload_n hR (pc := 34) 0 rfl rfl dX10_ends_34 ?_
  refine ga_get hR (pc := 35) 0 rfl rfl hinX10 7 (by decide) f19 rfl dX10_ends_35 ?_
  refine ga_bipush hR (pc := 38) (v := nI 8) (by decide) dX10_ends_38 ?_
  refine ga_aload_n hR (pc := 40) 0 rfl rfl dX10_ends_40 ?_
  refine ga_get hR (pc := 41) 0 rfl rfl hinX10 5 (by decide) f107 rfl dX10_ends_41 ?_
  refine ga_iadd hR (pc := 44) dX10_ends_44 ?_
  refine ga_iconst hR (pc := 45) (v := nI 1) (by decide) dX10_ends_45 ?_
  refine ga_iload_n hR (pc := 46) 2 rfl rfl dX10_ends_46 ?_
  refine ga_ishl hR (pc := 47) dX10_ends_47 ?_
  refine ga_iconst hR (pc := 48) (v := nI 1) (by decide) dX10_ends_48 ?_
  refine ga_isub hR (pc := 49) dX10_ends_49 ?_
  refine ga_aload_n hR (pc := 50) 0 rfl rfl dX10_ends_50 ?_
  refine ga_get hR (pc := 51) 0 rfl rfl hinX10 6 (by decide) f111 rfl dX10_ends_51 ?_
  refine ga_ishl hR (pc := 54) dX10_ends_54 ?_
  refine ga_topi (fun t_5 et_5 => ?_)
  replace h := h t_5 et_5
  refine ga_iast hR (pc := 55) (ws' := [(a 0, .inr (10, [.int x_rules, .int x_places, .ref (a 1), .ref (a 2), .ref (a 3), .int x_newRules, .int x_newPlaces, .ref (a 4), .ref (a 5), .ref (a 6), .ref (a 7), .ref (a 8), .int x_acts, .int x_kept, .int x_length, .ref (a 9), .int x_next, .int x_place, .int x_isWrong, .ref (a 10), .ref (a 11), .ref (a 12), .int x_parts, .int x_without, .ref (a 13), .ref (a 14), .ref (a 15), .ref (a 16), .int x_ways, .ref (a 17), .ref (a 18), .ref (a 19), .ref (a 20)])), (a 4, .inl (V.2 0, 12, .inl ((upd x_newRule_4 ((nI 8) + x_newRules).toNatClampNeg t_5)))), (a 7, .inl (V.2 0, 61, .inl x_newSlot)), (a 10, .inl (V.2 0, 18, .inl x_firsts)), (a 11, .inl (V.2 0, 18, .inl x_lasts))]) 1 rfl h.1 rfl dX10_ends_55 ?_
  replace h := h.2
  obtain ⟨x_newRule_6, ex_newRule_6⟩ : ∃ f : Nat → Int32, f = upd x_newRule_4 ((nI 8) + x_newRules).toNatClampNeg t_5 := ⟨_, rfl⟩
  refine ga_cast (ws' := [(a 0, .inr (10, [.int x_rules, .int x_places, .ref (a 1), .ref (a 2), .ref (a 3), .int x_newRules, .int x_newPlaces, .ref (a 4), .ref (a 5), .ref (a 6), .ref (a 7), .ref (a 8), .int x_acts, .int x_kept, .int x_length, .ref (a 9), .int x_next, .int x_place, .int x_isWrong, .ref (a 10), .ref (a 11), .ref (a 12), .int x_parts, .int x_without, .ref (a 13), .ref (a 14), .ref (a 15), .ref (a 16), .int x_ways, .ref (a 17), .ref (a 18), .ref (a 19), .ref (a 20)])), (a 4, .inl (V.2 0, 12, .inl x_newRule_6)), (a 7, .inl (V.2 0, 61, .inl x_newSlot)), (a 10, .inl (V.2 0, 18, .inl x_firsts)), (a 11, .inl (V.2 0, 18, .inl x_lasts))]) (by rw [ex_newRule_6]) rfl ?_
  replace h := h x_newRule_6 ex_newRule_6
  refine ga_aload_n hR (pc := 56) 0 rfl rfl dX10_ends_56 ?_
  refine ga_get hR (pc := 57) 0 rfl rfl hinX10 10 (by decide) f28 rfl dX10_ends_57 ?_
  refine ga_bipush hR (pc := 60) (v := nI 26) (by decide) dX10_ends_60 ?_
  refine ga_aload_n hR (pc := 62) 0 rfl rfl dX10_ends_62 ?_
  refine ga_get hR (pc := 63) 0 rfl rfl hinX10 5 (by decide) f107 rfl dX10_ends_63 ?_
  refine ga_iadd hR (pc := 66) dX10_ends_66 ?_
  refine ga_iload_n hR (pc := 67) 1 rfl rfl dX10_ends_67 ?_
  refine ga_iast hR (pc := 68) (ws' := [(a 0, .inr (10, [.int x_rules, .int x_places, .ref (a 1), .ref (a 2), .ref (a 3), .int x_newRules, .int x_newPlaces, .ref (a 4), .ref (a 5), .ref (a 6), .ref (a 7), .ref (a 8), .int x_acts, .int x_kept, .int x_length, .ref (a 9), .int x_next, .int x_place, .int x_isWrong, .ref (a 10), .ref (a 11), .ref (a 12), .int x_parts, .int x_without, .ref (a 13), .ref (a 14), .ref (a 15), .ref (a 16), .int x_ways, .ref (a 17), .ref (a 18), .ref (a 19), .ref (a 20)])), (a 4, .inl (V.2 0, 12, .inl x_newRule_6)), (a 7, .inl (V.2 0, 61, .inl ((upd x_newSlot ((nI 26) + x_newRules).toNatClampNeg p1)))), (a 10, .inl (V.2 0, 18, .inl x_firsts)), (a 11, .inl (V.2 0, 18, .inl x_lasts))]) 2 rfl h.1 rfl dX10_ends_68 ?_
  replace h := h.2
  obtain ⟨x_newSlot_7, ex_newSlot_7⟩ : ∃ f : Nat → Int32, f = upd x_newSlot ((nI 26) + x_newRules).toNatClampNeg p1 := ⟨_, rfl⟩
  refine ga_cast (ws' := [(a 0, .inr (10, [.int x_rules, .int x_places, .ref (a 1), .ref (a 2), .ref (a 3), .int x_newRules, .int x_newPlaces, .ref (a 4), .ref (a 5), .ref (a 6), .ref (a 7), .ref (a 8), .int x_acts, .int x_kept, .int x_length, .ref (a 9), .int x_next, .int x_place, .int x_isWrong, .ref (a 10), .ref (a 11), .ref (a 12), .int x_parts, .int x_without, .ref (a 13), .ref (a 14), .ref (a 15), .ref (a 16), .int x_ways, .ref (a 17), .ref (a 18), .ref (a 19), .ref (a 20)])), (a 4, .inl (V.2 0, 12, .inl x_newRule_6)), (a 7, .inl (V.2 0, 61, .inl x_newSlot_7)), (a 10, .inl (V.2 0, 18, .inl x_firsts)), (a 11, .inl (V.2 0, 18, .inl x_lasts))]) (by rw [ex_newSlot_7]) rfl ?_
  replace h := h x_newSlot_7 ex_newSlot_7
  refine ga_aload_n hR (pc := 69) 0 rfl rfl dX10_ends_69 ?_
  refine ga_dup hR (pc := 70) rfl dX10_ends_70 ?_
  refine ga_get hR (pc := 71) 0 rfl rfl hinX10 6 (by decide) f111 rfl dX10_ends_71 ?_
  refine ga_iload_n hR (pc := 74) 2 rfl rfl dX10_ends_74 ?_
  refine ga_iadd hR (pc := 75) dX10_ends_75 ?_
  refine ga_topi (fun x_newPlaces_8 ex_newPlaces_8 => ?_)
  replace h := h x_newPlaces_8 ex_newPlaces_8
  refine ga_putf hR (pc := 76) (ws' := [(a 0, .inr (10, [.int x_rules, .int x_places, .ref (a 1), .ref (a 2), .ref (a 3), .int x_newRules, .int x_newPlaces_8, .ref (a 4), .ref (a 5), .ref (a 6), .ref (a 7), .ref (a 8), .int x_acts, .int x_kept, .int x_length, .ref (a 9), .int x_next, .int x_place, .int x_isWrong, .ref (a 10), .ref (a 11), .ref (a 12), .int x_parts, .int x_without, .ref (a 13), .ref (a 14), .ref (a 15), .ref (a 16), .int x_ways, .ref (a 17), .ref (a 18), .ref (a 19), .ref (a 20)])), (a 4, .inl (V.2 0, 12, .inl x_newRule_6)), (a 7, .inl (V.2 0, 61, .inl x_newSlot_7)), (a 10, .inl (V.2 0, 18, .inl x_firsts)), (a 11, .inl (V.2 0, 18, .inl x_lasts))]) 0 rfl rfl hinX10 6 (by decide) f111 tyX10_ok nmX10 rfl rfl rfl (Nat.le_of_ble_eq_true rfl) rfl dX10_ends_76 ?_
  refine ga_aload_n hR (pc := 79) 0 rfl rfl dX10_ends_79 ?_
  refine ga_dup hR (pc := 80) rfl dX10_ends_80 ?_
  refine ga_get hR (pc := 81) 0 rfl rfl hinX10 5 (by decide) f107 rfl dX10_ends_81 ?_
  refine ga_iconst hR (pc := 84) (v := nI 1) (by decide) dX10_ends_84 ?_
  refine ga_iadd hR (pc := 85) dX10_ends_85 ?_
  refine ga_topi (fun x_newRules_9 ex_newRules_9 => ?_)
  replace h := h x_newRules_9 ex_newRules_9
  refine ga_putf hR (pc := 86) (ws' := [(a 0, .inr (10, [.int x_rules, .int x_places, .ref (a 1), .ref (a 2), .ref (a 3), .int x_newRules_9, .int x_newPlaces_8, .ref (a 4), .ref (a 5), .ref (a 6), .ref (a 7), .ref (a 8), .int x_acts, .int x_kept, .int x_length, .ref (a 9), .int x_next, .int x_place, .int x_isWrong, .ref (a 10), .ref (a 11), .ref (a 12), .int x_parts, .int x_without, .ref (a 13), .ref (a 14), .ref (a 15), .ref (a 16), .int x_ways, .ref (a 17), .ref (a 18), .ref (a 19), .ref (a 20)])), (a 4, .inl (V.2 0, 12, .inl x_newRule_6)), (a 7, .inl (V.2 0, 61, .inl x_newSlot_7)), (a 10, .inl (V.2 0, 18, .inl x_firsts)), (a 11, .inl (V.2 0, 18, .inl x_lasts))]) 0 rfl rfl hinX10 5 (by decide) f107 tyX10_ok nmX10 rfl rfl rfl (Nat.le_of_ble_eq_true rfl) rfl dX10_ends_86 ?_
  exact ga_vret hE dX10_ends_89 (ga_rv (x_newRules_9, x_newPlaces_8, x_newRule_6, x_newSlot_7) rfl h)

def rm_X10_write : Room := { frames := 1, cells := 0, slots := 0, locals := 25 }
theorem hd_X10_writeS : yX10_write.cls ≠ "java/lang/invoke/MethodHandle" ∧ yX10_write.cls ≠ "java/lang/invoke/VarHandle" ∧ (parseMethodDescriptor yX10_write.desc).map (fun d => d.parameters.length) = some 1 := by decide +kernel
theorem hd_X10_write : yX10_write.cls = RX10 ∧ yX10_write.cls ≠ "java/lang/invoke/MethodHandle" ∧ yX10_write.cls ≠ "java/lang/invoke/VarHandle" ∧ (parseMethodDescriptor yX10_write.desc).map (fun d => d.parameters.length) = some 1 := ⟨rfl, hd_X10_writeS⟩
set_option maxHeartbeats 4000000 in
set_option maxRecDepth 100000 in
theorem c_X10_write (V : ga_V) (a : Nat → Nat) (x_rules : Int32) (x_places : Int32) (x_newRules : Int32) (x_newPlaces : Int32) (x_acts : Int32) (x_kept : Int32) (x_next : Int32) (x_place : Int32) (x_isWrong : Int32) (x_parts : Int32) (x_without : Int32) (x_ways : Int32) (x_length : Int32) (x_text : Nat → Int32) (p1 : Int32) (K : Int32 → Int32 → (Nat → Int32) → Prop) (h : wp_X10_write x_length x_text p1 K) : ga_C V yX10_write wsX10_write rm_X10_write [.ref (a 0), .int p1] [(a 0, .inr (10, [.int x_rules, .int x_places, .ref (a 1), .ref (a 2), .ref (a 3), .int x_newRules, .int x_newPlaces, .ref (a 4), .ref (a 5), .ref (a 6), .ref (a 7), .ref (a 8), .int x_acts, .int x_kept, .int x_length, .ref (a 9), .int x_next, .int x_place, .int x_isWrong, .ref (a 10), .ref (a 11), .ref (a 12), .int x_parts, .int x_without, .ref (a 13), .ref (a 14), .ref (a 15), .ref (a 16), .int x_ways, .ref (a 17), .ref (a 18), .ref (a 19), .ref (a 20)])), (a 9, .inl (V.2 2, 200, .inl x_text))] 0 0 (ga_Fi (fun (u : Int32 × (Nat → Int32)) => [(a 0, .inr (10, [.int x_rules, .int x_places, .ref (a 1), .ref (a 2), .ref (a 3), .int x_newRules, .int x_newPlaces, .ref (a 4), .ref (a 5), .ref (a 6), .ref (a 7), .ref (a 8), .int x_acts, .int x_kept, .int u.1, .ref (a 9), .int x_next, .int x_place, .int x_isWrong, .ref (a 10), .ref (a 11), .ref (a 12), .int x_parts, .int x_without, .ref (a 13), .ref (a 14), .ref (a 15), .ref (a 16), .int x_ways, .ref (a 17), .ref (a 18), .ref (a 19), .ref (a 20)])), (a 9, .inl (V.2 2, 200, .inl u.2))]) (fun r u => K r u.1 u.2)) := by
  refine ga_met (cc := cX10_write) (maxL := 2) (rt := (some .int)) (by decide) rfl [(0, .ref (a 0)), (1, .int p1)] rfl (Nat.le_of_ble_eq_true rfl) ?_
  intro G hR hE
  have hinX10 : ∀ w ∈ u_ws RX10 TX10 33, w ∈ wsX10_write := by decide +kernel
  have f148 : Cond.fieldLink RX10 148 "BoundaryRulesModel" "length" "I" ∈ wsX10_write := by decide +kernel
  have f34 : Cond.fieldLink RX10 34 "BoundaryRulesModel" "text" "[B" ∈ wsX10_write := by decide +kernel
  unfold wp_X10_write at h
  refine ga_iload_n hR (pc := 0) 1 rfl rfl dX10_write_0 ?_
  refine ga_i2l hR (pc := 1) dX10_write_1 ?_
  refine ga_ldc2 hR (pc := 2) (v := lN 32) (by decide +kernel) dX10_write_2 ?_
  refine ga_ldc2 hR (pc := 5) (v := lN 126) (by decide +kernel) dX10_write_5 ?_
  refine ga_callS hR (pc := 8) (As := [.long p1.toInt64, .long (lN 32), .long (lN 126)]) (rest := []) (st0 := [.long (lN 126), .long (lN 32), .long p1.toInt64]) 3 (c_X10_in V p1.toInt64 (lN 32) (lN 126) _ h) (ga_same_i fun _ => rfl) gX10_write_X10_in rfl rfl rfl hd_X10_inS ⟨Nat.le_of_ble_eq_true rfl, Nat.le_of_ble_eq_true rfl⟩ rfl rfl (Nat.le_of_ble_eq_true rfl) ⟨Nat.zero_le _, Nat.zero_le _⟩ [] rfl rfl dX10_write_8 ?_
  rintro _ _ ⟨r_1, ⟨⟩, rfl, rfl, h⟩
  refine ga_to [(a 0, .inr (10, [.int x_rules, .int x_places, .ref (a 1), .ref (a 2), .ref (a 3), .int x_newRules, .int x_newPlaces, .ref (a 4), .ref (a 5), .ref (a 6), .ref (a 7), .ref (a 8), .int x_acts, .int x_kept, .int x_length, .ref (a 9), .int x_next, .int x_place, .int x_isWrong, .ref (a 10), .ref (a 11), .ref (a 12), .int x_parts, .int x_without, .ref (a 13), .ref (a 14), .ref (a 15), .ref (a 16), .int x_ways, .ref (a 17), .ref (a 18), .ref (a 19), .ref (a 20)])), (a 9, .inl (V.2 2, 200, .inl x_text))] [.int r_1] rfl rfl ?_
  try dsimp only at h
  refine ga_if_ne hR (pc := 11) 16 (by decide) dX10_write_11 (fun c11 => ?_) (fun c11 => ?_)
  · replace h := h.1 c11
    refine ga_aload_n hR (pc := 16) 0 rfl rfl dX10_write_16 ?_
    refine ga_get hR (pc := 17) 0 rfl rfl hinX10 14 (by decide) f148 rfl dX10_write_17 ?_
    refine ga_sipush hR (pc := 20) (v := nI 200) (by decide) dX10_write_20 ?_
    refine ga_icmp_ne hR (pc := 23) 29 (by decide) dX10_write_23 (fun c23 => ?_) (fun c23 => ?_)
    · replace h := h.1 c23
      refine ga_aload_n hR (pc := 29) 0 rfl rfl dX10_write_29 ?_
      refine ga_get hR (pc := 30) 0 rfl rfl hinX10 15 (by decide) f34 rfl dX10_write_30 ?_
      refine ga_aload_n hR (pc := 33) 0 rfl rfl dX10_write_33 ?_
      refine ga_get hR (pc := 34) 0 rfl rfl hinX10 14 (by decide) f148 rfl dX10_write_34 ?_
      refine ga_iload_n hR (pc := 37) 1 rfl rfl dX10_write_37 ?_
      refine ga_i2b hR (pc := 38) dX10_write_38 ?_
      refine ga_topi (fun t_2 et_2 => ?_)
      replace h := h t_2 et_2
      refine ga_bast hR (pc := 39) (ws' := [(a 0, .inr (10, [.int x_rules, .int x_places, .ref (a 1), .ref (a 2), .ref (a 3), .int x_newRules, .int x_newPlaces, .ref (a 4), .ref (a 5), .ref (a 6), .ref (a 7), .ref (a 8), .int x_acts, .int x_kept, .int x_length, .ref (a 9), .int x_next, .int x_place, .int x_isWrong, .ref (a 10), .ref (a 11), .ref (a 12), .int x_parts, .int x_without, .ref (a 13), .ref (a 14), .ref (a 15), .ref (a 16), .int x_ways, .ref (a 17), .ref (a 18), .ref (a 19), .ref (a 20)])), (a 9, .inl (V.2 2, 200, .inl ((upd x_text x_length.toNatClampNeg (vp_nar .byte t_2)))))]) 1 rfl h.1 rfl dX10_write_39 ?_
      replace h := h.2
      obtain ⟨x_text_3, ex_text_3⟩ : ∃ f : Nat → Int32, f = upd x_text x_length.toNatClampNeg (vp_nar .byte t_2) := ⟨_, rfl⟩
      refine ga_cast (ws' := [(a 0, .inr (10, [.int x_rules, .int x_places, .ref (a 1), .ref (a 2), .ref (a 3), .int x_newRules, .int x_newPlaces, .ref (a 4), .ref (a 5), .ref (a 6), .ref (a 7), .ref (a 8), .int x_acts, .int x_kept, .int x_length, .ref (a 9), .int x_next, .int x_place, .int x_isWrong, .ref (a 10), .ref (a 11), .ref (a 12), .int x_parts, .int x_without, .ref (a 13), .ref (a 14), .ref (a 15), .ref (a 16), .int x_ways, .ref (a 17), .ref (a 18), .ref (a 19), .ref (a 20)])), (a 9, .inl (V.2 2, 200, .inl x_text_3))]) (by rw [ex_text_3]) rfl ?_
      replace h := h x_text_3 ex_text_3
      refine ga_aload_n hR (pc := 40) 0 rfl rfl dX10_write_40 ?_
      refine ga_dup hR (pc := 41) rfl dX10_write_41 ?_
      refine ga_get hR (pc := 42) 0 rfl rfl hinX10 14 (by decide) f148 rfl dX10_write_42 ?_
      refine ga_iconst hR (pc := 45) (v := nI 1) (by decide) dX10_write_45 ?_
      refine ga_iadd hR (pc := 46) dX10_write_46 ?_
      refine ga_topi (fun x_length_4 ex_length_4 => ?_)
      replace h := h x_length_4 ex_length_4
      refine ga_putf hR (pc := 47) (ws' := [(a 0, .inr (10, [.int x_rules, .int x_places, .ref (a 1), .ref (a 2), .ref (a 3), .int x_newRules, .int x_newPlaces, .ref (a 4), .ref (a 5), .ref (a 6), .ref (a 7), .ref (a 8), .int x_acts, .int x_kept, .int x_length_4, .ref (a 9), .int x_next, .int x_place, .int x_isWrong, .ref (a 10), .ref (a 11), .ref (a 12), .int x_parts, .int x_without, .ref (a 13), .ref (a 14), .ref (a 15), .ref (a 16), .int x_ways, .ref (a 17), .ref (a 18), .ref (a 19), .ref (a 20)])), (a 9, .inl (V.2 2, 200, .inl x_text_3))]) 0 rfl rfl hinX10 14 (by decide) f148 tyX10_ok nmX10 rfl rfl rfl (Nat.le_of_ble_eq_true rfl) rfl dX10_write_47 ?_
      refine ga_aload_n hR (pc := 50) 0 rfl rfl dX10_write_50 ?_
      refine ga_get hR (pc := 51) 0 rfl rfl hinX10 14 (by decide) f148 rfl dX10_write_51 ?_
      exact ga_iret hE dX10_write_54 rfl (ga_ri (x_length_4, x_text_3) rfl h)
    · replace h := h.2 c23
      refine ga_bipush hR (pc := 26) (v := -3) (by decide) dX10_write_26 ?_
      exact ga_iret hE dX10_write_28 rfl (ga_ri (x_length, x_text) rfl h)
  · replace h := h.2 c11
    refine ga_iconst hR (pc := 14) (v := -1) (by decide) dX10_write_14 ?_
    exact ga_iret hE dX10_write_15 rfl (ga_ri (x_length, x_text) rfl h)

def rm_X10_wipe : Room := { frames := 0, cells := 0, slots := 0, locals := 0 }
theorem hd_X10_wipeS : yX10_wipe.cls ≠ "java/lang/invoke/MethodHandle" ∧ yX10_wipe.cls ≠ "java/lang/invoke/VarHandle" ∧ (parseMethodDescriptor yX10_wipe.desc).map (fun d => d.parameters.length) = some 0 := by decide +kernel
theorem hd_X10_wipe : yX10_wipe.cls = RX10 ∧ yX10_wipe.cls ≠ "java/lang/invoke/MethodHandle" ∧ yX10_wipe.cls ≠ "java/lang/invoke/VarHandle" ∧ (parseMethodDescriptor yX10_wipe.desc).map (fun d => d.parameters.length) = some 0 := ⟨rfl, hd_X10_wipeS⟩
set_option maxHeartbeats 4000000 in
set_option maxRecDepth 100000 in
theorem c_X10_wipe (V : ga_V) (a : Nat → Nat) (x_rules : Int32) (x_places : Int32) (x_newRules : Int32) (x_newPlaces : Int32) (x_acts : Int32) (x_kept : Int32) (x_next : Int32) (x_place : Int32) (x_isWrong : Int32) (x_parts : Int32) (x_without : Int32) (x_ways : Int32) (x_length : Int32) (K : Int32 → Int32 → Prop) (h : wp_X10_wipe x_length K) : ga_C V yX10_wipe wsX10_wipe rm_X10_wipe [.ref (a 0)] [(a 0, .inr (10, [.int x_rules, .int x_places, .ref (a 1), .ref (a 2), .ref (a 3), .int x_newRules, .int x_newPlaces, .ref (a 4), .ref (a 5), .ref (a 6), .ref (a 7), .ref (a 8), .int x_acts, .int x_kept, .int x_length, .ref (a 9), .int x_next, .int x_place, .int x_isWrong, .ref (a 10), .ref (a 11), .ref (a 12), .int x_parts, .int x_without, .ref (a 13), .ref (a 14), .ref (a 15), .ref (a 16), .int x_ways, .ref (a 17), .ref (a 18), .ref (a 19), .ref (a 20)]))] 0 0 (ga_Fi (fun (u : Int32) => [(a 0, .inr (10, [.int x_rules, .int x_places, .ref (a 1), .ref (a 2), .ref (a 3), .int x_newRules, .int x_newPlaces, .ref (a 4), .ref (a 5), .ref (a 6), .ref (a 7), .ref (a 8), .int x_acts, .int x_kept, .int u, .ref (a 9), .int x_next, .int x_place, .int x_isWrong, .ref (a 10), .ref (a 11), .ref (a 12), .int x_parts, .int x_without, .ref (a 13), .ref (a 14), .ref (a 15), .ref (a 16), .int x_ways, .ref (a 17), .ref (a 18), .ref (a 19), .ref (a 20)]))]) (fun r u => K r u)) := by
  refine ga_met (cc := cX10_wipe) (maxL := 2) (rt := (some .int)) (by decide) rfl [(0, .ref (a 0))] rfl (Nat.le_of_ble_eq_true rfl) ?_
  intro G hR hE
  have hinX10 : ∀ w ∈ u_ws RX10 TX10 33, w ∈ wsX10_wipe := by decide +kernel
  have f148 : Cond.fieldLink RX10 148 "BoundaryRulesModel" "length" "I" ∈ wsX10_wipe := by decide +kernel
  unfold wp_X10_wipe at h
  refine ga_aload_n hR (pc := 0) 0 rfl rfl dX10_wipe_0 ?_
  refine ga_get hR (pc := 1) 0 rfl rfl hinX10 14 (by decide) f148 rfl dX10_wipe_1 ?_
  refine ga_istore_n hR (pc := 4) (lv' := [(1, .int x_length), (0, .ref (a 0))]) rfl (by decide) rfl dX10_wipe_4 ?_
  refine ga_aload_n hR (pc := 5) 1 rfl rfl dX10_wipe_5 ?_
  refine ga_iconst hR (pc := 6) (v := nI 0) (by decide) dX10_wipe_6 ?_
  refine ga_putf hR (pc := 7) (ws' := [(a 0, .inr (10, [.int x_rules, .int x_places, .ref (a 1), .ref (a 2), .ref (a 3), .int x_newRules, .int x_newPlaces, .ref (a 4), .ref (a 5), .ref (a 6), .ref (a 7), .ref (a 8), .int x_acts, .int x_kept, .int (nI 0), .ref (a 9), .int x_next, .int x_place, .int x_isWrong, .ref (a 10), .ref (a 11), .ref (a 12), .int x_parts, .int x_without, .ref (a 13), .ref (a 14), .ref (a 15), .ref (a 16), .int x_ways, .ref (a 17), .ref (a 18), .ref (a 19), .ref (a 20)]))]) 0 rfl rfl hinX10 14 (by decide) f148 tyX10_ok nmX10 rfl rfl rfl (Nat.le_of_ble_eq_true rfl) rfl dX10_wipe_7 ?_
  refine ga_iload_n hR (pc := 10) 0 rfl rfl dX10_wipe_10 ?_
  exact ga_iret hE dX10_wipe_11 rfl (ga_ri (nI 0) rfl h)

def rm_X10_letterAt : Room := { frames := 0, cells := 0, slots := 0, locals := 0 }
theorem hd_X10_letterAtS : yX10_letterAt.cls ≠ "java/lang/invoke/MethodHandle" ∧ yX10_letterAt.cls ≠ "java/lang/invoke/VarHandle" ∧ (parseMethodDescriptor yX10_letterAt.desc).map (fun d => d.parameters.length) = some 1 := by decide +kernel
theorem hd_X10_letterAt : yX10_letterAt.cls = RX10 ∧ yX10_letterAt.cls ≠ "java/lang/invoke/MethodHandle" ∧ yX10_letterAt.cls ≠ "java/lang/invoke/VarHandle" ∧ (parseMethodDescriptor yX10_letterAt.desc).map (fun d => d.parameters.length) = some 1 := ⟨rfl, hd_X10_letterAtS⟩
set_option maxHeartbeats 4000000 in
set_option maxRecDepth 100000 in
theorem c_X10_letterAt (V : ga_V) (a : Nat → Nat) (x_rules : Int32) (x_places : Int32) (x_newRules : Int32) (x_newPlaces : Int32) (x_acts : Int32) (x_kept : Int32) (x_next : Int32) (x_place : Int32) (x_isWrong : Int32) (x_parts : Int32) (x_without : Int32) (x_ways : Int32) (x_length : Int32) (x_text : Nat → Int32) (p1 : Int32) (K : Int32 → Prop) (h : wp_X10_letterAt x_length x_text p1 K) : ga_C V yX10_letterAt wsX10_letterAt rm_X10_letterAt [.ref (a 0), .int p1] [(a 0, .inr (10, [.int x_rules, .int x_places, .ref (a 1), .ref (a 2), .ref (a 3), .int x_newRules, .int x_newPlaces, .ref (a 4), .ref (a 5), .ref (a 6), .ref (a 7), .ref (a 8), .int x_acts, .int x_kept, .int x_length, .ref (a 9), .int x_next, .int x_place, .int x_isWrong, .ref (a 10), .ref (a 11), .ref (a 12), .int x_parts, .int x_without, .ref (a 13), .ref (a 14), .ref (a 15), .ref (a 16), .int x_ways, .ref (a 17), .ref (a 18), .ref (a 19), .ref (a 20)])), (a 9, .inl (V.2 2, 200, .inl x_text))] 0 0 (ga_Fi (fun (u : Unit) => [(a 0, .inr (10, [.int x_rules, .int x_places, .ref (a 1), .ref (a 2), .ref (a 3), .int x_newRules, .int x_newPlaces, .ref (a 4), .ref (a 5), .ref (a 6), .ref (a 7), .ref (a 8), .int x_acts, .int x_kept, .int x_length, .ref (a 9), .int x_next, .int x_place, .int x_isWrong, .ref (a 10), .ref (a 11), .ref (a 12), .int x_parts, .int x_without, .ref (a 13), .ref (a 14), .ref (a 15), .ref (a 16), .int x_ways, .ref (a 17), .ref (a 18), .ref (a 19), .ref (a 20)])), (a 9, .inl (V.2 2, 200, .inl x_text))]) (fun r u => K r)) := by
  refine ga_met (cc := cX10_letterAt) (maxL := 2) (rt := (some .int)) (by decide) rfl [(0, .ref (a 0)), (1, .int p1)] rfl (Nat.le_of_ble_eq_true rfl) ?_
  intro G hR hE
  have hinX10 : ∀ w ∈ u_ws RX10 TX10 33, w ∈ wsX10_letterAt := by decide +kernel
  have f148 : Cond.fieldLink RX10 148 "BoundaryRulesModel" "length" "I" ∈ wsX10_letterAt := by decide +kernel
  have f34 : Cond.fieldLink RX10 34 "BoundaryRulesModel" "text" "[B" ∈ wsX10_letterAt := by decide +kernel
  unfold wp_X10_letterAt at h
  refine ga_iload_n hR (pc := 0) 1 rfl rfl dX10_letterAt_0 ?_
  refine ga_aload_n hR (pc := 1) 0 rfl rfl dX10_letterAt_1 ?_
  refine ga_get hR (pc := 2) 0 rfl rfl hinX10 14 (by decide) f148 rfl dX10_letterAt_2 ?_
  refine ga_icmp_ge hR (pc := 5) 17 (by decide) dX10_letterAt_5 (fun c5 => ?_) (fun c5 => ?_)
  · replace h := h.1 c5
    refine ga_iconst hR (pc := 17) (v := -1) (by decide) dX10_letterAt_17 ?_
    exact ga_iret hE dX10_letterAt_18 rfl (ga_ri () rfl h)
  · replace h := h.2 c5
    refine ga_aload_n hR (pc := 8) 0 rfl rfl dX10_letterAt_8 ?_
    refine ga_get hR (pc := 9) 0 rfl rfl hinX10 15 (by decide) f34 rfl dX10_letterAt_9 ?_
    refine ga_iload_n hR (pc := 12) 1 rfl rfl dX10_letterAt_12 ?_
    refine ga_bald hR (pc := 13) 1 rfl h.1 dX10_letterAt_13 ?_
    replace h := h.2
    refine ga_goto hR (pc := 14) 18 (by decide) dX10_letterAt_14 ?_
    exact ga_iret hE dX10_letterAt_18 rfl (ga_ri () rfl h)

def rm_X10_figure : Room := { frames := 1, cells := 0, slots := 0, locals := 25 }
theorem hd_X10_figureS : yX10_figure.cls ≠ "java/lang/invoke/MethodHandle" ∧ yX10_figure.cls ≠ "java/lang/invoke/VarHandle" ∧ (parseMethodDescriptor yX10_figure.desc).map (fun d => d.parameters.length) = some 2 := by decide +kernel
theorem hd_X10_figure : yX10_figure.cls = RX10 ∧ yX10_figure.cls ≠ "java/lang/invoke/MethodHandle" ∧ yX10_figure.cls ≠ "java/lang/invoke/VarHandle" ∧ (parseMethodDescriptor yX10_figure.desc).map (fun d => d.parameters.length) = some 2 := ⟨rfl, hd_X10_figureS⟩
set_option maxHeartbeats 4000000 in
set_option maxRecDepth 100000 in
theorem c_X10_figure (V : ga_V) (a : Nat → Nat) (x_rules : Int32) (x_places : Int32) (x_newRules : Int32) (x_newPlaces : Int32) (x_acts : Int32) (x_kept : Int32) (x_place : Int32) (x_parts : Int32) (x_without : Int32) (x_ways : Int32) (x_length : Int32) (x_next : Int32) (x_isWrong : Int32) (x_text : Nat → Int32) (p1 : Int32) (p2 : Int32) (K : Int32 → Int32 → Int32 → Prop) (h : wp_X10_figure x_length x_next x_isWrong x_text p1 p2 K) : ga_C V yX10_figure wsX10_figure rm_X10_figure [.ref (a 0), .int p1, .int p2] [(a 0, .inr (10, [.int x_rules, .int x_places, .ref (a 1), .ref (a 2), .ref (a 3), .int x_newRules, .int x_newPlaces, .ref (a 4), .ref (a 5), .ref (a 6), .ref (a 7), .ref (a 8), .int x_acts, .int x_kept, .int x_length, .ref (a 9), .int x_next, .int x_place, .int x_isWrong, .ref (a 10), .ref (a 11), .ref (a 12), .int x_parts, .int x_without, .ref (a 13), .ref (a 14), .ref (a 15), .ref (a 16), .int x_ways, .ref (a 17), .ref (a 18), .ref (a 19), .ref (a 20)])), (a 9, .inl (V.2 2, 200, .inl x_text))] 0 0 (ga_Fi (fun (u : Int32 × Int32) => [(a 0, .inr (10, [.int x_rules, .int x_places, .ref (a 1), .ref (a 2), .ref (a 3), .int x_newRules, .int x_newPlaces, .ref (a 4), .ref (a 5), .ref (a 6), .ref (a 7), .ref (a 8), .int x_acts, .int x_kept, .int x_length, .ref (a 9), .int u.1, .int x_place, .int u.2, .ref (a 10), .ref (a 11), .ref (a 12), .int x_parts, .int x_without, .ref (a 13), .ref (a 14), .ref (a 15), .ref (a 16), .int x_ways, .ref (a 17), .ref (a 18), .ref (a 19), .ref (a 20)])), (a 9, .inl (V.2 2, 200, .inl x_text))]) (fun r u => K r u.1 u.2)) := by
  refine ga_met (cc := cX10_figure) (maxL := 4) (rt := (some .int)) (by decide) rfl [(0, .ref (a 0)), (1, .int p1), (2, .int p2)] rfl (Nat.le_of_ble_eq_true rfl) ?_
  intro G hR hE
  have hinX10 : ∀ w ∈ u_ws RX10 TX10 33, w ∈ wsX10_figure := by decide +kernel
  have f151 : Cond.fieldLink RX10 151 "BoundaryRulesModel" "next" "I" ∈ wsX10_figure := by decide +kernel
  have f158 : Cond.fieldLink RX10 158 "BoundaryRulesModel" "isWrong" "Z" ∈ wsX10_figure := by decide +kernel
  unfold wp_X10_figure at h
  refine ga_aload_n hR (pc := 0) 0 rfl rfl dX10_figure_0 ?_
  refine ga_aload_n hR (pc := 1) 0 rfl rfl dX10_figure_1 ?_
  refine ga_get hR (pc := 2) 0 rfl rfl hinX10 16 (by decide) f151 rfl dX10_figure_2 ?_
  refine ga_callV hR (pc := 5) (As := [.int x_next]) (rest := []) (st0 := [.int x_next, .ref (a 0)]) (b := (a 0)) 1 (c_X10_letterAt V a x_rules x_places x_newRules x_newPlaces x_acts x_kept x_next x_place x_isWrong x_parts x_without x_ways x_length x_text x_next _ h) (ga_same_i fun _ => rfl) gX10_figure_X10_letterAt rfl rfl rfl hd_X10_letterAt ⟨Nat.le_of_ble_eq_true rfl, Nat.le_of_ble_eq_true rfl⟩ rfl rfl (Nat.le_of_ble_eq_true rfl) ⟨Nat.zero_le _, Nat.zero_le _⟩ [0, 1] rfl rfl 0 rfl rfl dX10_figure_5 ?_
  rintro _ _ ⟨r_1, ⟨⟩, rfl, rfl, h⟩
  refine ga_to [(a 0, .inr (10, [.int x_rules, .int x_places, .ref (a 1), .ref (a 2), .ref (a 3), .int x_newRules, .int x_newPlaces, .ref (a 4), .ref (a 5), .ref (a 6), .ref (a 7), .ref (a 8), .int x_acts, .int x_kept, .int x_length, .ref (a 9), .int x_next, .int x_place, .int x_isWrong, .ref (a 10), .ref (a 11), .ref (a 12), .int x_parts, .int x_without, .ref (a 13), .ref (a 14), .ref (a 15), .ref (a 16), .int x_ways, .ref (a 17), .ref (a 18), .ref (a 19), .ref (a 20)])), (a 9, .inl (V.2 2, 200, .inl x_text))] [.int r_1] rfl rfl ?_
  try dsimp only at h
  refine ga_bipush hR (pc := 8) (v := nI 48) (by decide) dX10_figure_8 ?_
  refine ga_isub hR (pc := 10) dX10_figure_10 ?_
  refine ga_topi (fun v3_2 ev3_2 => ?_)
  replace h := h v3_2 ev3_2
  refine ga_istore_n hR (pc := 11) (lv' := [(3, .int v3_2), (0, .ref (a 0)), (1, .int p1), (2, .int p2)]) rfl (by decide) rfl dX10_figure_11 ?_
  refine ga_aload_n hR (pc := 12) 1 rfl rfl dX10_figure_12 ?_
  refine ga_aload_n hR (pc := 13) 1 rfl rfl dX10_figure_13 ?_
  refine ga_get hR (pc := 14) 0 rfl rfl hinX10 18 (by decide) f158 rfl dX10_figure_14 ?_
  have hJ := h (fun (s1_3 : Int32) => G 0 0 [(a 0, .inr (10, [.int x_rules, .int x_places, .ref (a 1), .ref (a 2), .ref (a 3), .int x_newRules, .int x_newPlaces, .ref (a 4), .ref (a 5), .ref (a 6), .ref (a 7), .ref (a 8), .int x_acts, .int x_kept, .int x_length, .ref (a 9), .int x_next, .int x_place, .int x_isWrong, .ref (a 10), .ref (a 11), .ref (a 12), .int x_parts, .int x_without, .ref (a 13), .ref (a 14), .ref (a 15), .ref (a 16), .int x_ways, .ref (a 17), .ref (a 18), .ref (a 19), .ref (a 20)])), (a 9, .inl (V.2 2, 200, .inl x_text))] 58 [(0, .ref (a 0)), (3, .int v3_2)] [.int s1_3, .ref (a 0)])
  refine ga_bind hJ ?_ ?_
  · intro s1_3 h
    show G 0 0 [(a 0, .inr (10, [.int x_rules, .int x_places, .ref (a 1), .ref (a 2), .ref (a 3), .int x_newRules, .int x_newPlaces, .ref (a 4), .ref (a 5), .ref (a 6), .ref (a 7), .ref (a 8), .int x_acts, .int x_kept, .int x_length, .ref (a 9), .int x_next, .int x_place, .int x_isWrong, .ref (a 10), .ref (a 11), .ref (a 12), .int x_parts, .int x_without, .ref (a 13), .ref (a 14), .ref (a 15), .ref (a 16), .int x_ways, .ref (a 17), .ref (a 18), .ref (a 19), .ref (a 20)])), (a 9, .inl (V.2 2, 200, .inl x_text))] 58 [(0, .ref (a 0)), (3, .int v3_2)] [.int s1_3, .ref (a 0)]
    refine ga_putf hR (pc := 58) (ws' := [(a 0, .inr (10, [.int x_rules, .int x_places, .ref (a 1), .ref (a 2), .ref (a 3), .int x_newRules, .int x_newPlaces, .ref (a 4), .ref (a 5), .ref (a 6), .ref (a 7), .ref (a 8), .int x_acts, .int x_kept, .int x_length, .ref (a 9), .int x_next, .int x_place, .int s1_3, .ref (a 10), .ref (a 11), .ref (a 12), .int x_parts, .int x_without, .ref (a 13), .ref (a 14), .ref (a 15), .ref (a 16), .int x_ways, .ref (a 17), .ref (a 18), .ref (a 19), .ref (a 20)])), (a 9, .inl (V.2 2, 200, .inl x_text))]) 0 rfl rfl hinX10 18 (by decide) f158 tyX10_ok nmX10 rfl h.1.1 h.1.2 (Nat.le_of_ble_eq_true rfl) rfl dX10_figure_58 ?_
    replace h := h.2
    refine ga_aload_n hR (pc := 61) 0 rfl rfl dX10_figure_61 ?_
    refine ga_dup hR (pc := 62) rfl dX10_figure_62 ?_
    refine ga_get hR (pc := 63) 0 rfl rfl hinX10 16 (by decide) f151 rfl dX10_figure_63 ?_
    refine ga_iconst hR (pc := 66) (v := nI 1) (by decide) dX10_figure_66 ?_
    refine ga_iadd hR (pc := 67) dX10_figure_67 ?_
    refine ga_topi (fun x_next_5 ex_next_5 => ?_)
    replace h := h x_next_5 ex_next_5
    refine ga_putf hR (pc := 68) (ws' := [(a 0, .inr (10, [.int x_rules, .int x_places, .ref (a 1), .ref (a 2), .ref (a 3), .int x_newRules, .int x_newPlaces, .ref (a 4), .ref (a 5), .ref (a 6), .ref (a 7), .ref (a 8), .int x_acts, .int x_kept, .int x_length, .ref (a 9), .int x_next_5, .int x_place, .int s1_3, .ref (a 10), .ref (a 11), .ref (a 12), .int x_parts, .int x_without, .ref (a 13), .ref (a 14), .ref (a 15), .ref (a 16), .int x_ways, .ref (a 17), .ref (a 18), .ref (a 19), .ref (a 20)])), (a 9, .inl (V.2 2, 200, .inl x_text))]) 0 rfl rfl hinX10 16 (by decide) f151 tyX10_ok nmX10 rfl rfl rfl (Nat.le_of_ble_eq_true rfl) rfl dX10_figure_68 ?_
    refine ga_aload_n hR (pc := 71) 0 rfl rfl dX10_figure_71 ?_
    refine ga_get hR (pc := 72) 0 rfl rfl hinX10 18 (by decide) f158 rfl dX10_figure_72 ?_
    refine ga_if_eq hR (pc := 75) 82 (by decide) dX10_figure_75 (fun c75 => ?_) (fun c75 => ?_)
    · replace h := h.1 c75
      refine ga_iload_n hR (pc := 82) 1 rfl rfl dX10_figure_82 ?_
      exact ga_iret hE dX10_figure_83 rfl (ga_ri (x_next_5, s1_3) rfl h)
    · replace h := h.2 c75
      refine ga_iconst hR (pc := 78) (v := nI 0) (by decide) dX10_figure_78 ?_
      refine ga_goto hR (pc := 79) 83 (by decide) dX10_figure_79 ?_
      exact ga_iret hE dX10_figure_83 rfl (ga_ri (x_next_5, s1_3) rfl h)
  · intro h
    have hJ := h (G 0 0 [(a 0, .inr (10, [.int x_rules, .int x_places, .ref (a 1), .ref (a 2), .ref (a 3), .int x_newRules, .int x_newPlaces, .ref (a 4), .ref (a 5), .ref (a 6), .ref (a 7), .ref (a 8), .int x_acts, .int x_kept, .int x_length, .ref (a 9), .int x_next, .int x_place, .int x_isWrong, .ref (a 10), .ref (a 11), .ref (a 12), .int x_parts, .int x_without, .ref (a 13), .ref (a 14), .ref (a 15), .ref (a 16), .int x_ways, .ref (a 17), .ref (a 18), .ref (a 19), .ref (a 20)])), (a 9, .inl (V.2 2, 200, .inl x_text))] 53 [(0, .ref (a 0)), (3, .int v3_2)] [.ref (a 0)])
    refine ga_bind hJ ?_ ?_
    · intro h
      show G 0 0 [(a 0, .inr (10, [.int x_rules, .int x_places, .ref (a 1), .ref (a 2), .ref (a 3), .int x_newRules, .int x_newPlaces, .ref (a 4), .ref (a 5), .ref (a 6), .ref (a 7), .ref (a 8), .int x_acts, .int x_kept, .int x_length, .ref (a 9), .int x_next, .int x_place, .int x_isWrong, .ref (a 10), .ref (a 11), .ref (a 12), .int x_parts, .int x_without, .ref (a 13), .ref (a 14), .ref (a 15), .ref (a 16), .int x_ways, .ref (a 17), .ref (a 18), .ref (a 19), .ref (a 20)])), (a 9, .inl (V.2 2, 200, .inl x_text))] 53 [(0, .ref (a 0)), (3, .int v3_2)] [.ref (a 0)]
      refine ga_iconst hR (pc := 53) (v := nI 1) (by decide) dX10_figure_53 ?_
      refine ga_goto hR (pc := 54) 58 (by decide) dX10_figure_54 ?_
      exact ga_lv hR [0, 1] rfl h
    · intro h
      refine ga_if_ne hR (pc := 17) 53 (by decide) dX10_figure_17 (fun c17 => ?_) (fun c17 => ?_)
      · replace h := h.1 c17
        exact ga_lv hR [1, 0] rfl h
      · replace h := h.2 c17
        refine ga_aload_n hR (pc := 20) 1 rfl rfl dX10_figure_20 ?_
        refine ga_aload_n hR (pc := 21) 1 rfl rfl dX10_figure_21 ?_
        refine ga_get hR (pc := 22) 0 rfl rfl hinX10 16 (by decide) f151 rfl dX10_figure_22 ?_
        refine ga_callV hR (pc := 25) (As := [.int x_next]) (rest := [.ref (a 0)]) (st0 := [.int x_next, .ref (a 0), .ref (a 0)]) (b := (a 0)) 1 (c_X10_letterAt V a x_rules x_places x_newRules x_newPlaces x_acts x_kept x_next x_place x_isWrong x_parts x_without x_ways x_length x_text x_next _ h) (ga_same_i fun _ => rfl) gX10_figure_X10_letterAt rfl rfl rfl hd_X10_letterAt ⟨Nat.le_of_ble_eq_true rfl, Nat.le_of_ble_eq_true rfl⟩ rfl rfl (Nat.le_of_ble_eq_true rfl) ⟨Nat.zero_le _, Nat.zero_le _⟩ [0, 1] rfl rfl 0 rfl rfl dX10_figure_25 ?_
        rintro _ _ ⟨r_7, ⟨⟩, rfl, rfl, h⟩
        refine ga_to [(a 0, .inr (10, [.int x_rules, .int x_places, .ref (a 1), .ref (a 2), .ref (a 3), .int x_newRules, .int x_newPlaces, .ref (a 4), .ref (a 5), .ref (a 6), .ref (a 7), .ref (a 8), .int x_acts, .int x_kept, .int x_length, .ref (a 9), .int x_next, .int x_place, .int x_isWrong, .ref (a 10), .ref (a 11), .ref (a 12), .int x_parts, .int x_without, .ref (a 13), .ref (a 14), .ref (a 15), .ref (a 16), .int x_ways, .ref (a 17), .ref (a 18), .ref (a 19), .ref (a 20)])), (a 9, .inl (V.2 2, 200, .inl x_text))] [.int r_7, .ref (a 0)] rfl rfl ?_
        try dsimp only at h
        refine ga_i2l hR (pc := 28) dX10_figure_28 ?_
        refine ga_ldc2 hR (pc := 29) (v := lN 48) (by decide +kernel) dX10_figure_29 ?_
        refine ga_ldc2 hR (pc := 32) (v := lN 57) (by decide +kernel) dX10_figure_32 ?_
        refine ga_callS hR (pc := 35) (As := [.long r_7.toInt64, .long (lN 48), .long (lN 57)]) (rest := [.ref (a 0)]) (st0 := [.long (lN 57), .long (lN 48), .long r_7.toInt64, .ref (a 0)]) 3 (c_X10_in V r_7.toInt64 (lN 48) (lN 57) _ h) (ga_same_i fun _ => rfl) gX10_figure_X10_in rfl rfl rfl hd_X10_inS ⟨Nat.le_of_ble_eq_true rfl, Nat.le_of_ble_eq_true rfl⟩ rfl rfl (Nat.le_of_ble_eq_true rfl) ⟨Nat.zero_le _, Nat.zero_le _⟩ [] rfl rfl dX10_figure_35 ?_
        rintro _ _ ⟨r_8, ⟨⟩, rfl, rfl, h⟩
        refine ga_to [(a 0, .inr (10, [.int x_rules, .int x_places, .ref (a 1), .ref (a 2), .ref (a 3), .int x_newRules, .int x_newPlaces, .ref (a 4), .ref (a 5), .ref (a 6), .ref (a 7), .ref (a 8), .int x_acts, .int x_kept, .int x_length, .ref (a 9), .int x_next, .int x_place, .int x_isWrong, .ref (a 10), .ref (a 11), .ref (a 12), .int x_parts, .int x_without, .ref (a 13), .ref (a 14), .ref (a 15), .ref (a 16), .int x_ways, .ref (a 17), .ref (a 18), .ref (a 19), .ref (a 20)])), (a 9, .inl (V.2 2, 200, .inl x_text))] [.int r_8, .ref (a 0)] rfl rfl ?_
        try dsimp only at h
        refine ga_if_eq hR (pc := 38) 53 (by decide) dX10_figure_38 (fun c38 => ?_) (fun c38 => ?_)
        · replace h := h.1 c38
          exact ga_lv hR [1, 0] rfl h
        · replace h := h.2 c38
          refine ga_iload_n hR (pc := 41) 0 rfl rfl dX10_figure_41 ?_
          refine ga_i2l hR (pc := 42) dX10_figure_42 ?_
          refine ga_iload_n hR (pc := 43) 2 rfl rfl dX10_figure_43 ?_
          refine ga_i2l hR (pc := 44) dX10_figure_44 ?_
          refine ga_iload_n hR (pc := 45) 3 rfl rfl dX10_figure_45 ?_
          refine ga_i2l hR (pc := 46) dX10_figure_46 ?_
          refine ga_callS hR (pc := 47) (As := [.long v3_2.toInt64, .long p1.toInt64, .long p2.toInt64]) (rest := [.ref (a 0)]) (st0 := [.long p2.toInt64, .long p1.toInt64, .long v3_2.toInt64, .ref (a 0)]) 3 (c_X10_in V v3_2.toInt64 p1.toInt64 p2.toInt64 _ h) (ga_same_i fun _ => rfl) gX10_figure_X10_in rfl rfl rfl hd_X10_inS ⟨Nat.le_of_ble_eq_true rfl, Nat.le_of_ble_eq_true rfl⟩ rfl rfl (Nat.le_of_ble_eq_true rfl) ⟨Nat.zero_le _, Nat.zero_le _⟩ [] rfl rfl dX10_figure_47 ?_
          rintro _ _ ⟨r_9, ⟨⟩, rfl, rfl, h⟩
          refine ga_to [(a 0, .inr (10, [.int x_rules, .int x_places, .ref (a 1), .ref (a 2), .ref (a 3), .int x_newRules, .int x_newPlaces, .ref (a 4), .ref (a 5), .ref (a 6), .ref (a 7), .ref (a 8), .int x_acts, .int x_kept, .int x_length, .ref (a 9), .int x_next, .int x_place, .int x_isWrong, .ref (a 10), .ref (a 11), .ref (a 12), .int x_parts, .int x_without, .ref (a 13), .ref (a 14), .ref (a 15), .ref (a 16), .int x_ways, .ref (a 17), .ref (a 18), .ref (a 19), .ref (a 20)])), (a 9, .inl (V.2 2, 200, .inl x_text))] [.int r_9, .ref (a 0)] rfl rfl ?_
          try dsimp only at h
          refine ga_if_ne hR (pc := 50) 57 (by decide) dX10_figure_50 (fun c50 => ?_) (fun c50 => ?_)
          · replace h := h.1 c50
            refine ga_iconst hR (pc := 57) (v := nI 0) (by decide) dX10_figure_57 ?_
            exact ga_lv hR [1, 0] rfl h
          · replace h := h.2 c50
            exact ga_lv hR [1, 0] rfl h

def rm_X10_comma : Room := { frames := 1, cells := 0, slots := 0, locals := 21 }
theorem hd_X10_commaS : yX10_comma.cls ≠ "java/lang/invoke/MethodHandle" ∧ yX10_comma.cls ≠ "java/lang/invoke/VarHandle" ∧ (parseMethodDescriptor yX10_comma.desc).map (fun d => d.parameters.length) = some 0 := by decide +kernel
theorem hd_X10_comma : yX10_comma.cls = RX10 ∧ yX10_comma.cls ≠ "java/lang/invoke/MethodHandle" ∧ yX10_comma.cls ≠ "java/lang/invoke/VarHandle" ∧ (parseMethodDescriptor yX10_comma.desc).map (fun d => d.parameters.length) = some 0 := ⟨rfl, hd_X10_commaS⟩
set_option maxHeartbeats 4000000 in
set_option maxRecDepth 100000 in
theorem c_X10_comma (V : ga_V) (a : Nat → Nat) (x_rules : Int32) (x_places : Int32) (x_newRules : Int32) (x_newPlaces : Int32) (x_acts : Int32) (x_kept : Int32) (x_place : Int32) (x_parts : Int32) (x_without : Int32) (x_ways : Int32) (x_length : Int32) (x_next : Int32) (x_isWrong : Int32) (x_text : Nat → Int32) (K : Int32 → Int32 → Prop) (h : wp_X10_comma x_length x_next x_isWrong x_text K) : ga_C V yX10_comma wsX10_comma rm_X10_comma [.ref (a 0)] [(a 0, .inr (10, [.int x_rules, .int x_places, .ref (a 1), .ref (a 2), .ref (a 3), .int x_newRules, .int x_newPlaces, .ref (a 4), .ref (a 5), .ref (a 6), .ref (a 7), .ref (a 8), .int x_acts, .int x_kept, .int x_length, .ref (a 9), .int x_next, .int x_place, .int x_isWrong, .ref (a 10), .ref (a 11), .ref (a 12), .int x_parts, .int x_without, .ref (a 13), .ref (a 14), .ref (a 15), .ref (a 16), .int x_ways, .ref (a 17), .ref (a 18), .ref (a 19), .ref (a 20)])), (a 9, .inl (V.2 2, 200, .inl x_text))] 0 0 (ga_Fv (fun (u : Int32 × Int32) => [(a 0, .inr (10, [.int x_rules, .int x_places, .ref (a 1), .ref (a 2), .ref (a 3), .int x_newRules, .int x_newPlaces, .ref (a 4), .ref (a 5), .ref (a 6), .ref (a 7), .ref (a 8), .int x_acts, .int x_kept, .int x_length, .ref (a 9), .int u.1, .int x_place, .int u.2, .ref (a 10), .ref (a 11), .ref (a 12), .int x_parts, .int x_without, .ref (a 13), .ref (a 14), .ref (a 15), .ref (a 16), .int x_ways, .ref (a 17), .ref (a 18), .ref (a 19), .ref (a 20)])), (a 9, .inl (V.2 2, 200, .inl x_text))]) (fun u => K u.1 u.2)) := by
  refine ga_met (cc := cX10_comma) (maxL := 1) (rt := none) (by decide) rfl [(0, .ref (a 0))] rfl (Nat.le_of_ble_eq_true rfl) ?_
  intro G hR hE
  have hinX10 : ∀ w ∈ u_ws RX10 TX10 33, w ∈ wsX10_comma := by decide +kernel
  have f158 : Cond.fieldLink RX10 158 "BoundaryRulesModel" "isWrong" "Z" ∈ wsX10_comma := by decide +kernel
  have f151 : Cond.fieldLink RX10 151 "BoundaryRulesModel" "next" "I" ∈ wsX10_comma := by decide +kernel
  unfold wp_X10_comma at h
  refine ga_aload_n hR (pc := 0) 0 rfl rfl dX10_comma_0 ?_
  refine ga_aload_n hR (pc := 1) 0 rfl rfl dX10_comma_1 ?_
  refine ga_get hR (pc := 2) 0 rfl rfl hinX10 18 (by decide) f158 rfl dX10_comma_2 ?_
  have hJ := h (G 0 0 [(a 0, .inr (10, [.int x_rules, .int x_places, .ref (a 1), .ref (a 2), .ref (a 3), .int x_newRules, .int x_newPlaces, .ref (a 4), .ref (a 5), .ref (a 6), .ref (a 7), .ref (a 8), .int x_acts, .int x_kept, .int x_length, .ref (a 9), .int x_next, .int x_place, .int x_isWrong, .ref (a 10), .ref (a 11), .ref (a 12), .int x_parts, .int x_without, .ref (a 13), .ref (a 14), .ref (a 15), .ref (a 16), .int x_ways, .ref (a 17), .ref (a 18), .ref (a 19), .ref (a 20)])), (a 9, .inl (V.2 2, 200, .inl x_text))] 21 [(0, .ref (a 0))] [.ref (a 0)])
  refine ga_bind hJ ?_ ?_
  · intro h
    show G 0 0 [(a 0, .inr (10, [.int x_rules, .int x_places, .ref (a 1), .ref (a 2), .ref (a 3), .int x_newRules, .int x_newPlaces, .ref (a 4), .ref (a 5), .ref (a 6), .ref (a 7), .ref (a 8), .int x_acts, .int x_kept, .int x_length, .ref (a 9), .int x_next, .int x_place, .int x_isWrong, .ref (a 10), .ref (a 11), .ref (a 12), .int x_parts, .int x_without, .ref (a 13), .ref (a 14), .ref (a 15), .ref (a 16), .int x_ways, .ref (a 17), .ref (a 18), .ref (a 19), .ref (a 20)])), (a 9, .inl (V.2 2, 200, .inl x_text))] 21 [(0, .ref (a 0))] [.ref (a 0)]
    refine ga_iconst hR (pc := 21) (v := nI 1) (by decide) dX10_comma_21 ?_
    refine ga_goto hR (pc := 22) 26 (by decide) dX10_comma_22 ?_
    refine ga_putf hR (pc := 26) (ws' := [(a 0, .inr (10, [.int x_rules, .int x_places, .ref (a 1), .ref (a 2), .ref (a 3), .int x_newRules, .int x_newPlaces, .ref (a 4), .ref (a 5), .ref (a 6), .ref (a 7), .ref (a 8), .int x_acts, .int x_kept, .int x_length, .ref (a 9), .int x_next, .int x_place, .int (nI 1), .ref (a 10), .ref (a 11), .ref (a 12), .int x_parts, .int x_without, .ref (a 13), .ref (a 14), .ref (a 15), .ref (a 16), .int x_ways, .ref (a 17), .ref (a 18), .ref (a 19), .ref (a 20)])), (a 9, .inl (V.2 2, 200, .inl x_text))]) 0 rfl rfl hinX10 18 (by decide) f158 tyX10_ok nmX10 rfl (by decide) (by decide) (Nat.le_of_ble_eq_true rfl) rfl dX10_comma_26 ?_
    refine ga_aload_n hR (pc := 29) 0 rfl rfl dX10_comma_29 ?_
    refine ga_dup hR (pc := 30) rfl dX10_comma_30 ?_
    refine ga_get hR (pc := 31) 0 rfl rfl hinX10 16 (by decide) f151 rfl dX10_comma_31 ?_
    refine ga_iconst hR (pc := 34) (v := nI 1) (by decide) dX10_comma_34 ?_
    refine ga_iadd hR (pc := 35) dX10_comma_35 ?_
    refine ga_topi (fun x_next_2 ex_next_2 => ?_)
    replace h := h x_next_2 ex_next_2
    refine ga_putf hR (pc := 36) (ws' := [(a 0, .inr (10, [.int x_rules, .int x_places, .ref (a 1), .ref (a 2), .ref (a 3), .int x_newRules, .int x_newPlaces, .ref (a 4), .ref (a 5), .ref (a 6), .ref (a 7), .ref (a 8), .int x_acts, .int x_kept, .int x_length, .ref (a 9), .int x_next_2, .int x_place, .int (nI 1), .ref (a 10), .ref (a 11), .ref (a 12), .int x_parts, .int x_without, .ref (a 13), .ref (a 14), .ref (a 15), .ref (a 16), .int x_ways, .ref (a 17), .ref (a 18), .ref (a 19), .ref (a 20)])), (a 9, .inl (V.2 2, 200, .inl x_text))]) 0 rfl rfl hinX10 16 (by decide) f151 tyX10_ok nmX10 rfl rfl rfl (Nat.le_of_ble_eq_true rfl) rfl dX10_comma_36 ?_
    exact ga_vret hE dX10_comma_39 (ga_rv (x_next_2, nI 1) rfl h)
  · intro h
    refine ga_if_ne hR (pc := 5) 21 (by decide) dX10_comma_5 (fun c5 => ?_) (fun c5 => ?_)
    · replace h := h.1 c5
      exact ga_lv hR [0] rfl h
    · replace h := h.2 c5
      refine ga_aload_n hR (pc := 8) 0 rfl rfl dX10_comma_8 ?_
      refine ga_aload_n hR (pc := 9) 0 rfl rfl dX10_comma_9 ?_
      refine ga_get hR (pc := 10) 0 rfl rfl hinX10 16 (by decide) f151 rfl dX10_comma_10 ?_
      refine ga_callV hR (pc := 13) (As := [.int x_next]) (rest := [.ref (a 0)]) (st0 := [.int x_next, .ref (a 0), .ref (a 0)]) (b := (a 0)) 1 (c_X10_letterAt V a x_rules x_places x_newRules x_newPlaces x_acts x_kept x_next x_place x_isWrong x_parts x_without x_ways x_length x_text x_next _ h) (ga_same_i fun _ => rfl) gX10_comma_X10_letterAt rfl rfl rfl hd_X10_letterAt ⟨Nat.le_of_ble_eq_true rfl, Nat.le_of_ble_eq_true rfl⟩ rfl rfl (Nat.le_of_ble_eq_true rfl) ⟨Nat.zero_le _, Nat.zero_le _⟩ [0, 1] rfl rfl 0 rfl rfl dX10_comma_13 ?_
      rintro _ _ ⟨r_3, ⟨⟩, rfl, rfl, h⟩
      refine ga_to [(a 0, .inr (10, [.int x_rules, .int x_places, .ref (a 1), .ref (a 2), .ref (a 3), .int x_newRules, .int x_newPlaces, .ref (a 4), .ref (a 5), .ref (a 6), .ref (a 7), .ref (a 8), .int x_acts, .int x_kept, .int x_length, .ref (a 9), .int x_next, .int x_place, .int x_isWrong, .ref (a 10), .ref (a 11), .ref (a 12), .int x_parts, .int x_without, .ref (a 13), .ref (a 14), .ref (a 15), .ref (a 16), .int x_ways, .ref (a 17), .ref (a 18), .ref (a 19), .ref (a 20)])), (a 9, .inl (V.2 2, 200, .inl x_text))] [.int r_3, .ref (a 0)] rfl rfl ?_
      try dsimp only at h
      refine ga_bipush hR (pc := 16) (v := nI 44) (by decide) dX10_comma_16 ?_
      refine ga_icmp_eq hR (pc := 18) 25 (by decide) dX10_comma_18 (fun c18 => ?_) (fun c18 => ?_)
      · replace h := h.1 c18
        refine ga_iconst hR (pc := 25) (v := nI 0) (by decide) dX10_comma_25 ?_
        refine ga_putf hR (pc := 26) (ws' := [(a 0, .inr (10, [.int x_rules, .int x_places, .ref (a 1), .ref (a 2), .ref (a 3), .int x_newRules, .int x_newPlaces, .ref (a 4), .ref (a 5), .ref (a 6), .ref (a 7), .ref (a 8), .int x_acts, .int x_kept, .int x_length, .ref (a 9), .int x_next, .int x_place, .int (nI 0), .ref (a 10), .ref (a 11), .ref (a 12), .int x_parts, .int x_without, .ref (a 13), .ref (a 14), .ref (a 15), .ref (a 16), .int x_ways, .ref (a 17), .ref (a 18), .ref (a 19), .ref (a 20)])), (a 9, .inl (V.2 2, 200, .inl x_text))]) 0 rfl rfl hinX10 18 (by decide) f158 tyX10_ok nmX10 rfl (by decide) (by decide) (Nat.le_of_ble_eq_true rfl) rfl dX10_comma_26 ?_
        refine ga_aload_n hR (pc := 29) 0 rfl rfl dX10_comma_29 ?_
        refine ga_dup hR (pc := 30) rfl dX10_comma_30 ?_
        refine ga_get hR (pc := 31) 0 rfl rfl hinX10 16 (by decide) f151 rfl dX10_comma_31 ?_
        refine ga_iconst hR (pc := 34) (v := nI 1) (by decide) dX10_comma_34 ?_
        refine ga_iadd hR (pc := 35) dX10_comma_35 ?_
        refine ga_topi (fun x_next_4 ex_next_4 => ?_)
        replace h := h x_next_4 ex_next_4
        refine ga_putf hR (pc := 36) (ws' := [(a 0, .inr (10, [.int x_rules, .int x_places, .ref (a 1), .ref (a 2), .ref (a 3), .int x_newRules, .int x_newPlaces, .ref (a 4), .ref (a 5), .ref (a 6), .ref (a 7), .ref (a 8), .int x_acts, .int x_kept, .int x_length, .ref (a 9), .int x_next_4, .int x_place, .int (nI 0), .ref (a 10), .ref (a 11), .ref (a 12), .int x_parts, .int x_without, .ref (a 13), .ref (a 14), .ref (a 15), .ref (a 16), .int x_ways, .ref (a 17), .ref (a 18), .ref (a 19), .ref (a 20)])), (a 9, .inl (V.2 2, 200, .inl x_text))]) 0 rfl rfl hinX10 16 (by decide) f151 tyX10_ok nmX10 rfl rfl rfl (Nat.le_of_ble_eq_true rfl) rfl dX10_comma_36 ?_
        exact ga_vret hE dX10_comma_39 (ga_rv (x_next_4, nI 0) rfl h)
      · replace h := h.2 c18
        exact ga_lv hR [0] rfl h

def rm_X10_isLetter : Room := { frames := 1, cells := 0, slots := 0, locals := 25 }
theorem hd_X10_isLetterS : yX10_isLetter.cls ≠ "java/lang/invoke/MethodHandle" ∧ yX10_isLetter.cls ≠ "java/lang/invoke/VarHandle" ∧ (parseMethodDescriptor yX10_isLetter.desc).map (fun d => d.parameters.length) = some 0 := by decide +kernel
theorem hd_X10_isLetter : yX10_isLetter.cls = RX10 ∧ yX10_isLetter.cls ≠ "java/lang/invoke/MethodHandle" ∧ yX10_isLetter.cls ≠ "java/lang/invoke/VarHandle" ∧ (parseMethodDescriptor yX10_isLetter.desc).map (fun d => d.parameters.length) = some 0 := ⟨rfl, hd_X10_isLetterS⟩
set_option maxHeartbeats 4000000 in
set_option maxRecDepth 100000 in
theorem c_X10_isLetter (V : ga_V) (a : Nat → Nat) (x_rules : Int32) (x_places : Int32) (x_newRules : Int32) (x_newPlaces : Int32) (x_acts : Int32) (x_kept : Int32) (x_place : Int32) (x_isWrong : Int32) (x_parts : Int32) (x_without : Int32) (x_ways : Int32) (x_length : Int32) (x_next : Int32) (x_text : Nat → Int32) (K : Int32 → Prop) (h : wp_X10_isLetter x_length x_next x_text K) : ga_C V yX10_isLetter wsX10_isLetter rm_X10_isLetter [.ref (a 0)] [(a 0, .inr (10, [.int x_rules, .int x_places, .ref (a 1), .ref (a 2), .ref (a 3), .int x_newRules, .int x_newPlaces, .ref (a 4), .ref (a 5), .ref (a 6), .ref (a 7), .ref (a 8), .int x_acts, .int x_kept, .int x_length, .ref (a 9), .int x_next, .int x_place, .int x_isWrong, .ref (a 10), .ref (a 11), .ref (a 12), .int x_parts, .int x_without, .ref (a 13), .ref (a 14), .ref (a 15), .ref (a 16), .int x_ways, .ref (a 17), .ref (a 18), .ref (a 19), .ref (a 20)])), (a 9, .inl (V.2 2, 200, .inl x_text))] 0 0 (ga_Fi (fun (u : Unit) => [(a 0, .inr (10, [.int x_rules, .int x_places, .ref (a 1), .ref (a 2), .ref (a 3), .int x_newRules, .int x_newPlaces, .ref (a 4), .ref (a 5), .ref (a 6), .ref (a 7), .ref (a 8), .int x_acts, .int x_kept, .int x_length, .ref (a 9), .int x_next, .int x_place, .int x_isWrong, .ref (a 10), .ref (a 11), .ref (a 12), .int x_parts, .int x_without, .ref (a 13), .ref (a 14), .ref (a 15), .ref (a 16), .int x_ways, .ref (a 17), .ref (a 18), .ref (a 19), .ref (a 20)])), (a 9, .inl (V.2 2, 200, .inl x_text))]) (fun r u => K r)) := by
  refine ga_met (cc := cX10_isLetter) (maxL := 1) (rt := (some .boolean)) (by decide) rfl [(0, .ref (a 0))] rfl (Nat.le_of_ble_eq_true rfl) ?_
  intro G hR hE
  have hinX10 : ∀ w ∈ u_ws RX10 TX10 33, w ∈ wsX10_isLetter := by decide +kernel
  have f151 : Cond.fieldLink RX10 151 "BoundaryRulesModel" "next" "I" ∈ wsX10_isLetter := by decide +kernel
  unfold wp_X10_isLetter at h
  refine ga_aload_n hR (pc := 0) 0 rfl rfl dX10_isLetter_0 ?_
  refine ga_aload_n hR (pc := 1) 0 rfl rfl dX10_isLetter_1 ?_
  refine ga_get hR (pc := 2) 0 rfl rfl hinX10 16 (by decide) f151 rfl dX10_isLetter_2 ?_
  refine ga_callV hR (pc := 5) (As := [.int x_next]) (rest := []) (st0 := [.int x_next, .ref (a 0)]) (b := (a 0)) 1 (c_X10_letterAt V a x_rules x_places x_newRules x_newPlaces x_acts x_kept x_next x_place x_isWrong x_parts x_without x_ways x_length x_text x_next _ h) (ga_same_i fun _ => rfl) gX10_isLetter_X10_letterAt rfl rfl rfl hd_X10_letterAt ⟨Nat.le_of_ble_eq_true rfl, Nat.le_of_ble_eq_true rfl⟩ rfl rfl (Nat.le_of_ble_eq_true rfl) ⟨Nat.zero_le _, Nat.zero_le _⟩ [0, 1] rfl rfl 0 rfl rfl dX10_isLetter_5 ?_
  rintro _ _ ⟨r_1, ⟨⟩, rfl, rfl, h⟩
  refine ga_to [(a 0, .inr (10, [.int x_rules, .int x_places, .ref (a 1), .ref (a 2), .ref (a 3), .int x_newRules, .int x_newPlaces, .ref (a 4), .ref (a 5), .ref (a 6), .ref (a 7), .ref (a 8), .int x_acts, .int x_kept, .int x_length, .ref (a 9), .int x_next, .int x_place, .int x_isWrong, .ref (a 10), .ref (a 11), .ref (a 12), .int x_parts, .int x_without, .ref (a 13), .ref (a 14), .ref (a 15), .ref (a 16), .int x_ways, .ref (a 17), .ref (a 18), .ref (a 19), .ref (a 20)])), (a 9, .inl (V.2 2, 200, .inl x_text))] [.int r_1] rfl rfl ?_
  try dsimp only at h
  refine ga_i2l hR (pc := 8) dX10_isLetter_8 ?_
  refine ga_ldc2 hR (pc := 9) (v := lN 97) (by decide +kernel) dX10_isLetter_9 ?_
  refine ga_ldc2 hR (pc := 12) (v := lN 122) (by decide +kernel) dX10_isLetter_12 ?_
  refine ga_callS hR (pc := 15) (As := [.long r_1.toInt64, .long (lN 97), .long (lN 122)]) (rest := []) (st0 := [.long (lN 122), .long (lN 97), .long r_1.toInt64]) 3 (c_X10_in V r_1.toInt64 (lN 97) (lN 122) _ h) (ga_same_i fun _ => rfl) gX10_isLetter_X10_in rfl rfl rfl hd_X10_inS ⟨Nat.le_of_ble_eq_true rfl, Nat.le_of_ble_eq_true rfl⟩ rfl rfl (Nat.le_of_ble_eq_true rfl) ⟨Nat.zero_le _, Nat.zero_le _⟩ [] rfl rfl dX10_isLetter_15 ?_
  rintro _ _ ⟨r_2, ⟨⟩, rfl, rfl, h⟩
  refine ga_to [(a 0, .inr (10, [.int x_rules, .int x_places, .ref (a 1), .ref (a 2), .ref (a 3), .int x_newRules, .int x_newPlaces, .ref (a 4), .ref (a 5), .ref (a 6), .ref (a 7), .ref (a 8), .int x_acts, .int x_kept, .int x_length, .ref (a 9), .int x_next, .int x_place, .int x_isWrong, .ref (a 10), .ref (a 11), .ref (a 12), .int x_parts, .int x_without, .ref (a 13), .ref (a 14), .ref (a 15), .ref (a 16), .int x_ways, .ref (a 17), .ref (a 18), .ref (a 19), .ref (a 20)])), (a 9, .inl (V.2 2, 200, .inl x_text))] [.int r_2] rfl rfl ?_
  try dsimp only at h
  exact ga_iret hE dX10_isLetter_18 h.1 (ga_ri () rfl h.2)

def rm_X10_classItem : Room := { frames := 2, cells := 0, slots := 0, locals := 48 }
theorem hd_X10_classItemS : yX10_classItem.cls ≠ "java/lang/invoke/MethodHandle" ∧ yX10_classItem.cls ≠ "java/lang/invoke/VarHandle" ∧ (parseMethodDescriptor yX10_classItem.desc).map (fun d => d.parameters.length) = some 0 := by decide +kernel
theorem hd_X10_classItem : yX10_classItem.cls = RX10 ∧ yX10_classItem.cls ≠ "java/lang/invoke/MethodHandle" ∧ yX10_classItem.cls ≠ "java/lang/invoke/VarHandle" ∧ (parseMethodDescriptor yX10_classItem.desc).map (fun d => d.parameters.length) = some 0 := ⟨rfl, hd_X10_classItemS⟩
set_option maxHeartbeats 4000000 in
set_option maxRecDepth 100000 in
theorem c_X10_classItem (V : ga_V) (a : Nat → Nat) (x_rules : Int32) (x_places : Int32) (x_newRules : Int32) (x_newPlaces : Int32) (x_acts : Int32) (x_kept : Int32) (x_place : Int32) (x_parts : Int32) (x_without : Int32) (x_ways : Int32) (x_length : Int32) (x_next : Int32) (x_isWrong : Int32) (x_newSlot : Nat → Int32) (x_text : Nat → Int32) (K : Int32 → Int32 → (Nat → Int32) → Prop) (h : wp_X10_classItem x_length x_next x_isWrong x_newSlot x_text K) : ga_C V yX10_classItem wsX10_classItem rm_X10_classItem [.ref (a 0)] [(a 0, .inr (10, [.int x_rules, .int x_places, .ref (a 1), .ref (a 2), .ref (a 3), .int x_newRules, .int x_newPlaces, .ref (a 4), .ref (a 5), .ref (a 6), .ref (a 7), .ref (a 8), .int x_acts, .int x_kept, .int x_length, .ref (a 9), .int x_next, .int x_place, .int x_isWrong, .ref (a 10), .ref (a 11), .ref (a 12), .int x_parts, .int x_without, .ref (a 13), .ref (a 14), .ref (a 15), .ref (a 16), .int x_ways, .ref (a 17), .ref (a 18), .ref (a 19), .ref (a 20)])), (a 7, .inl (V.2 0, 61, .inl x_newSlot)), (a 9, .inl (V.2 2, 200, .inl x_text))] 0 0 (ga_Fv (fun (u : Int32 × Int32 × (Nat → Int32)) => [(a 0, .inr (10, [.int x_rules, .int x_places, .ref (a 1), .ref (a 2), .ref (a 3), .int x_newRules, .int x_newPlaces, .ref (a 4), .ref (a 5), .ref (a 6), .ref (a 7), .ref (a 8), .int x_acts, .int x_kept, .int x_length, .ref (a 9), .int u.1, .int x_place, .int u.2.1, .ref (a 10), .ref (a 11), .ref (a 12), .int x_parts, .int x_without, .ref (a 13), .ref (a 14), .ref (a 15), .ref (a 16), .int x_ways, .ref (a 17), .ref (a 18), .ref (a 19), .ref (a 20)])), (a 7, .inl (V.2 0, 61, .inl u.2.2)), (a 9, .inl (V.2 2, 200, .inl x_text))]) (fun u => K u.1 u.2.1 u.2.2)) := by
  refine ga_met (cc := cX10_classItem) (maxL := 3) (rt := none) (by decide) rfl [(0, .ref (a 0))] rfl (Nat.le_of_ble_eq_true rfl) ?_
  intro G hR hE
  have hinX10 : ∀ w ∈ u_ws RX10 TX10 33, w ∈ wsX10_classItem := by decide +kernel
  have f158 : Cond.fieldLink RX10 158 "BoundaryRulesModel" "isWrong" "Z" ∈ wsX10_classItem := by decide +kernel
  have f28 : Cond.fieldLink RX10 28 "BoundaryRulesModel" "newSlot" "[I" ∈ wsX10_classItem := by decide +kernel
  have f151 : Cond.fieldLink RX10 151 "BoundaryRulesModel" "next" "I" ∈ wsX10_classItem := by decide +kernel
  unfold wp_X10_classItem at h
  refine ga_aload_n hR (pc := 0) 0 rfl rfl dX10_classItem_0 ?_
  refine ga_iconst hR (pc := 1) (v := nI 0) (by decide) dX10_classItem_1 ?_
  refine ga_iconst hR (pc := 2) (v := nI 5) (by decide) dX10_classItem_2 ?_
  refine ga_callV hR (pc := 3) (As := [.int (nI 0), .int (nI 5)]) (rest := []) (st0 := [.int (nI 5), .int (nI 0), .ref (a 0)]) (b := (a 0)) 2 (c_X10_figure V a x_rules x_places x_newRules x_newPlaces x_acts x_kept x_place x_parts x_without x_ways x_length x_next x_isWrong x_text (nI 0) (nI 5) _ h) (ga_same_i fun _ => rfl) gX10_classItem_X10_figure rfl rfl rfl hd_X10_figure ⟨Nat.le_of_ble_eq_true rfl, Nat.le_of_ble_eq_true rfl⟩ rfl rfl (Nat.le_of_ble_eq_true rfl) ⟨Nat.zero_le _, Nat.zero_le _⟩ [0, 2] rfl rfl 0 rfl rfl dX10_classItem_3 ?_
  rintro _ _ ⟨r_3, ⟨x_next_1, x_isWrong_2⟩, rfl, rfl, h⟩
  refine ga_to [(a 0, .inr (10, [.int x_rules, .int x_places, .ref (a 1), .ref (a 2), .ref (a 3), .int x_newRules, .int x_newPlaces, .ref (a 4), .ref (a 5), .ref (a 6), .ref (a 7), .ref (a 8), .int x_acts, .int x_kept, .int x_length, .ref (a 9), .int x_next_1, .int x_place, .int x_isWrong_2, .ref (a 10), .ref (a 11), .ref (a 12), .int x_parts, .int x_without, .ref (a 13), .ref (a 14), .ref (a 15), .ref (a 16), .int x_ways, .ref (a 17), .ref (a 18), .ref (a 19), .ref (a 20)])), (a 7, .inl (V.2 0, 61, .inl x_newSlot)), (a 9, .inl (V.2 2, 200, .inl x_text))] [.int r_3] rfl rfl ?_
  try dsimp only at h
  refine ga_istore_n hR (pc := 6) (lv' := [(1, .int r_3), (0, .ref (a 0))]) rfl (by decide) rfl dX10_classItem_6 ?_
  refine ga_aload_n hR (pc := 7) 1 rfl rfl dX10_classItem_7 ?_
  refine ga_callV hR (pc := 8) (As := []) (rest := []) (st0 := [.ref (a 0)]) (b := (a 0)) 0 (c_X10_comma V a x_rules x_places x_newRules x_newPlaces x_acts x_kept x_place x_parts x_without x_ways x_length x_next_1 x_isWrong_2 x_text _ h) (ga_same_v fun _ => rfl) gX10_classItem_X10_comma rfl rfl rfl hd_X10_comma ⟨Nat.le_of_ble_eq_true rfl, Nat.le_of_ble_eq_true rfl⟩ rfl rfl (Nat.le_of_ble_eq_true rfl) ⟨Nat.zero_le _, Nat.zero_le _⟩ [0, 2] rfl rfl 0 rfl rfl dX10_classItem_8 ?_
  rintro _ _ ⟨⟨x_next_4, x_isWrong_5⟩, rfl, rfl, h⟩
  refine ga_to [(a 0, .inr (10, [.int x_rules, .int x_places, .ref (a 1), .ref (a 2), .ref (a 3), .int x_newRules, .int x_newPlaces, .ref (a 4), .ref (a 5), .ref (a 6), .ref (a 7), .ref (a 8), .int x_acts, .int x_kept, .int x_length, .ref (a 9), .int x_next_4, .int x_place, .int x_isWrong_5, .ref (a 10), .ref (a 11), .ref (a 12), .int x_parts, .int x_without, .ref (a 13), .ref (a 14), .ref (a 15), .ref (a 16), .int x_ways, .ref (a 17), .ref (a 18), .ref (a 19), .ref (a 20)])), (a 7, .inl (V.2 0, 61, .inl x_newSlot)), (a 9, .inl (V.2 2, 200, .inl x_text))] [] rfl rfl ?_
  try dsimp only at h
  refine ga_iconst hR (pc := 11) (v := nI 0) (by decide) dX10_classItem_11 ?_
  refine ga_istore_n hR (pc := 12) (lv' := [(2, .int (nI 0)), (1, .int r_3), (0, .ref (a 0))]) rfl (by decide) rfl dX10_classItem_12 ?_
  have hJ := h (fun (v2_6 : Int32) (x_next_7 : Int32) (x_isWrong_8 : Int32) (x_newSlot_9 : Nat → Int32) => G 0 0 [(a 0, .inr (10, [.int x_rules, .int x_places, .ref (a 1), .ref (a 2), .ref (a 3), .int x_newRules, .int x_newPlaces, .ref (a 4), .ref (a 5), .ref (a 6), .ref (a 7), .ref (a 8), .int x_acts, .int x_kept, .int x_length, .ref (a 9), .int x_next_7, .int x_place, .int x_isWrong_8, .ref (a 10), .ref (a 11), .ref (a 12), .int x_parts, .int x_without, .ref (a 13), .ref (a 14), .ref (a 15), .ref (a 16), .int x_ways, .ref (a 17), .ref (a 18), .ref (a 19), .ref (a 20)])), (a 7, .inl (V.2 0, 61, .inl x_newSlot_9)), (a 9, .inl (V.2 2, 200, .inl x_text))] 101 [(0, .ref (a 0)), (2, .int v2_6)] [])
  refine ga_bind hJ ?_ ?_
  · intro v2_6 x_next_7 x_isWrong_8 x_newSlot_9 h
    show G 0 0 [(a 0, .inr (10, [.int x_rules, .int x_places, .ref (a 1), .ref (a 2), .ref (a 3), .int x_newRules, .int x_newPlaces, .ref (a 4), .ref (a 5), .ref (a 6), .ref (a 7), .ref (a 8), .int x_acts, .int x_kept, .int x_length, .ref (a 9), .int x_next_7, .int x_place, .int x_isWrong_8, .ref (a 10), .ref (a 11), .ref (a 12), .int x_parts, .int x_without, .ref (a 13), .ref (a 14), .ref (a 15), .ref (a 16), .int x_ways, .ref (a 17), .ref (a 18), .ref (a 19), .ref (a 20)])), (a 7, .inl (V.2 0, 61, .inl x_newSlot_9)), (a 9, .inl (V.2 2, 200, .inl x_text))] 101 [(0, .ref (a 0)), (2, .int v2_6)] []
    refine ga_aload_n hR (pc := 101) 0 rfl rfl dX10_classItem_101 ?_
    refine ga_aload_n hR (pc := 102) 0 rfl rfl dX10_classItem_102 ?_
    refine ga_get hR (pc := 103) 0 rfl rfl hinX10 18 (by decide) f158 rfl dX10_classItem_103 ?_
    refine ga_if_ne hR (pc := 106) 113 (by decide) dX10_classItem_106 (fun c106 => ?_) (fun c106 => ?_)
    · replace h := h.1 c106
      refine ga_iconst hR (pc := 113) (v := nI 1) (by decide) dX10_classItem_113 ?_
      refine ga_goto hR (pc := 114) 118 (by decide) dX10_classItem_114 ?_
      refine ga_putf hR (pc := 118) (ws' := [(a 0, .inr (10, [.int x_rules, .int x_places, .ref (a 1), .ref (a 2), .ref (a 3), .int x_newRules, .int x_newPlaces, .ref (a 4), .ref (a 5), .ref (a 6), .ref (a 7), .ref (a 8), .int x_acts, .int x_kept, .int x_length, .ref (a 9), .int x_next_7, .int x_place, .int (nI 1), .ref (a 10), .ref (a 11), .ref (a 12), .int x_parts, .int x_without, .ref (a 13), .ref (a 14), .ref (a 15), .ref (a 16), .int x_ways, .ref (a 17), .ref (a 18), .ref (a 19), .ref (a 20)])), (a 7, .inl (V.2 0, 61, .inl x_newSlot_9)), (a 9, .inl (V.2 2, 200, .inl x_text))]) 0 rfl rfl hinX10 18 (by decide) f158 tyX10_ok nmX10 rfl (by decide) (by decide) (Nat.le_of_ble_eq_true rfl) rfl dX10_classItem_118 ?_
      exact ga_vret hE dX10_classItem_121 (ga_rv (x_next_7, nI 1, x_newSlot_9) rfl h)
    · replace h := h.2 c106
      refine ga_iload_n hR (pc := 109) 1 rfl rfl dX10_classItem_109 ?_
      refine ga_if_ne hR (pc := 110) 117 (by decide) dX10_classItem_110 (fun c110 => ?_) (fun c110 => ?_)
      · replace h := h.1 c110
        refine ga_iconst hR (pc := 117) (v := nI 0) (by decide) dX10_classItem_117 ?_
        refine ga_putf hR (pc := 118) (ws' := [(a 0, .inr (10, [.int x_rules, .int x_places, .ref (a 1), .ref (a 2), .ref (a 3), .int x_newRules, .int x_newPlaces, .ref (a 4), .ref (a 5), .ref (a 6), .ref (a 7), .ref (a 8), .int x_acts, .int x_kept, .int x_length, .ref (a 9), .int x_next_7, .int x_place, .int (nI 0), .ref (a 10), .ref (a 11), .ref (a 12), .int x_parts, .int x_without, .ref (a 13), .ref (a 14), .ref (a 15), .ref (a 16), .int x_ways, .ref (a 17), .ref (a 18), .ref (a 19), .ref (a 20)])), (a 7, .inl (V.2 0, 61, .inl x_newSlot_9)), (a 9, .inl (V.2 2, 200, .inl x_text))]) 0 rfl rfl hinX10 18 (by decide) f158 tyX10_ok nmX10 rfl (by decide) (by decide) (Nat.le_of_ble_eq_true rfl) rfl dX10_classItem_118 ?_
        exact ga_vret hE dX10_classItem_121 (ga_rv (x_next_7, nI 0, x_newSlot_9) rfl h)
      · replace h := h.2 c110
        refine ga_iconst hR (pc := 113) (v := nI 1) (by decide) dX10_classItem_113 ?_
        refine ga_goto hR (pc := 114) 118 (by decide) dX10_classItem_114 ?_
        refine ga_putf hR (pc := 118) (ws' := [(a 0, .inr (10, [.int x_rules, .int x_places, .ref (a 1), .ref (a 2), .ref (a 3), .int x_newRules, .int x_newPlaces, .ref (a 4), .ref (a 5), .ref (a 6), .ref (a 7), .ref (a 8), .int x_acts, .int x_kept, .int x_length, .ref (a 9), .int x_next_7, .int x_place, .int (nI 1), .ref (a 10), .ref (a 11), .ref (a 12), .int x_parts, .int x_without, .ref (a 13), .ref (a 14), .ref (a 15), .ref (a 16), .int x_ways, .ref (a 17), .ref (a 18), .ref (a 19), .ref (a 20)])), (a 7, .inl (V.2 0, 61, .inl x_newSlot_9)), (a 9, .inl (V.2 2, 200, .inl x_text))]) 0 rfl rfl hinX10 18 (by decide) f158 tyX10_ok nmX10 rfl (by decide) (by decide) (Nat.le_of_ble_eq_true rfl) rfl dX10_classItem_118 ?_
        exact ga_vret hE dX10_classItem_121 (ga_rv (x_next_7, nI 1, x_newSlot_9) rfl h)
  · intro h
    obtain ⟨n, h⟩ := h
    have L13 : ∀ (n : Nat) (v2_23 : Int32) (x_next_24 : Int32) (x_isWrong_25 : Int32) (x_newSlot_26 : Nat → Int32), lp_X10_classItem_13 x_length x_text r_3 (fun (v2_6 : Int32) (x_next_7 : Int32) (x_isWrong_8 : Int32) (x_newSlot_9 : Nat → Int32) => G 0 0 [(a 0, .inr (10, [.int x_rules, .int x_places, .ref (a 1), .ref (a 2), .ref (a 3), .int x_newRules, .int x_newPlaces, .ref (a 4), .ref (a 5), .ref (a 6), .ref (a 7), .ref (a 8), .int x_acts, .int x_kept, .int x_length, .ref (a 9), .int x_next_7, .int x_place, .int x_isWrong_8, .ref (a 10), .ref (a 11), .ref (a 12), .int x_parts, .int x_without, .ref (a 13), .ref (a 14), .ref (a 15), .ref (a 16), .int x_ways, .ref (a 17), .ref (a 18), .ref (a 19), .ref (a 20)])), (a 7, .inl (V.2 0, 61, .inl x_newSlot_9)), (a 9, .inl (V.2 2, 200, .inl x_text))] 101 [(0, .ref (a 0)), (2, .int v2_6)] []) n v2_23 x_next_24 x_isWrong_25 x_newSlot_26 → G 0 0 [(a 0, .inr (10, [.int x_rules, .int x_places, .ref (a 1), .ref (a 2), .ref (a 3), .int x_newRules, .int x_newPlaces, .ref (a 4), .ref (a 5), .ref (a 6), .ref (a 7), .ref (a 8), .int x_acts, .int x_kept, .int x_length, .ref (a 9), .int x_next_24, .int x_place, .int x_isWrong_25, .ref (a 10), .ref (a 11), .ref (a 12), .int x_parts, .int x_without, .ref (a 13), .ref (a 14), .ref (a 15), .ref (a 16), .int x_ways, .ref (a 17), .ref (a 18), .ref (a 19), .ref (a 20)])), (a 7, .inl (V.2 0, 61, .inl x_newSlot_26)), (a 9, .inl (V.2 2, 200, .inl x_text))] 13 [(0, .ref (a 0)), (1, .int r_3), (2, .int v2_23)] [] := by
      intro n
      induction n with
      | zero => exact fun _ _ _ _ h => False.elim h
      | succ n ih =>
        intro v2_23 x_next_24 x_isWrong_25 x_newSlot_26 h
        rw [lp_X10_classItem_13] at h
        refine ga_aload_n hR (pc := 13) 0 rfl rfl dX10_classItem_13 ?_
        refine ga_get hR (pc := 14) 0 rfl rfl hinX10 18 (by decide) f158 rfl dX10_classItem_14 ?_
        refine ga_if_ne hR (pc := 17) 101 (by decide) dX10_classItem_17 (fun c17 => ?_) (fun c17 => ?_)
        · replace h := h.1 c17
          exact ga_lv hR [0, 2] rfl h
        · replace h := h.2 c17
          refine ga_aload_n hR (pc := 20) 0 rfl rfl dX10_classItem_20 ?_
          refine ga_callV hR (pc := 21) (As := []) (rest := []) (st0 := [.ref (a 0)]) (b := (a 0)) 0 (c_X10_isLetter V a x_rules x_places x_newRules x_newPlaces x_acts x_kept x_place x_isWrong_25 x_parts x_without x_ways x_length x_next_24 x_text _ h) (ga_same_i fun _ => rfl) gX10_classItem_X10_isLetter rfl rfl rfl hd_X10_isLetter ⟨Nat.le_of_ble_eq_true rfl, Nat.le_of_ble_eq_true rfl⟩ rfl rfl (Nat.le_of_ble_eq_true rfl) ⟨Nat.zero_le _, Nat.zero_le _⟩ [0, 2] rfl rfl 0 rfl rfl dX10_classItem_21 ?_
          rintro _ _ ⟨r_27, ⟨⟩, rfl, rfl, h⟩
          refine ga_to [(a 0, .inr (10, [.int x_rules, .int x_places, .ref (a 1), .ref (a 2), .ref (a 3), .int x_newRules, .int x_newPlaces, .ref (a 4), .ref (a 5), .ref (a 6), .ref (a 7), .ref (a 8), .int x_acts, .int x_kept, .int x_length, .ref (a 9), .int x_next_24, .int x_place, .int x_isWrong_25, .ref (a 10), .ref (a 11), .ref (a 12), .int x_parts, .int x_without, .ref (a 13), .ref (a 14), .ref (a 15), .ref (a 16), .int x_ways, .ref (a 17), .ref (a 18), .ref (a 19), .ref (a 20)])), (a 7, .inl (V.2 0, 61, .inl x_newSlot_26)), (a 9, .inl (V.2 2, 200, .inl x_text))] [.int r_27] rfl rfl ?_
          try dsimp only at h
          refine ga_if_eq hR (pc := 24) 101 (by decide) dX10_classItem_24 (fun c24 => ?_) (fun c24 => ?_)
          · replace h := h.1 c24
            exact ga_lv hR [0, 2] rfl h
          · replace h := h.2 c24
            refine ga_aload_n hR (pc := 27) 0 rfl rfl dX10_classItem_27 ?_
            refine ga_iload_n hR (pc := 28) 2 rfl rfl dX10_classItem_28 ?_
            refine ga_bipush hR (pc := 29) (v := nI 26) (by decide) dX10_classItem_29 ?_
            have hJ := h (fun (s1_28 : Int32) => G 0 0 [(a 0, .inr (10, [.int x_rules, .int x_places, .ref (a 1), .ref (a 2), .ref (a 3), .int x_newRules, .int x_newPlaces, .ref (a 4), .ref (a 5), .ref (a 6), .ref (a 7), .ref (a 8), .int x_acts, .int x_kept, .int x_length, .ref (a 9), .int x_next_24, .int x_place, .int x_isWrong_25, .ref (a 10), .ref (a 11), .ref (a 12), .int x_parts, .int x_without, .ref (a 13), .ref (a 14), .ref (a 15), .ref (a 16), .int x_ways, .ref (a 17), .ref (a 18), .ref (a 19), .ref (a 20)])), (a 7, .inl (V.2 0, 61, .inl x_newSlot_26)), (a 9, .inl (V.2 2, 200, .inl x_text))] 39 [(0, .ref (a 0)), (1, .int r_3), (2, .int v2_23)] [.int s1_28, .ref (a 0)])
            refine ga_bind hJ ?_ ?_
            · intro s1_28 h
              show G 0 0 [(a 0, .inr (10, [.int x_rules, .int x_places, .ref (a 1), .ref (a 2), .ref (a 3), .int x_newRules, .int x_newPlaces, .ref (a 4), .ref (a 5), .ref (a 6), .ref (a 7), .ref (a 8), .int x_acts, .int x_kept, .int x_length, .ref (a 9), .int x_next_24, .int x_place, .int x_isWrong_25, .ref (a 10), .ref (a 11), .ref (a 12), .int x_parts, .int x_without, .ref (a 13), .ref (a 14), .ref (a 15), .ref (a 16), .int x_ways, .ref (a 17), .ref (a 18), .ref (a 19), .ref (a 20)])), (a 7, .inl (V.2 0, 61, .inl x_newSlot_26)), (a 9, .inl (V.2 2, 200, .inl x_text))] 39 [(0, .ref (a 0)), (1, .int r_3), (2, .int v2_23)] [.int s1_28, .ref (a 0)]
              refine ga_putf hR (pc := 39) (ws' := [(a 0, .inr (10, [.int x_rules, .int x_places, .ref (a 1), .ref (a 2), .ref (a 3), .int x_newRules, .int x_newPlaces, .ref (a 4), .ref (a 5), .ref (a 6), .ref (a 7), .ref (a 8), .int x_acts, .int x_kept, .int x_length, .ref (a 9), .int x_next_24, .int x_place, .int s1_28, .ref (a 10), .ref (a 11), .ref (a 12), .int x_parts, .int x_without, .ref (a 13), .ref (a 14), .ref (a 15), .ref (a 16), .int x_ways, .ref (a 17), .ref (a 18), .ref (a 19), .ref (a 20)])), (a 7, .inl (V.2 0, 61, .inl x_newSlot_26)), (a 9, .inl (V.2 2, 200, .inl x_text))]) 0 rfl rfl hinX10 18 (by decide) f158 tyX10_ok nmX10 rfl h.1.1 h.1.2 (Nat.le_of_ble_eq_true rfl) rfl dX10_classItem_39 ?_
              replace h := h.2
              refine ga_aload_n hR (pc := 42) 0 rfl rfl dX10_classItem_42 ?_
              refine ga_get hR (pc := 43) 0 rfl rfl hinX10 10 (by decide) f28 rfl dX10_classItem_43 ?_
              refine ga_aload_n hR (pc := 46) 0 rfl rfl dX10_classItem_46 ?_
              refine ga_aload_n hR (pc := 47) 0 rfl rfl dX10_classItem_47 ?_
              refine ga_get hR (pc := 48) 0 rfl rfl hinX10 16 (by decide) f151 rfl dX10_classItem_48 ?_
              refine ga_callV hR (pc := 51) (As := [.int x_next_24]) (rest := [.ref (a 7)]) (st0 := [.int x_next_24, .ref (a 0), .ref (a 7)]) (b := (a 0)) 1 (c_X10_letterAt V a x_rules x_places x_newRules x_newPlaces x_acts x_kept x_next_24 x_place s1_28 x_parts x_without x_ways x_length x_text x_next_24 _ h) (ga_same_i fun _ => rfl) gX10_classItem_X10_letterAt rfl rfl rfl hd_X10_letterAt ⟨Nat.le_of_ble_eq_true rfl, Nat.le_of_ble_eq_true rfl⟩ rfl rfl (Nat.le_of_ble_eq_true rfl) ⟨Nat.zero_le _, Nat.zero_le _⟩ [0, 2] rfl rfl 0 rfl rfl dX10_classItem_51 ?_
              rintro _ _ ⟨r_30, ⟨⟩, rfl, rfl, h⟩
              refine ga_to [(a 0, .inr (10, [.int x_rules, .int x_places, .ref (a 1), .ref (a 2), .ref (a 3), .int x_newRules, .int x_newPlaces, .ref (a 4), .ref (a 5), .ref (a 6), .ref (a 7), .ref (a 8), .int x_acts, .int x_kept, .int x_length, .ref (a 9), .int x_next_24, .int x_place, .int s1_28, .ref (a 10), .ref (a 11), .ref (a 12), .int x_parts, .int x_without, .ref (a 13), .ref (a 14), .ref (a 15), .ref (a 16), .int x_ways, .ref (a 17), .ref (a 18), .ref (a 19), .ref (a 20)])), (a 7, .inl (V.2 0, 61, .inl x_newSlot_26)), (a 9, .inl (V.2 2, 200, .inl x_text))] [.int r_30, .ref (a 7)] rfl rfl ?_
              try dsimp only at h
              refine ga_bipush hR (pc := 54) (v := nI 97) (by decide) dX10_classItem_54 ?_
              refine ga_isub hR (pc := 56) dX10_classItem_56 ?_
              refine ga_aload_n hR (pc := 57) 0 rfl rfl dX10_classItem_57 ?_
              refine ga_get hR (pc := 58) 0 rfl rfl hinX10 18 (by decide) f158 rfl dX10_classItem_58 ?_
              refine ga_if_eq hR (pc := 61) 83 (by decide) dX10_classItem_61 (fun c61 => ?_) (fun c61 => ?_)
              · replace h := h.1 c61
                refine ga_iload_n hR (pc := 83) 1 rfl rfl dX10_classItem_83 ?_
                refine ga_iast hR (pc := 84) (ws' := [(a 0, .inr (10, [.int x_rules, .int x_places, .ref (a 1), .ref (a 2), .ref (a 3), .int x_newRules, .int x_newPlaces, .ref (a 4), .ref (a 5), .ref (a 6), .ref (a 7), .ref (a 8), .int x_acts, .int x_kept, .int x_length, .ref (a 9), .int x_next_24, .int x_place, .int s1_28, .ref (a 10), .ref (a 11), .ref (a 12), .int x_parts, .int x_without, .ref (a 13), .ref (a 14), .ref (a 15), .ref (a 16), .int x_ways, .ref (a 17), .ref (a 18), .ref (a 19), .ref (a 20)])), (a 7, .inl (V.2 0, 61, .inl ((upd x_newSlot_26 (r_30 - (nI 97)).toNatClampNeg r_3)))), (a 9, .inl (V.2 2, 200, .inl x_text))]) 1 rfl h.1 rfl dX10_classItem_84 ?_
                replace h := h.2
                obtain ⟨x_newSlot_31, ex_newSlot_31⟩ : ∃ f : Nat → Int32, f = upd x_newSlot_26 (r_30 - (nI 97)).toNatClampNeg r_3 := ⟨_, rfl⟩
                refine ga_cast (ws' := [(a 0, .inr (10, [.int x_rules, .int x_places, .ref (a 1), .ref (a 2), .ref (a 3), .int x_newRules, .int x_newPlaces, .ref (a 4), .ref (a 5), .ref (a 6), .ref (a 7), .ref (a 8), .int x_acts, .int x_kept, .int x_length, .ref (a 9), .int x_next_24, .int x_place, .int s1_28, .ref (a 10), .ref (a 11), .ref (a 12), .int x_parts, .int x_without, .ref (a 13), .ref (a 14), .ref (a 15), .ref (a 16), .int x_ways, .ref (a 17), .ref (a 18), .ref (a 19), .ref (a 20)])), (a 7, .inl (V.2 0, 61, .inl x_newSlot_31)), (a 9, .inl (V.2 2, 200, .inl x_text))]) (by rw [ex_newSlot_31]) rfl ?_
                replace h := h x_newSlot_31 ex_newSlot_31
                obtain ⟨v2_32, ev2_32⟩ : ∃ v : Int32, v = v2_23 + (nI 1) := ⟨_, rfl⟩
                replace h := h v2_32 ev2_32
                refine ga_iinc hR (pc := 85) (lv' := [(2, .int v2_32), (0, .ref (a 0)), (1, .int r_3)]) 2 (by decide) rfl ev2_32 (by decide) rfl dX10_classItem_85 ?_
                refine ga_aload_n hR (pc := 88) 1 rfl rfl dX10_classItem_88 ?_
                refine ga_dup hR (pc := 89) rfl dX10_classItem_89 ?_
                refine ga_get hR (pc := 90) 0 rfl rfl hinX10 16 (by decide) f151 rfl dX10_classItem_90 ?_
                refine ga_iconst hR (pc := 93) (v := nI 1) (by decide) dX10_classItem_93 ?_
                refine ga_iadd hR (pc := 94) dX10_classItem_94 ?_
                refine ga_topi (fun x_next_33 ex_next_33 => ?_)
                replace h := h x_next_33 ex_next_33
                refine ga_putf hR (pc := 95) (ws' := [(a 0, .inr (10, [.int x_rules, .int x_places, .ref (a 1), .ref (a 2), .ref (a 3), .int x_newRules, .int x_newPlaces, .ref (a 4), .ref (a 5), .ref (a 6), .ref (a 7), .ref (a 8), .int x_acts, .int x_kept, .int x_length, .ref (a 9), .int x_next_33, .int x_place, .int s1_28, .ref (a 10), .ref (a 11), .ref (a 12), .int x_parts, .int x_without, .ref (a 13), .ref (a 14), .ref (a 15), .ref (a 16), .int x_ways, .ref (a 17), .ref (a 18), .ref (a 19), .ref (a 20)])), (a 7, .inl (V.2 0, 61, .inl x_newSlot_31)), (a 9, .inl (V.2 2, 200, .inl x_text))]) 0 rfl rfl hinX10 16 (by decide) f151 tyX10_ok nmX10 rfl rfl rfl (Nat.le_of_ble_eq_true rfl) rfl dX10_classItem_95 ?_
                refine ga_goto hR (pc := 98) 13 (by decide) dX10_classItem_98 ?_
                exact ga_lv hR [1, 2, 0] rfl (ih _ _ _ _ h)
              · replace h := h.2 c61
                refine ga_aload_n hR (pc := 64) 0 rfl rfl dX10_classItem_64 ?_
                refine ga_get hR (pc := 65) 0 rfl rfl hinX10 10 (by decide) f28 rfl dX10_classItem_65 ?_
                refine ga_aload_n hR (pc := 68) 0 rfl rfl dX10_classItem_68 ?_
                refine ga_aload_n hR (pc := 69) 0 rfl rfl dX10_classItem_69 ?_
                refine ga_get hR (pc := 70) 0 rfl rfl hinX10 16 (by decide) f151 rfl dX10_classItem_70 ?_
                refine ga_callV hR (pc := 73) (As := [.int x_next_24]) (rest := [.ref (a 7), .int (r_30 - (nI 97)), .ref (a 7)]) (st0 := [.int x_next_24, .ref (a 0), .ref (a 7), .int (r_30 - (nI 97)), .ref (a 7)]) (b := (a 0)) 1 (c_X10_letterAt V a x_rules x_places x_newRules x_newPlaces x_acts x_kept x_next_24 x_place s1_28 x_parts x_without x_ways x_length x_text x_next_24 _ h) (ga_same_i fun _ => rfl) gX10_classItem_X10_letterAt rfl rfl rfl hd_X10_letterAt ⟨Nat.le_of_ble_eq_true rfl, Nat.le_of_ble_eq_true rfl⟩ rfl rfl (Nat.le_of_ble_eq_true rfl) ⟨Nat.zero_le _, Nat.zero_le _⟩ [0, 2] rfl rfl 0 rfl rfl dX10_classItem_73 ?_
                rintro _ _ ⟨r_34, ⟨⟩, rfl, rfl, h⟩
                refine ga_to [(a 0, .inr (10, [.int x_rules, .int x_places, .ref (a 1), .ref (a 2), .ref (a 3), .int x_newRules, .int x_newPlaces, .ref (a 4), .ref (a 5), .ref (a 6), .ref (a 7), .ref (a 8), .int x_acts, .int x_kept, .int x_length, .ref (a 9), .int x_next_24, .int x_place, .int s1_28, .ref (a 10), .ref (a 11), .ref (a 12), .int x_parts, .int x_without, .ref (a 13), .ref (a 14), .ref (a 15), .ref (a 16), .int x_ways, .ref (a 17), .ref (a 18), .ref (a 19), .ref (a 20)])), (a 7, .inl (V.2 0, 61, .inl x_newSlot_26)), (a 9, .inl (V.2 2, 200, .inl x_text))] [.int r_34, .ref (a 7), .int (r_30 - (nI 97)), .ref (a 7)] rfl rfl ?_
                try dsimp only at h
                refine ga_bipush hR (pc := 76) (v := nI 97) (by decide) dX10_classItem_76 ?_
                refine ga_isub hR (pc := 78) dX10_classItem_78 ?_
                refine ga_iald hR (pc := 79) 1 rfl h.1 dX10_classItem_79 ?_
                replace h := h.2
                refine ga_goto hR (pc := 80) 84 (by decide) dX10_classItem_80 ?_
                refine ga_topi (fun t_35 et_35 => ?_)
                replace h := h t_35 et_35
                refine ga_iast hR (pc := 84) (ws' := [(a 0, .inr (10, [.int x_rules, .int x_places, .ref (a 1), .ref (a 2), .ref (a 3), .int x_newRules, .int x_newPlaces, .ref (a 4), .ref (a 5), .ref (a 6), .ref (a 7), .ref (a 8), .int x_acts, .int x_kept, .int x_length, .ref (a 9), .int x_next_24, .int x_place, .int s1_28, .ref (a 10), .ref (a 11), .ref (a 12), .int x_parts, .int x_without, .ref (a 13), .ref (a 14), .ref (a 15), .ref (a 16), .int x_ways, .ref (a 17), .ref (a 18), .ref (a 19), .ref (a 20)])), (a 7, .inl (V.2 0, 61, .inl ((upd x_newSlot_26 (r_30 - (nI 97)).toNatClampNeg t_35)))), (a 9, .inl (V.2 2, 200, .inl x_text))]) 1 rfl h.1 rfl dX10_classItem_84 ?_
                replace h := h.2
                obtain ⟨x_newSlot_36, ex_newSlot_36⟩ : ∃ f : Nat → Int32, f = upd x_newSlot_26 (r_30 - (nI 97)).toNatClampNeg t_35 := ⟨_, rfl⟩
                refine ga_cast (ws' := [(a 0, .inr (10, [.int x_rules, .int x_places, .ref (a 1), .ref (a 2), .ref (a 3), .int x_newRules, .int x_newPlaces, .ref (a 4), .ref (a 5), .ref (a 6), .ref (a 7), .ref (a 8), .int x_acts, .int x_kept, .int x_length, .ref (a 9), .int x_next_24, .int x_place, .int s1_28, .ref (a 10), .ref (a 11), .ref (a 12), .int x_parts, .int x_without, .ref (a 13), .ref (a 14), .ref (a 15), .ref (a 16), .int x_ways, .ref (a 17), .ref (a 18), .ref (a 19), .ref (a 20)])), (a 7, .inl (V.2 0, 61, .inl x_newSlot_36)), (a 9, .inl (V.2 2, 200, .inl x_text))]) (by rw [ex_newSlot_36]) rfl ?_
                replace h := h x_newSlot_36 ex_newSlot_36
                obtain ⟨v2_37, ev2_37⟩ : ∃ v : Int32, v = v2_23 + (nI 1) := ⟨_, rfl⟩
                replace h := h v2_37 ev2_37
                refine ga_iinc hR (pc := 85) (lv' := [(2, .int v2_37), (0, .ref (a 0)), (1, .int r_3)]) 2 (by decide) rfl ev2_37 (by decide) rfl dX10_classItem_85 ?_
                refine ga_aload_n hR (pc := 88) 1 rfl rfl dX10_classItem_88 ?_
                refine ga_dup hR (pc := 89) rfl dX10_classItem_89 ?_
                refine ga_get hR (pc := 90) 0 rfl rfl hinX10 16 (by decide) f151 rfl dX10_classItem_90 ?_
                refine ga_iconst hR (pc := 93) (v := nI 1) (by decide) dX10_classItem_93 ?_
                refine ga_iadd hR (pc := 94) dX10_classItem_94 ?_
                refine ga_topi (fun x_next_38 ex_next_38 => ?_)
                replace h := h x_next_38 ex_next_38
                refine ga_putf hR (pc := 95) (ws' := [(a 0, .inr (10, [.int x_rules, .int x_places, .ref (a 1), .ref (a 2), .ref (a 3), .int x_newRules, .int x_newPlaces, .ref (a 4), .ref (a 5), .ref (a 6), .ref (a 7), .ref (a 8), .int x_acts, .int x_kept, .int x_length, .ref (a 9), .int x_next_38, .int x_place, .int s1_28, .ref (a 10), .ref (a 11), .ref (a 12), .int x_parts, .int x_without, .ref (a 13), .ref (a 14), .ref (a 15), .ref (a 16), .int x_ways, .ref (a 17), .ref (a 18), .ref (a 19), .ref (a 20)])), (a 7, .inl (V.2 0, 61, .inl x_newSlot_36)), (a 9, .inl (V.2 2, 200, .inl x_text))]) 0 rfl rfl hinX10 16 (by decide) f151 tyX10_ok nmX10 rfl rfl rfl (Nat.le_of_ble_eq_true rfl) rfl dX10_classItem_95 ?_
                refine ga_goto hR (pc := 98) 13 (by decide) dX10_classItem_98 ?_
                exact ga_lv hR [1, 2, 0] rfl (ih _ _ _ _ h)
            · intro h
              refine ga_icmp_ne hR (pc := 31) 38 (by decide) dX10_classItem_31 (fun c31 => ?_) (fun c31 => ?_)
              · replace h := h.1 c31
                refine ga_iconst hR (pc := 38) (v := nI 0) (by decide) dX10_classItem_38 ?_
                exact ga_lv hR [0, 1, 2] rfl h
              · replace h := h.2 c31
                refine ga_iconst hR (pc := 34) (v := nI 1) (by decide) dX10_classItem_34 ?_
                refine ga_goto hR (pc := 35) 39 (by decide) dX10_classItem_35 ?_
                exact ga_lv hR [0, 1, 2] rfl h
    exact ga_lv hR [2, 1, 0] rfl (L13 n _ _ _ _ h)

def rm_X10_isAtom : Room := { frames := 1, cells := 0, slots := 0, locals := 25 }
theorem hd_X10_isAtomS : yX10_isAtom.cls ≠ "java/lang/invoke/MethodHandle" ∧ yX10_isAtom.cls ≠ "java/lang/invoke/VarHandle" ∧ (parseMethodDescriptor yX10_isAtom.desc).map (fun d => d.parameters.length) = some 1 := by decide +kernel
set_option maxHeartbeats 4000000 in
set_option maxRecDepth 100000 in
theorem c_X10_isAtom (V : ga_V) (p0 : Int32) (K : Int32 → Prop) (h : wp_X10_isAtom p0 K) : ga_C V yX10_isAtom wsX10_isAtom rm_X10_isAtom [.int p0] [] 0 0 (ga_Fi (fun (u : Unit) => []) (fun r u => K r)) := by
  refine ga_met (cc := cX10_isAtom) (maxL := 1) (rt := (some .boolean)) (by decide) rfl [(0, .int p0)] rfl (Nat.le_of_ble_eq_true rfl) ?_
  intro G hR hE
  unfold wp_X10_isAtom at h
  refine ga_iload_n hR (pc := 0) 0 rfl rfl dX10_isAtom_0 ?_
  refine ga_i2l hR (pc := 1) dX10_isAtom_1 ?_
  refine ga_ldc2 hR (pc := 2) (v := lN 48) (by decide +kernel) dX10_isAtom_2 ?_
  refine ga_ldc2 hR (pc := 5) (v := lN 53) (by decide +kernel) dX10_isAtom_5 ?_
  refine ga_callS hR (pc := 8) (As := [.long p0.toInt64, .long (lN 48), .long (lN 53)]) (rest := []) (st0 := [.long (lN 53), .long (lN 48), .long p0.toInt64]) 3 (c_X10_in V p0.toInt64 (lN 48) (lN 53) _ h) (ga_same_i fun _ => rfl) gX10_isAtom_X10_in rfl rfl rfl hd_X10_inS ⟨Nat.le_of_ble_eq_true rfl, Nat.le_of_ble_eq_true rfl⟩ rfl rfl (Nat.le_of_ble_eq_true rfl) ⟨Nat.zero_le _, Nat.zero_le _⟩ [] rfl rfl dX10_isAtom_8 ?_
  rintro _ _ ⟨r_1, ⟨⟩, rfl, rfl, h⟩
  refine ga_to [] [.int r_1] rfl rfl ?_
  try dsimp only at h
  refine ga_if_ne hR (pc := 11) 20 (by decide) dX10_isAtom_11 (fun c11 => ?_) (fun c11 => ?_)
  · replace h := h.1 c11
    refine ga_iconst hR (pc := 20) (v := nI 1) (by decide) dX10_isAtom_20 ?_
    refine ga_goto hR (pc := 21) 25 (by decide) dX10_isAtom_21 ?_
    exact ga_iret hE dX10_isAtom_25 (by decide) (ga_ri () rfl h)
  · replace h := h.2 c11
    refine ga_iload_n hR (pc := 14) 0 rfl rfl dX10_isAtom_14 ?_
    refine ga_bipush hR (pc := 15) (v := nI 46) (by decide) dX10_isAtom_15 ?_
    refine ga_icmp_ne hR (pc := 17) 24 (by decide) dX10_isAtom_17 (fun c17 => ?_) (fun c17 => ?_)
    · replace h := h.1 c17
      refine ga_iconst hR (pc := 24) (v := nI 0) (by decide) dX10_isAtom_24 ?_
      exact ga_iret hE dX10_isAtom_25 (by decide) (ga_ri () rfl h)
    · replace h := h.2 c17
      refine ga_iconst hR (pc := 20) (v := nI 1) (by decide) dX10_isAtom_20 ?_
      refine ga_goto hR (pc := 21) 25 (by decide) dX10_isAtom_21 ?_
      exact ga_iret hE dX10_isAtom_25 (by decide) (ga_ri () rfl h)

def rm_X10_ruleItem : Room := { frames := 4, cells := 0, slots := 0, locals := 84 }
theorem hd_X10_ruleItemS : yX10_ruleItem.cls ≠ "java/lang/invoke/MethodHandle" ∧ yX10_ruleItem.cls ≠ "java/lang/invoke/VarHandle" ∧ (parseMethodDescriptor yX10_ruleItem.desc).map (fun d => d.parameters.length) = some 0 := by decide +kernel
theorem hd_X10_ruleItem : yX10_ruleItem.cls = RX10 ∧ yX10_ruleItem.cls ≠ "java/lang/invoke/MethodHandle" ∧ yX10_ruleItem.cls ≠ "java/lang/invoke/VarHandle" ∧ (parseMethodDescriptor yX10_ruleItem.desc).map (fun d => d.parameters.length) = some 0 := ⟨rfl, hd_X10_ruleItemS⟩
set_option maxHeartbeats 4000000 in
set_option maxRecDepth 100000 in
theorem c_X10_ruleItem (V : ga_V) (a : Nat → Nat) (x_rules : Int32) (x_places : Int32) (x_acts : Int32) (x_kept : Int32) (x_place : Int32) (x_without : Int32) (x_ways : Int32) (x_newRules : Int32) (x_newPlaces : Int32) (x_length : Int32) (x_next : Int32) (x_isWrong : Int32) (x_parts : Int32) (x_newRule : Nat → Int32) (x_newTakes : Nat → Int32) (x_newBehind : Nat → Int32) (x_newSlot : Nat → Int32) (x_text : Nat → Int32) (x_firsts : Nat → Int32) (x_lasts : Nat → Int32) (x_mays : Nat → Int32) (K : Int32 → Int32 → Int32 → Int32 → Int32 → (Nat → Int32) → (Nat → Int32) → (Nat → Int32) → (Nat → Int32) → (Nat → Int32) → (Nat → Int32) → (Nat → Int32) → Prop) (h : wp_X10_ruleItem x_newRules x_newPlaces x_length x_next x_isWrong x_parts x_newRule x_newTakes x_newBehind x_newSlot x_text x_firsts x_lasts x_mays K) : ga_C V yX10_ruleItem wsX10_ruleItem rm_X10_ruleItem [.ref (a 0)] [(a 0, .inr (10, [.int x_rules, .int x_places, .ref (a 1), .ref (a 2), .ref (a 3), .int x_newRules, .int x_newPlaces, .ref (a 4), .ref (a 5), .ref (a 6), .ref (a 7), .ref (a 8), .int x_acts, .int x_kept, .int x_length, .ref (a 9), .int x_next, .int x_place, .int x_isWrong, .ref (a 10), .ref (a 11), .ref (a 12), .int x_parts, .int x_without, .ref (a 13), .ref (a 14), .ref (a 15), .ref (a 16), .int x_ways, .ref (a 17), .ref (a 18), .ref (a 19), .ref (a 20)])), (a 4, .inl (V.2 0, 12, .inl x_newRule)), (a 5, .inl (V.2 0, 10, .inl x_newTakes)), (a 6, .inl (V.2 0, 10, .inl x_newBehind)), (a 7, .inl (V.2 0, 61, .inl x_newSlot)), (a 9, .inl (V.2 2, 200, .inl x_text)), (a 10, .inl (V.2 0, 18, .inl x_firsts)), (a 11, .inl (V.2 0, 18, .inl x_lasts)), (a 12, .inl (V.2 1, 18, .inl x_mays))] 0 0 (ga_Fv (fun (u : Int32 × Int32 × Int32 × Int32 × Int32 × (Nat → Int32) × (Nat → Int32) × (Nat → Int32) × (Nat → Int32) × (Nat → Int32) × (Nat → Int32) × (Nat → Int32)) => [(a 0, .inr (10, [.int x_rules, .int x_places, .ref (a 1), .ref (a 2), .ref (a 3), .int u.1, .int u.2.1, .ref (a 4), .ref (a 5), .ref (a 6), .ref (a 7), .ref (a 8), .int x_acts, .int x_kept, .int x_length, .ref (a 9), .int u.2.2.1, .int x_place, .int u.2.2.2.1, .ref (a 10), .ref (a 11), .ref (a 12), .int u.2.2.2.2.1, .int x_without, .ref (a 13), .ref (a 14), .ref (a 15), .ref (a 16), .int x_ways, .ref (a 17), .ref (a 18), .ref (a 19), .ref (a 20)])), (a 4, .inl (V.2 0, 12, .inl u.2.2.2.2.2.1)), (a 5, .inl (V.2 0, 10, .inl u.2.2.2.2.2.2.1)), (a 6, .inl (V.2 0, 10, .inl u.2.2.2.2.2.2.2.1)), (a 7, .inl (V.2 0, 61, .inl u.2.2.2.2.2.2.2.2.1)), (a 9, .inl (V.2 2, 200, .inl x_text)), (a 10, .inl (V.2 0, 18, .inl u.2.2.2.2.2.2.2.2.2.1)), (a 11, .inl (V.2 0, 18, .inl u.2.2.2.2.2.2.2.2.2.2.1)), (a 12, .inl (V.2 1, 18, .inl u.2.2.2.2.2.2.2.2.2.2.2))]) (fun u => K u.1 u.2.1 u.2.2.1 u.2.2.2.1 u.2.2.2.2.1 u.2.2.2.2.2.1 u.2.2.2.2.2.2.1 u.2.2.2.2.2.2.2.1 u.2.2.2.2.2.2.2.2.1 u.2.2.2.2.2.2.2.2.2.1 u.2.2.2.2.2.2.2.2.2.2.1 u.2.2.2.2.2.2.2.2.2.2.2)) := by
  refine ga_met (cc := cX10_ruleItem) (maxL := 8) (rt := none) (by decide) rfl [(0, .ref (a 0))] rfl (Nat.le_of_ble_eq_true rfl) ?_
  intro G hR hE
  have hinX10 : ∀ w ∈ u_ws RX10 TX10 33, w ∈ wsX10_ruleItem := by decide +kernel
  have f107 : Cond.fieldLink RX10 107 "BoundaryRulesModel" "newRules" "I" ∈ wsX10_ruleItem := by decide +kernel
  have f158 : Cond.fieldLink RX10 158 "BoundaryRulesModel" "isWrong" "Z" ∈ wsX10_ruleItem := by decide +kernel
  have f151 : Cond.fieldLink RX10 151 "BoundaryRulesModel" "next" "I" ∈ wsX10_ruleItem := by decide +kernel
  have f111 : Cond.fieldLink RX10 111 "BoundaryRulesModel" "newPlaces" "I" ∈ wsX10_ruleItem := by decide +kernel
  unfold wp_X10_ruleItem at h
  refine ga_aload_n hR (pc := 0) 0 rfl rfl dX10_ruleItem_0 ?_
  refine ga_aload_n hR (pc := 1) 0 rfl rfl dX10_ruleItem_1 ?_
  refine ga_get hR (pc := 2) 0 rfl rfl hinX10 5 (by decide) f107 rfl dX10_ruleItem_2 ?_
  refine ga_iconst hR (pc := 5) (v := nI 4) (by decide) dX10_ruleItem_5 ?_
  have hJ := h (fun (s1_1 : Int32) => G 0 0 [(a 0, .inr (10, [.int x_rules, .int x_places, .ref (a 1), .ref (a 2), .ref (a 3), .int x_newRules, .int x_newPlaces, .ref (a 4), .ref (a 5), .ref (a 6), .ref (a 7), .ref (a 8), .int x_acts, .int x_kept, .int x_length, .ref (a 9), .int x_next, .int x_place, .int x_isWrong, .ref (a 10), .ref (a 11), .ref (a 12), .int x_parts, .int x_without, .ref (a 13), .ref (a 14), .ref (a 15), .ref (a 16), .int x_ways, .ref (a 17), .ref (a 18), .ref (a 19), .ref (a 20)])), (a 4, .inl (V.2 0, 12, .inl x_newRule)), (a 5, .inl (V.2 0, 10, .inl x_newTakes)), (a 6, .inl (V.2 0, 10, .inl x_newBehind)), (a 7, .inl (V.2 0, 61, .inl x_newSlot)), (a 9, .inl (V.2 2, 200, .inl x_text)), (a 10, .inl (V.2 0, 18, .inl x_firsts)), (a 11, .inl (V.2 0, 18, .inl x_lasts)), (a 12, .inl (V.2 1, 18, .inl x_mays))] 14 [(0, .ref (a 0))] [.int s1_1, .ref (a 0)])
  refine ga_bind hJ ?_ ?_
  · intro s1_1 h
    show G 0 0 [(a 0, .inr (10, [.int x_rules, .int x_places, .ref (a 1), .ref (a 2), .ref (a 3), .int x_newRules, .int x_newPlaces, .ref (a 4), .ref (a 5), .ref (a 6), .ref (a 7), .ref (a 8), .int x_acts, .int x_kept, .int x_length, .ref (a 9), .int x_next, .int x_place, .int x_isWrong, .ref (a 10), .ref (a 11), .ref (a 12), .int x_parts, .int x_without, .ref (a 13), .ref (a 14), .ref (a 15), .ref (a 16), .int x_ways, .ref (a 17), .ref (a 18), .ref (a 19), .ref (a 20)])), (a 4, .inl (V.2 0, 12, .inl x_newRule)), (a 5, .inl (V.2 0, 10, .inl x_newTakes)), (a 6, .inl (V.2 0, 10, .inl x_newBehind)), (a 7, .inl (V.2 0, 61, .inl x_newSlot)), (a 9, .inl (V.2 2, 200, .inl x_text)), (a 10, .inl (V.2 0, 18, .inl x_firsts)), (a 11, .inl (V.2 0, 18, .inl x_lasts)), (a 12, .inl (V.2 1, 18, .inl x_mays))] 14 [(0, .ref (a 0))] [.int s1_1, .ref (a 0)]
    refine ga_putf hR (pc := 14) (ws' := [(a 0, .inr (10, [.int x_rules, .int x_places, .ref (a 1), .ref (a 2), .ref (a 3), .int x_newRules, .int x_newPlaces, .ref (a 4), .ref (a 5), .ref (a 6), .ref (a 7), .ref (a 8), .int x_acts, .int x_kept, .int x_length, .ref (a 9), .int x_next, .int x_place, .int s1_1, .ref (a 10), .ref (a 11), .ref (a 12), .int x_parts, .int x_without, .ref (a 13), .ref (a 14), .ref (a 15), .ref (a 16), .int x_ways, .ref (a 17), .ref (a 18), .ref (a 19), .ref (a 20)])), (a 4, .inl (V.2 0, 12, .inl x_newRule)), (a 5, .inl (V.2 0, 10, .inl x_newTakes)), (a 6, .inl (V.2 0, 10, .inl x_newBehind)), (a 7, .inl (V.2 0, 61, .inl x_newSlot)), (a 9, .inl (V.2 2, 200, .inl x_text)), (a 10, .inl (V.2 0, 18, .inl x_firsts)), (a 11, .inl (V.2 0, 18, .inl x_lasts)), (a 12, .inl (V.2 1, 18, .inl x_mays))]) 0 rfl rfl hinX10 18 (by decide) f158 tyX10_ok nmX10 rfl h.1.1 h.1.2 (Nat.le_of_ble_eq_true rfl) rfl dX10_ruleItem_14 ?_
    replace h := h.2
    refine ga_aload_n hR (pc := 17) 0 rfl rfl dX10_ruleItem_17 ?_
    refine ga_iconst hR (pc := 18) (v := nI 0) (by decide) dX10_ruleItem_18 ?_
    refine ga_iconst hR (pc := 19) (v := nI 3) (by decide) dX10_ruleItem_19 ?_
    refine ga_callV hR (pc := 20) (As := [.int (nI 0), .int (nI 3)]) (rest := []) (st0 := [.int (nI 3), .int (nI 0), .ref (a 0)]) (b := (a 0)) 2 (c_X10_figure V a x_rules x_places x_newRules x_newPlaces x_acts x_kept x_place x_parts x_without x_ways x_length x_next s1_1 x_text (nI 0) (nI 3) _ h) (ga_same_i fun _ => rfl) gX10_ruleItem_X10_figure rfl rfl rfl hd_X10_figure ⟨Nat.le_of_ble_eq_true rfl, Nat.le_of_ble_eq_true rfl⟩ rfl rfl (Nat.le_of_ble_eq_true rfl) ⟨Nat.zero_le _, Nat.zero_le _⟩ [0, 5] rfl rfl 0 rfl rfl dX10_ruleItem_20 ?_
    rintro _ _ ⟨r_5, ⟨x_next_3, x_isWrong_4⟩, rfl, rfl, h⟩
    refine ga_to [(a 0, .inr (10, [.int x_rules, .int x_places, .ref (a 1), .ref (a 2), .ref (a 3), .int x_newRules, .int x_newPlaces, .ref (a 4), .ref (a 5), .ref (a 6), .ref (a 7), .ref (a 8), .int x_acts, .int x_kept, .int x_length, .ref (a 9), .int x_next_3, .int x_place, .int x_isWrong_4, .ref (a 10), .ref (a 11), .ref (a 12), .int x_parts, .int x_without, .ref (a 13), .ref (a 14), .ref (a 15), .ref (a 16), .int x_ways, .ref (a 17), .ref (a 18), .ref (a 19), .ref (a 20)])), (a 4, .inl (V.2 0, 12, .inl x_newRule)), (a 5, .inl (V.2 0, 10, .inl x_newTakes)), (a 6, .inl (V.2 0, 10, .inl x_newBehind)), (a 7, .inl (V.2 0, 61, .inl x_newSlot)), (a 9, .inl (V.2 2, 200, .inl x_text)), (a 10, .inl (V.2 0, 18, .inl x_firsts)), (a 11, .inl (V.2 0, 18, .inl x_lasts)), (a 12, .inl (V.2 1, 18, .inl x_mays))] [.int r_5] rfl rfl ?_
    try dsimp only at h
    refine ga_istore_n hR (pc := 23) (lv' := [(1, .int r_5), (0, .ref (a 0))]) rfl (by decide) rfl dX10_ruleItem_23 ?_
    refine ga_aload_n hR (pc := 24) 1 rfl rfl dX10_ruleItem_24 ?_
    refine ga_callV hR (pc := 25) (As := []) (rest := []) (st0 := [.ref (a 0)]) (b := (a 0)) 0 (c_X10_comma V a x_rules x_places x_newRules x_newPlaces x_acts x_kept x_place x_parts x_without x_ways x_length x_next_3 x_isWrong_4 x_text _ h) (ga_same_v fun _ => rfl) gX10_ruleItem_X10_comma rfl rfl rfl hd_X10_comma ⟨Nat.le_of_ble_eq_true rfl, Nat.le_of_ble_eq_true rfl⟩ rfl rfl (Nat.le_of_ble_eq_true rfl) ⟨Nat.zero_le _, Nat.zero_le _⟩ [0, 5] rfl rfl 0 rfl rfl dX10_ruleItem_25 ?_
    rintro _ _ ⟨⟨x_next_6, x_isWrong_7⟩, rfl, rfl, h⟩
    refine ga_to [(a 0, .inr (10, [.int x_rules, .int x_places, .ref (a 1), .ref (a 2), .ref (a 3), .int x_newRules, .int x_newPlaces, .ref (a 4), .ref (a 5), .ref (a 6), .ref (a 7), .ref (a 8), .int x_acts, .int x_kept, .int x_length, .ref (a 9), .int x_next_6, .int x_place, .int x_isWrong_7, .ref (a 10), .ref (a 11), .ref (a 12), .int x_parts, .int x_without, .ref (a 13), .ref (a 14), .ref (a 15), .ref (a 16), .int x_ways, .ref (a 17), .ref (a 18), .ref (a 19), .ref (a 20)])), (a 4, .inl (V.2 0, 12, .inl x_newRule)), (a 5, .inl (V.2 0, 10, .inl x_newTakes)), (a 6, .inl (V.2 0, 10, .inl x_newBehind)), (a 7, .inl (V.2 0, 61, .inl x_newSlot)), (a 9, .inl (V.2 2, 200, .inl x_text)), (a 10, .inl (V.2 0, 18, .inl x_firsts)), (a 11, .inl (V.2 0, 18, .inl x_lasts)), (a 12, .inl (V.2 1, 18, .inl x_mays))] [] rfl rfl ?_
    try dsimp only at h
    refine ga_aload_n hR (pc := 28) 1 rfl rfl dX10_ruleItem_28 ?_
    refine ga_get hR (pc := 29) 0 rfl rfl hinX10 16 (by decide) f151 rfl dX10_ruleItem_29 ?_
    refine ga_istore_n hR (pc := 32) (lv' := [(2, .int x_next_6), (1, .int r_5), (0, .ref (a 0))]) rfl (by decide) rfl dX10_ruleItem_32 ?_
    refine ga_iconst hR (pc := 33) (v := nI 1) (by decide) dX10_ruleItem_33 ?_
    refine ga_istore_n hR (pc := 34) (lv' := [(3, .int (nI 1)), (2, .int x_next_6), (1, .int r_5), (0, .ref (a 0))]) rfl (by decide) rfl dX10_ruleItem_34 ?_
    refine ga_iconst hR (pc := 35) (v := nI 0) (by decide) dX10_ruleItem_35 ?_
    refine ga_istore hR (pc := 36) (lv' := [(4, .int (nI 0)), (3, .int (nI 1)), (2, .int x_next_6), (1, .int r_5), (0, .ref (a 0))]) (by decide) rfl dX10_ruleItem_36 ?_
    have hJ := h (fun (v4_8 : Int32) (x_next_9 : Int32) (x_isWrong_10 : Int32) => G 0 0 [(a 0, .inr (10, [.int x_rules, .int x_places, .ref (a 1), .ref (a 2), .ref (a 3), .int x_newRules, .int x_newPlaces, .ref (a 4), .ref (a 5), .ref (a 6), .ref (a 7), .ref (a 8), .int x_acts, .int x_kept, .int x_length, .ref (a 9), .int x_next_9, .int x_place, .int x_isWrong_10, .ref (a 10), .ref (a 11), .ref (a 12), .int x_parts, .int x_without, .ref (a 13), .ref (a 14), .ref (a 15), .ref (a 16), .int x_ways, .ref (a 17), .ref (a 18), .ref (a 19), .ref (a 20)])), (a 4, .inl (V.2 0, 12, .inl x_newRule)), (a 5, .inl (V.2 0, 10, .inl x_newTakes)), (a 6, .inl (V.2 0, 10, .inl x_newBehind)), (a 7, .inl (V.2 0, 61, .inl x_newSlot)), (a 9, .inl (V.2 2, 200, .inl x_text)), (a 10, .inl (V.2 0, 18, .inl x_firsts)), (a 11, .inl (V.2 0, 18, .inl x_lasts)), (a 12, .inl (V.2 1, 18, .inl x_mays))] 199 [(0, .ref (a 0)), (1, .int r_5), (2, .int x_next_6), (4, .int v4_8)] [])
    refine ga_bind hJ ?_ ?_
    · intro v4_8 x_next_9 x_isWrong_10 h
      show G 0 0 [(a 0, .inr (10, [.int x_rules, .int x_places, .ref (a 1), .ref (a 2), .ref (a 3), .int x_newRules, .int x_newPlaces, .ref (a 4), .ref (a 5), .ref (a 6), .ref (a 7), .ref (a 8), .int x_acts, .int x_kept, .int x_length, .ref (a 9), .int x_next_9, .int x_place, .int x_isWrong_10, .ref (a 10), .ref (a 11), .ref (a 12), .int x_parts, .int x_without, .ref (a 13), .ref (a 14), .ref (a 15), .ref (a 16), .int x_ways, .ref (a 17), .ref (a 18), .ref (a 19), .ref (a 20)])), (a 4, .inl (V.2 0, 12, .inl x_newRule)), (a 5, .inl (V.2 0, 10, .inl x_newTakes)), (a 6, .inl (V.2 0, 10, .inl x_newBehind)), (a 7, .inl (V.2 0, 61, .inl x_newSlot)), (a 9, .inl (V.2 2, 200, .inl x_text)), (a 10, .inl (V.2 0, 18, .inl x_firsts)), (a 11, .inl (V.2 0, 18, .inl x_lasts)), (a 12, .inl (V.2 1, 18, .inl x_mays))] 199 [(0, .ref (a 0)), (1, .int r_5), (2, .int x_next_6), (4, .int v4_8)] []
      refine ga_aload_n hR (pc := 199) 0 rfl rfl dX10_ruleItem_199 ?_
      refine ga_aload_n hR (pc := 200) 0 rfl rfl dX10_ruleItem_200 ?_
      refine ga_get hR (pc := 201) 0 rfl rfl hinX10 18 (by decide) f158 rfl dX10_ruleItem_201 ?_
      have hJ := h (fun (s1_12 : Int32) => G 0 0 [(a 0, .inr (10, [.int x_rules, .int x_places, .ref (a 1), .ref (a 2), .ref (a 3), .int x_newRules, .int x_newPlaces, .ref (a 4), .ref (a 5), .ref (a 6), .ref (a 7), .ref (a 8), .int x_acts, .int x_kept, .int x_length, .ref (a 9), .int x_next_9, .int x_place, .int x_isWrong_10, .ref (a 10), .ref (a 11), .ref (a 12), .int x_parts, .int x_without, .ref (a 13), .ref (a 14), .ref (a 15), .ref (a 16), .int x_ways, .ref (a 17), .ref (a 18), .ref (a 19), .ref (a 20)])), (a 4, .inl (V.2 0, 12, .inl x_newRule)), (a 5, .inl (V.2 0, 10, .inl x_newTakes)), (a 6, .inl (V.2 0, 10, .inl x_newBehind)), (a 7, .inl (V.2 0, 61, .inl x_newSlot)), (a 9, .inl (V.2 2, 200, .inl x_text)), (a 10, .inl (V.2 0, 18, .inl x_firsts)), (a 11, .inl (V.2 0, 18, .inl x_lasts)), (a 12, .inl (V.2 1, 18, .inl x_mays))] 224 [(0, .ref (a 0)), (1, .int r_5), (2, .int x_next_6), (4, .int v4_8)] [.int s1_12, .ref (a 0)])
      refine ga_bind hJ ?_ ?_
      · intro s1_12 h
        show G 0 0 [(a 0, .inr (10, [.int x_rules, .int x_places, .ref (a 1), .ref (a 2), .ref (a 3), .int x_newRules, .int x_newPlaces, .ref (a 4), .ref (a 5), .ref (a 6), .ref (a 7), .ref (a 8), .int x_acts, .int x_kept, .int x_length, .ref (a 9), .int x_next_9, .int x_place, .int x_isWrong_10, .ref (a 10), .ref (a 11), .ref (a 12), .int x_parts, .int x_without, .ref (a 13), .ref (a 14), .ref (a 15), .ref (a 16), .int x_ways, .ref (a 17), .ref (a 18), .ref (a 19), .ref (a 20)])), (a 4, .inl (V.2 0, 12, .inl x_newRule)), (a 5, .inl (V.2 0, 10, .inl x_newTakes)), (a 6, .inl (V.2 0, 10, .inl x_newBehind)), (a 7, .inl (V.2 0, 61, .inl x_newSlot)), (a 9, .inl (V.2 2, 200, .inl x_text)), (a 10, .inl (V.2 0, 18, .inl x_firsts)), (a 11, .inl (V.2 0, 18, .inl x_lasts)), (a 12, .inl (V.2 1, 18, .inl x_mays))] 224 [(0, .ref (a 0)), (1, .int r_5), (2, .int x_next_6), (4, .int v4_8)] [.int s1_12, .ref (a 0)]
        refine ga_putf hR (pc := 224) (ws' := [(a 0, .inr (10, [.int x_rules, .int x_places, .ref (a 1), .ref (a 2), .ref (a 3), .int x_newRules, .int x_newPlaces, .ref (a 4), .ref (a 5), .ref (a 6), .ref (a 7), .ref (a 8), .int x_acts, .int x_kept, .int x_length, .ref (a 9), .int x_next_9, .int x_place, .int s1_12, .ref (a 10), .ref (a 11), .ref (a 12), .int x_parts, .int x_without, .ref (a 13), .ref (a 14), .ref (a 15), .ref (a 16), .int x_ways, .ref (a 17), .ref (a 18), .ref (a 19), .ref (a 20)])), (a 4, .inl (V.2 0, 12, .inl x_newRule)), (a 5, .inl (V.2 0, 10, .inl x_newTakes)), (a 6, .inl (V.2 0, 10, .inl x_newBehind)), (a 7, .inl (V.2 0, 61, .inl x_newSlot)), (a 9, .inl (V.2 2, 200, .inl x_text)), (a 10, .inl (V.2 0, 18, .inl x_firsts)), (a 11, .inl (V.2 0, 18, .inl x_lasts)), (a 12, .inl (V.2 1, 18, .inl x_mays))]) 0 rfl rfl hinX10 18 (by decide) f158 tyX10_ok nmX10 rfl h.1.1 h.1.2 (Nat.le_of_ble_eq_true rfl) rfl dX10_ruleItem_224 ?_
        replace h := h.2
        refine ga_aload_n hR (pc := 227) 0 rfl rfl dX10_ruleItem_227 ?_
        refine ga_get hR (pc := 228) 0 rfl rfl hinX10 18 (by decide) f158 rfl dX10_ruleItem_228 ?_
        refine ga_if_ne hR (pc := 231) 374 (by decide) dX10_ruleItem_231 (fun c231 => ?_) (fun c231 => ?_)
        · replace h := h.1 c231
          exact ga_vret hE dX10_ruleItem_374 (ga_rv (x_newRules, x_newPlaces, x_next_9, s1_12, x_parts, x_newRule, x_newTakes, x_newBehind, x_newSlot, x_firsts, x_lasts, x_mays) rfl h)
        · replace h := h.2 c231
          refine ga_aload_n hR (pc := 234) 0 rfl rfl dX10_ruleItem_234 ?_
          refine ga_callV hR (pc := 235) (As := []) (rest := []) (st0 := [.ref (a 0)]) (b := (a 0)) 0 (c_X10_rowBegins V a x_rules x_places x_newRules x_newPlaces x_acts x_kept x_length x_next_9 x_place s1_12 x_without x_ways x_parts _ h) (ga_same_v fun _ => rfl) gX10_ruleItem_X10_rowBegins rfl rfl rfl hd_X10_rowBegins ⟨Nat.le_of_ble_eq_true rfl, Nat.le_of_ble_eq_true rfl⟩ rfl rfl (Nat.le_of_ble_eq_true rfl) ⟨Nat.zero_le _, Nat.zero_le _⟩ [0] rfl rfl 0 rfl rfl dX10_ruleItem_235 ?_
          rintro _ _ ⟨x_parts_14, rfl, rfl, h⟩
          refine ga_to [(a 0, .inr (10, [.int x_rules, .int x_places, .ref (a 1), .ref (a 2), .ref (a 3), .int x_newRules, .int x_newPlaces, .ref (a 4), .ref (a 5), .ref (a 6), .ref (a 7), .ref (a 8), .int x_acts, .int x_kept, .int x_length, .ref (a 9), .int x_next_9, .int x_place, .int s1_12, .ref (a 10), .ref (a 11), .ref (a 12), .int x_parts_14, .int x_without, .ref (a 13), .ref (a 14), .ref (a 15), .ref (a 16), .int x_ways, .ref (a 17), .ref (a 18), .ref (a 19), .ref (a 20)])), (a 4, .inl (V.2 0, 12, .inl x_newRule)), (a 5, .inl (V.2 0, 10, .inl x_newTakes)), (a 6, .inl (V.2 0, 10, .inl x_newBehind)), (a 7, .inl (V.2 0, 61, .inl x_newSlot)), (a 9, .inl (V.2 2, 200, .inl x_text)), (a 10, .inl (V.2 0, 18, .inl x_firsts)), (a 11, .inl (V.2 0, 18, .inl x_lasts)), (a 12, .inl (V.2 1, 18, .inl x_mays))] [] rfl rfl ?_
          try dsimp only at h
          refine ga_iload hR (pc := 238) 3 rfl dX10_ruleItem_238 ?_
          refine ga_istore hR (pc := 240) (lv' := [(5, .int v4_8), (0, .ref (a 0)), (1, .int r_5), (2, .int x_next_6), (4, .int v4_8)]) (by decide) rfl dX10_ruleItem_240 ?_
          refine ga_aload_n hR (pc := 242) 1 rfl rfl dX10_ruleItem_242 ?_
          refine ga_get hR (pc := 243) 0 rfl rfl hinX10 16 (by decide) f151 rfl dX10_ruleItem_243 ?_
          refine ga_iconst hR (pc := 246) (v := nI 1) (by decide) dX10_ruleItem_246 ?_
          refine ga_isub hR (pc := 247) dX10_ruleItem_247 ?_
          refine ga_topi (fun v6_15 ev6_15 => ?_)
          replace h := h v6_15 ev6_15
          refine ga_istore hR (pc := 248) (lv' := [(6, .int v6_15), (5, .int v4_8), (0, .ref (a 0)), (1, .int r_5), (2, .int x_next_6), (4, .int v4_8)]) (by decide) rfl dX10_ruleItem_248 ?_
          have hJ := h (fun (x_parts_16 : Int32) (x_newTakes_17 : Nat → Int32) (x_newBehind_18 : Nat → Int32) (x_firsts_19 : Nat → Int32) (x_lasts_20 : Nat → Int32) (x_mays_21 : Nat → Int32) => G 0 0 [(a 0, .inr (10, [.int x_rules, .int x_places, .ref (a 1), .ref (a 2), .ref (a 3), .int x_newRules, .int x_newPlaces, .ref (a 4), .ref (a 5), .ref (a 6), .ref (a 7), .ref (a 8), .int x_acts, .int x_kept, .int x_length, .ref (a 9), .int x_next_9, .int x_place, .int s1_12, .ref (a 10), .ref (a 11), .ref (a 12), .int x_parts_16, .int x_without, .ref (a 13), .ref (a 14), .ref (a 15), .ref (a 16), .int x_ways, .ref (a 17), .ref (a 18), .ref (a 19), .ref (a 20)])), (a 4, .inl (V.2 0, 12, .inl x_newRule)), (a 5, .inl (V.2 0, 10, .inl x_newTakes_17)), (a 6, .inl (V.2 0, 10, .inl x_newBehind_18)), (a 7, .inl (V.2 0, 61, .inl x_newSlot)), (a 9, .inl (V.2 2, 200, .inl x_text)), (a 10, .inl (V.2 0, 18, .inl x_firsts_19)), (a 11, .inl (V.2 0, 18, .inl x_lasts_20)), (a 12, .inl (V.2 1, 18, .inl x_mays_21))] 367 [(0, .ref (a 0)), (1, .int r_5), (4, .int v4_8)] [])
          refine ga_bind hJ ?_ ?_
          · intro x_parts_16 x_newTakes_17 x_newBehind_18 x_firsts_19 x_lasts_20 x_mays_21 h
            show G 0 0 [(a 0, .inr (10, [.int x_rules, .int x_places, .ref (a 1), .ref (a 2), .ref (a 3), .int x_newRules, .int x_newPlaces, .ref (a 4), .ref (a 5), .ref (a 6), .ref (a 7), .ref (a 8), .int x_acts, .int x_kept, .int x_length, .ref (a 9), .int x_next_9, .int x_place, .int s1_12, .ref (a 10), .ref (a 11), .ref (a 12), .int x_parts_16, .int x_without, .ref (a 13), .ref (a 14), .ref (a 15), .ref (a 16), .int x_ways, .ref (a 17), .ref (a 18), .ref (a 19), .ref (a 20)])), (a 4, .inl (V.2 0, 12, .inl x_newRule)), (a 5, .inl (V.2 0, 10, .inl x_newTakes_17)), (a 6, .inl (V.2 0, 10, .inl x_newBehind_18)), (a 7, .inl (V.2 0, 61, .inl x_newSlot)), (a 9, .inl (V.2 2, 200, .inl x_text)), (a 10, .inl (V.2 0, 18, .inl x_firsts_19)), (a 11, .inl (V.2 0, 18, .inl x_lasts_20)), (a 12, .inl (V.2 1, 18, .inl x_mays_21))] 367 [(0, .ref (a 0)), (1, .int r_5), (4, .int v4_8)] []
            refine ga_aload_n hR (pc := 367) 0 rfl rfl dX10_ruleItem_367 ?_
            refine ga_iload_n hR (pc := 368) 1 rfl rfl dX10_ruleItem_368 ?_
            refine ga_iload hR (pc := 369) 2 rfl dX10_ruleItem_369 ?_
            refine ga_callV hR (pc := 371) (As := [.int r_5, .int v4_8]) (rest := []) (st0 := [.int v4_8, .int r_5, .ref (a 0)]) (b := (a 0)) 2 (c_X10_ends V a x_rules x_places x_acts x_kept x_length x_next_9 x_place s1_12 x_parts_16 x_without x_ways x_newRules x_newPlaces x_newRule x_newSlot x_firsts_19 x_lasts_20 r_5 v4_8 _ h) (ga_same_v fun _ => rfl) gX10_ruleItem_X10_ends rfl rfl rfl hd_X10_ends ⟨Nat.le_of_ble_eq_true rfl, Nat.le_of_ble_eq_true rfl⟩ rfl rfl (Nat.le_of_ble_eq_true rfl) ⟨Nat.zero_le _, Nat.zero_le _⟩ [0, 1, 4, 6, 7] rfl rfl 0 rfl rfl dX10_ruleItem_371 ?_
            rintro _ _ ⟨⟨x_newRules_23, x_newPlaces_24, x_newRule_25, x_newSlot_26⟩, rfl, rfl, h⟩
            refine ga_to [(a 0, .inr (10, [.int x_rules, .int x_places, .ref (a 1), .ref (a 2), .ref (a 3), .int x_newRules_23, .int x_newPlaces_24, .ref (a 4), .ref (a 5), .ref (a 6), .ref (a 7), .ref (a 8), .int x_acts, .int x_kept, .int x_length, .ref (a 9), .int x_next_9, .int x_place, .int s1_12, .ref (a 10), .ref (a 11), .ref (a 12), .int x_parts_16, .int x_without, .ref (a 13), .ref (a 14), .ref (a 15), .ref (a 16), .int x_ways, .ref (a 17), .ref (a 18), .ref (a 19), .ref (a 20)])), (a 4, .inl (V.2 0, 12, .inl x_newRule_25)), (a 5, .inl (V.2 0, 10, .inl x_newTakes_17)), (a 6, .inl (V.2 0, 10, .inl x_newBehind_18)), (a 7, .inl (V.2 0, 61, .inl x_newSlot_26)), (a 9, .inl (V.2 2, 200, .inl x_text)), (a 10, .inl (V.2 0, 18, .inl x_firsts_19)), (a 11, .inl (V.2 0, 18, .inl x_lasts_20)), (a 12, .inl (V.2 1, 18, .inl x_mays_21))] [] rfl rfl ?_
            try dsimp only at h
            exact ga_vret hE dX10_ruleItem_374 (ga_rv (x_newRules_23, x_newPlaces_24, x_next_9, s1_12, x_parts_16, x_newRule_25, x_newTakes_17, x_newBehind_18, x_newSlot_26, x_firsts_19, x_lasts_20, x_mays_21) rfl h)
          · intro h
            obtain ⟨n, h⟩ := h
            have L250 : ∀ (n : Nat) (v5_57 : Int32) (v6_58 : Int32) (x_parts_59 : Int32) (x_newTakes_60 : Nat → Int32) (x_newBehind_61 : Nat → Int32) (x_firsts_62 : Nat → Int32) (x_lasts_63 : Nat → Int32) (x_mays_64 : Nat → Int32), lp_X10_ruleItem_250 x_newPlaces x_length x_text x_next_6 (fun (x_parts_16 : Int32) (x_newTakes_17 : Nat → Int32) (x_newBehind_18 : Nat → Int32) (x_firsts_19 : Nat → Int32) (x_lasts_20 : Nat → Int32) (x_mays_21 : Nat → Int32) => G 0 0 [(a 0, .inr (10, [.int x_rules, .int x_places, .ref (a 1), .ref (a 2), .ref (a 3), .int x_newRules, .int x_newPlaces, .ref (a 4), .ref (a 5), .ref (a 6), .ref (a 7), .ref (a 8), .int x_acts, .int x_kept, .int x_length, .ref (a 9), .int x_next_9, .int x_place, .int s1_12, .ref (a 10), .ref (a 11), .ref (a 12), .int x_parts_16, .int x_without, .ref (a 13), .ref (a 14), .ref (a 15), .ref (a 16), .int x_ways, .ref (a 17), .ref (a 18), .ref (a 19), .ref (a 20)])), (a 4, .inl (V.2 0, 12, .inl x_newRule)), (a 5, .inl (V.2 0, 10, .inl x_newTakes_17)), (a 6, .inl (V.2 0, 10, .inl x_newBehind_18)), (a 7, .inl (V.2 0, 61, .inl x_newSlot)), (a 9, .inl (V.2 2, 200, .inl x_text)), (a 10, .inl (V.2 0, 18, .inl x_firsts_19)), (a 11, .inl (V.2 0, 18, .inl x_lasts_20)), (a 12, .inl (V.2 1, 18, .inl x_mays_21))] 367 [(0, .ref (a 0)), (1, .int r_5), (4, .int v4_8)] []) n v5_57 v6_58 x_parts_59 x_newTakes_60 x_newBehind_61 x_firsts_62 x_lasts_63 x_mays_64 → G 0 0 [(a 0, .inr (10, [.int x_rules, .int x_places, .ref (a 1), .ref (a 2), .ref (a 3), .int x_newRules, .int x_newPlaces, .ref (a 4), .ref (a 5), .ref (a 6), .ref (a 7), .ref (a 8), .int x_acts, .int x_kept, .int x_length, .ref (a 9), .int x_next_9, .int x_place, .int s1_12, .ref (a 10), .ref (a 11), .ref (a 12), .int x_parts_59, .int x_without, .ref (a 13), .ref (a 14), .ref (a 15), .ref (a 16), .int x_ways, .ref (a 17), .ref (a 18), .ref (a 19), .ref (a 20)])), (a 4, .inl (V.2 0, 12, .inl x_newRule)), (a 5, .inl (V.2 0, 10, .inl x_newTakes_60)), (a 6, .inl (V.2 0, 10, .inl x_newBehind_61)), (a 7, .inl (V.2 0, 61, .inl x_newSlot)), (a 9, .inl (V.2 2, 200, .inl x_text)), (a 10, .inl (V.2 0, 18, .inl x_firsts_62)), (a 11, .inl (V.2 0, 18, .inl x_lasts_63)), (a 12, .inl (V.2 1, 18, .inl x_mays_64))] 250 [(0, .ref (a 0)), (1, .int r_5), (2, .int x_next_6), (4, .int v4_8), (5, .int v5_57), (6, .int v6_58)] [] := by
              intro n
              induction n with
              | zero => exact fun _ _ _ _ _ _ _ _ h => False.elim h
              | succ n ih =>
                intro v5_57 v6_58 x_parts_59 x_newTakes_60 x_newBehind_61 x_firsts_62 x_lasts_63 x_mays_64 h
                rw [lp_X10_ruleItem_250] at h
                refine ga_iload hR (pc := 250) 5 rfl dX10_ruleItem_250 ?_
                refine ga_iload_n hR (pc := 252) 2 rfl rfl dX10_ruleItem_252 ?_
                refine ga_icmp_lt hR (pc := 253) 367 (by decide) dX10_ruleItem_253 (fun c253 => ?_) (fun c253 => ?_)
                · replace h := h.1 c253
                  exact ga_lv hR [0, 1, 3] rfl h
                · replace h := h.2 c253
                  refine ga_aload_n hR (pc := 256) 0 rfl rfl dX10_ruleItem_256 ?_
                  refine ga_iload hR (pc := 257) 5 rfl dX10_ruleItem_257 ?_
                  refine ga_callV hR (pc := 259) (As := [.int v6_58]) (rest := []) (st0 := [.int v6_58, .ref (a 0)]) (b := (a 0)) 1 (c_X10_letterAt V a x_rules x_places x_newRules x_newPlaces x_acts x_kept x_next_9 x_place s1_12 x_parts_59 x_without x_ways x_length x_text v6_58 _ h) (ga_same_i fun _ => rfl) gX10_ruleItem_X10_letterAt rfl rfl rfl hd_X10_letterAt ⟨Nat.le_of_ble_eq_true rfl, Nat.le_of_ble_eq_true rfl⟩ rfl rfl (Nat.le_of_ble_eq_true rfl) ⟨Nat.zero_le _, Nat.zero_le _⟩ [0, 5] rfl rfl 0 rfl rfl dX10_ruleItem_259 ?_
                  rintro _ _ ⟨r_65, ⟨⟩, rfl, rfl, h⟩
                  refine ga_to [(a 0, .inr (10, [.int x_rules, .int x_places, .ref (a 1), .ref (a 2), .ref (a 3), .int x_newRules, .int x_newPlaces, .ref (a 4), .ref (a 5), .ref (a 6), .ref (a 7), .ref (a 8), .int x_acts, .int x_kept, .int x_length, .ref (a 9), .int x_next_9, .int x_place, .int s1_12, .ref (a 10), .ref (a 11), .ref (a 12), .int x_parts_59, .int x_without, .ref (a 13), .ref (a 14), .ref (a 15), .ref (a 16), .int x_ways, .ref (a 17), .ref (a 18), .ref (a 19), .ref (a 20)])), (a 4, .inl (V.2 0, 12, .inl x_newRule)), (a 5, .inl (V.2 0, 10, .inl x_newTakes_60)), (a 6, .inl (V.2 0, 10, .inl x_newBehind_61)), (a 7, .inl (V.2 0, 61, .inl x_newSlot)), (a 9, .inl (V.2 2, 200, .inl x_text)), (a 10, .inl (V.2 0, 18, .inl x_firsts_62)), (a 11, .inl (V.2 0, 18, .inl x_lasts_63)), (a 12, .inl (V.2 1, 18, .inl x_mays_64))] [.int r_65] rfl rfl ?_
                  try dsimp only at h
                  refine ga_istore hR (pc := 262) (lv' := [(7, .int r_65), (0, .ref (a 0)), (1, .int r_5), (2, .int x_next_6), (4, .int v4_8), (5, .int v5_57), (6, .int v6_58)]) (by decide) rfl dX10_ruleItem_262 ?_
                  refine ga_iload hR (pc := 264) 0 rfl dX10_ruleItem_264 ?_
                  refine ga_callS hR (pc := 266) (As := [.int r_65]) (rest := []) (st0 := [.int r_65]) 1 (c_X10_isAtom V r_65 _ h) (ga_same_i fun _ => rfl) gX10_ruleItem_X10_isAtom rfl rfl rfl hd_X10_isAtomS ⟨Nat.le_of_ble_eq_true rfl, Nat.le_of_ble_eq_true rfl⟩ rfl rfl (Nat.le_of_ble_eq_true rfl) ⟨Nat.zero_le _, Nat.zero_le _⟩ [] rfl rfl dX10_ruleItem_266 ?_
                  rintro _ _ ⟨r_66, ⟨⟩, rfl, rfl, h⟩
                  refine ga_to [(a 0, .inr (10, [.int x_rules, .int x_places, .ref (a 1), .ref (a 2), .ref (a 3), .int x_newRules, .int x_newPlaces, .ref (a 4), .ref (a 5), .ref (a 6), .ref (a 7), .ref (a 8), .int x_acts, .int x_kept, .int x_length, .ref (a 9), .int x_next_9, .int x_place, .int s1_12, .ref (a 10), .ref (a 11), .ref (a 12), .int x_parts_59, .int x_without, .ref (a 13), .ref (a 14), .ref (a 15), .ref (a 16), .int x_ways, .ref (a 17), .ref (a 18), .ref (a 19), .ref (a 20)])), (a 4, .inl (V.2 0, 12, .inl x_newRule)), (a 5, .inl (V.2 0, 10, .inl x_newTakes_60)), (a 6, .inl (V.2 0, 10, .inl x_newBehind_61)), (a 7, .inl (V.2 0, 61, .inl x_newSlot)), (a 9, .inl (V.2 2, 200, .inl x_text)), (a 10, .inl (V.2 0, 18, .inl x_firsts_62)), (a 11, .inl (V.2 0, 18, .inl x_lasts_63)), (a 12, .inl (V.2 1, 18, .inl x_mays_64))] [.int r_66] rfl rfl ?_
                  try dsimp only at h
                  refine ga_if_eq hR (pc := 269) 301 (by decide) dX10_ruleItem_269 (fun c269 => ?_) (fun c269 => ?_)
                  · replace h := h.1 c269
                    refine ga_iload hR (pc := 301) 0 rfl dX10_ruleItem_301 ?_
                    refine ga_bipush hR (pc := 303) (v := nI 38) (by decide) dX10_ruleItem_303 ?_
                    refine ga_icmp_ne hR (pc := 305) 315 (by decide) dX10_ruleItem_305 (fun c305 => ?_) (fun c305 => ?_)
                    · replace h := h.1 c305
                      refine ga_iload hR (pc := 315) 0 rfl dX10_ruleItem_315 ?_
                      refine ga_bipush hR (pc := 317) (v := nI 124) (by decide) dX10_ruleItem_317 ?_
                      refine ga_icmp_ne hR (pc := 319) 329 (by decide) dX10_ruleItem_319 (fun c319 => ?_) (fun c319 => ?_)
                      · replace h := h.1 c319
                        refine ga_iload hR (pc := 329) 0 rfl dX10_ruleItem_329 ?_
                        refine ga_bipush hR (pc := 331) (v := nI 63) (by decide) dX10_ruleItem_331 ?_
                        refine ga_icmp_ne hR (pc := 333) 343 (by decide) dX10_ruleItem_333 (fun c333 => ?_) (fun c333 => ?_)
                        · replace h := h.1 c333
                          refine ga_iload hR (pc := 343) 0 rfl dX10_ruleItem_343 ?_
                          refine ga_bipush hR (pc := 345) (v := nI 43) (by decide) dX10_ruleItem_345 ?_
                          refine ga_icmp_ne hR (pc := 347) 357 (by decide) dX10_ruleItem_347 (fun c347 => ?_) (fun c347 => ?_)
                          · replace h := h.1 c347
                            refine ga_aload_n hR (pc := 357) 1 rfl rfl dX10_ruleItem_357 ?_
                            refine ga_callV hR (pc := 358) (As := []) (rest := []) (st0 := [.ref (a 0)]) (b := (a 0)) 0 (c_X10_any V a x_rules x_places x_newRules x_newPlaces x_acts x_kept x_length x_next_9 x_place s1_12 x_without x_ways x_parts_59 x_newBehind_61 x_firsts_62 x_lasts_63 x_mays_64 _ h) (ga_same_v fun _ => rfl) gX10_ruleItem_X10_any rfl rfl rfl hd_X10_any ⟨Nat.le_of_ble_eq_true rfl, Nat.le_of_ble_eq_true rfl⟩ rfl rfl (Nat.le_of_ble_eq_true rfl) ⟨Nat.zero_le _, Nat.zero_le _⟩ [0, 3, 6, 7, 8] rfl rfl 0 rfl rfl dX10_ruleItem_358 ?_
                            rintro _ _ ⟨⟨x_newBehind_67, x_mays_68⟩, rfl, rfl, h⟩
                            refine ga_to [(a 0, .inr (10, [.int x_rules, .int x_places, .ref (a 1), .ref (a 2), .ref (a 3), .int x_newRules, .int x_newPlaces, .ref (a 4), .ref (a 5), .ref (a 6), .ref (a 7), .ref (a 8), .int x_acts, .int x_kept, .int x_length, .ref (a 9), .int x_next_9, .int x_place, .int s1_12, .ref (a 10), .ref (a 11), .ref (a 12), .int x_parts_59, .int x_without, .ref (a 13), .ref (a 14), .ref (a 15), .ref (a 16), .int x_ways, .ref (a 17), .ref (a 18), .ref (a 19), .ref (a 20)])), (a 4, .inl (V.2 0, 12, .inl x_newRule)), (a 5, .inl (V.2 0, 10, .inl x_newTakes_60)), (a 6, .inl (V.2 0, 10, .inl x_newBehind_67)), (a 7, .inl (V.2 0, 61, .inl x_newSlot)), (a 9, .inl (V.2 2, 200, .inl x_text)), (a 10, .inl (V.2 0, 18, .inl x_firsts_62)), (a 11, .inl (V.2 0, 18, .inl x_lasts_63)), (a 12, .inl (V.2 1, 18, .inl x_mays_68))] [] rfl rfl ?_
                            try dsimp only at h
                            obtain ⟨v6_69, ev6_69⟩ : ∃ v : Int32, v = v6_58 + (-1) := ⟨_, rfl⟩
                            replace h := h v6_69 ev6_69
                            refine ga_iinc hR (pc := 361) (lv' := [(6, .int v6_69), (7, .int r_65), (0, .ref (a 0)), (1, .int r_5), (2, .int x_next_6), (4, .int v4_8), (5, .int v5_57)]) 6 (by decide) rfl ev6_69 (by decide) rfl dX10_ruleItem_361 ?_
                            refine ga_goto hR (pc := 364) 250 (by decide) dX10_ruleItem_364 ?_
                            exact ga_lv hR [2, 3, 4, 5, 6, 0] rfl (ih _ _ _ _ _ _ _ _ h)
                          · replace h := h.2 c347
                            refine ga_aload_n hR (pc := 350) 1 rfl rfl dX10_ruleItem_350 ?_
                            refine ga_callV hR (pc := 351) (As := []) (rest := []) (st0 := [.ref (a 0)]) (b := (a 0)) 0 (c_X10_again V a x_rules x_places x_newRules x_newPlaces x_acts x_kept x_length x_next_9 x_place s1_12 x_without x_ways x_parts_59 x_newBehind_61 x_firsts_62 x_lasts_63 _ h) (ga_same_v fun _ => rfl) gX10_ruleItem_X10_again rfl rfl rfl hd_X10_again ⟨Nat.le_of_ble_eq_true rfl, Nat.le_of_ble_eq_true rfl⟩ rfl rfl (Nat.le_of_ble_eq_true rfl) ⟨Nat.zero_le _, Nat.zero_le _⟩ [0, 3, 6, 7] rfl rfl 0 rfl rfl dX10_ruleItem_351 ?_
                            rintro _ _ ⟨x_newBehind_70, rfl, rfl, h⟩
                            refine ga_to [(a 0, .inr (10, [.int x_rules, .int x_places, .ref (a 1), .ref (a 2), .ref (a 3), .int x_newRules, .int x_newPlaces, .ref (a 4), .ref (a 5), .ref (a 6), .ref (a 7), .ref (a 8), .int x_acts, .int x_kept, .int x_length, .ref (a 9), .int x_next_9, .int x_place, .int s1_12, .ref (a 10), .ref (a 11), .ref (a 12), .int x_parts_59, .int x_without, .ref (a 13), .ref (a 14), .ref (a 15), .ref (a 16), .int x_ways, .ref (a 17), .ref (a 18), .ref (a 19), .ref (a 20)])), (a 4, .inl (V.2 0, 12, .inl x_newRule)), (a 5, .inl (V.2 0, 10, .inl x_newTakes_60)), (a 6, .inl (V.2 0, 10, .inl x_newBehind_70)), (a 7, .inl (V.2 0, 61, .inl x_newSlot)), (a 9, .inl (V.2 2, 200, .inl x_text)), (a 10, .inl (V.2 0, 18, .inl x_firsts_62)), (a 11, .inl (V.2 0, 18, .inl x_lasts_63)), (a 12, .inl (V.2 1, 18, .inl x_mays_64))] [] rfl rfl ?_
                            try dsimp only at h
                            refine ga_goto hR (pc := 354) 361 (by decide) dX10_ruleItem_354 ?_
                            obtain ⟨v6_71, ev6_71⟩ : ∃ v : Int32, v = v6_58 + (-1) := ⟨_, rfl⟩
                            replace h := h v6_71 ev6_71
                            refine ga_iinc hR (pc := 361) (lv' := [(6, .int v6_71), (7, .int r_65), (0, .ref (a 0)), (1, .int r_5), (2, .int x_next_6), (4, .int v4_8), (5, .int v5_57)]) 6 (by decide) rfl ev6_71 (by decide) rfl dX10_ruleItem_361 ?_
                            refine ga_goto hR (pc := 364) 250 (by decide) dX10_ruleItem_364 ?_
                            exact ga_lv hR [2, 3, 4, 5, 6, 0] rfl (ih _ _ _ _ _ _ _ _ h)
                        · replace h := h.2 c333
                          refine ga_aload_n hR (pc := 336) 1 rfl rfl dX10_ruleItem_336 ?_
                          refine ga_callV hR (pc := 337) (As := []) (rest := []) (st0 := [.ref (a 0)]) (b := (a 0)) 0 (c_X10_maybe V a x_rules x_places x_newRules x_newPlaces x_acts x_kept x_length x_next_9 x_place s1_12 x_without x_ways x_parts_59 x_mays_64 _ h) (ga_same_v fun _ => rfl) gX10_ruleItem_X10_maybe rfl rfl rfl hd_X10_maybe ⟨Nat.le_of_ble_eq_true rfl, Nat.le_of_ble_eq_true rfl⟩ rfl rfl (Nat.le_of_ble_eq_true rfl) ⟨Nat.zero_le _, Nat.zero_le _⟩ [0, 8] rfl rfl 0 rfl rfl dX10_ruleItem_337 ?_
                          rintro _ _ ⟨x_mays_72, rfl, rfl, h⟩
                          refine ga_to [(a 0, .inr (10, [.int x_rules, .int x_places, .ref (a 1), .ref (a 2), .ref (a 3), .int x_newRules, .int x_newPlaces, .ref (a 4), .ref (a 5), .ref (a 6), .ref (a 7), .ref (a 8), .int x_acts, .int x_kept, .int x_length, .ref (a 9), .int x_next_9, .int x_place, .int s1_12, .ref (a 10), .ref (a 11), .ref (a 12), .int x_parts_59, .int x_without, .ref (a 13), .ref (a 14), .ref (a 15), .ref (a 16), .int x_ways, .ref (a 17), .ref (a 18), .ref (a 19), .ref (a 20)])), (a 4, .inl (V.2 0, 12, .inl x_newRule)), (a 5, .inl (V.2 0, 10, .inl x_newTakes_60)), (a 6, .inl (V.2 0, 10, .inl x_newBehind_61)), (a 7, .inl (V.2 0, 61, .inl x_newSlot)), (a 9, .inl (V.2 2, 200, .inl x_text)), (a 10, .inl (V.2 0, 18, .inl x_firsts_62)), (a 11, .inl (V.2 0, 18, .inl x_lasts_63)), (a 12, .inl (V.2 1, 18, .inl x_mays_72))] [] rfl rfl ?_
                          try dsimp only at h
                          refine ga_goto hR (pc := 340) 361 (by decide) dX10_ruleItem_340 ?_
                          obtain ⟨v6_73, ev6_73⟩ : ∃ v : Int32, v = v6_58 + (-1) := ⟨_, rfl⟩
                          replace h := h v6_73 ev6_73
                          refine ga_iinc hR (pc := 361) (lv' := [(6, .int v6_73), (7, .int r_65), (0, .ref (a 0)), (1, .int r_5), (2, .int x_next_6), (4, .int v4_8), (5, .int v5_57)]) 6 (by decide) rfl ev6_73 (by decide) rfl dX10_ruleItem_361 ?_
                          refine ga_goto hR (pc := 364) 250 (by decide) dX10_ruleItem_364 ?_
                          exact ga_lv hR [2, 3, 4, 5, 6, 0] rfl (ih _ _ _ _ _ _ _ _ h)
                      · replace h := h.2 c319
                        refine ga_aload_n hR (pc := 322) 1 rfl rfl dX10_ruleItem_322 ?_
                        refine ga_callV hR (pc := 323) (As := []) (rest := []) (st0 := [.ref (a 0)]) (b := (a 0)) 0 (c_X10_either V a x_rules x_places x_newRules x_newPlaces x_acts x_kept x_length x_next_9 x_place s1_12 x_without x_ways x_parts_59 x_firsts_62 x_lasts_63 x_mays_64 _ h) (ga_same_v fun _ => rfl) gX10_ruleItem_X10_either rfl rfl rfl hd_X10_either ⟨Nat.le_of_ble_eq_true rfl, Nat.le_of_ble_eq_true rfl⟩ rfl rfl (Nat.le_of_ble_eq_true rfl) ⟨Nat.zero_le _, Nat.zero_le _⟩ [0, 6, 7, 8] rfl rfl 0 rfl rfl dX10_ruleItem_323 ?_
                        rintro _ _ ⟨⟨x_parts_74, x_firsts_75, x_lasts_76, x_mays_77⟩, rfl, rfl, h⟩
                        refine ga_to [(a 0, .inr (10, [.int x_rules, .int x_places, .ref (a 1), .ref (a 2), .ref (a 3), .int x_newRules, .int x_newPlaces, .ref (a 4), .ref (a 5), .ref (a 6), .ref (a 7), .ref (a 8), .int x_acts, .int x_kept, .int x_length, .ref (a 9), .int x_next_9, .int x_place, .int s1_12, .ref (a 10), .ref (a 11), .ref (a 12), .int x_parts_74, .int x_without, .ref (a 13), .ref (a 14), .ref (a 15), .ref (a 16), .int x_ways, .ref (a 17), .ref (a 18), .ref (a 19), .ref (a 20)])), (a 4, .inl (V.2 0, 12, .inl x_newRule)), (a 5, .inl (V.2 0, 10, .inl x_newTakes_60)), (a 6, .inl (V.2 0, 10, .inl x_newBehind_61)), (a 7, .inl (V.2 0, 61, .inl x_newSlot)), (a 9, .inl (V.2 2, 200, .inl x_text)), (a 10, .inl (V.2 0, 18, .inl x_firsts_75)), (a 11, .inl (V.2 0, 18, .inl x_lasts_76)), (a 12, .inl (V.2 1, 18, .inl x_mays_77))] [] rfl rfl ?_
                        try dsimp only at h
                        refine ga_goto hR (pc := 326) 361 (by decide) dX10_ruleItem_326 ?_
                        obtain ⟨v6_78, ev6_78⟩ : ∃ v : Int32, v = v6_58 + (-1) := ⟨_, rfl⟩
                        replace h := h v6_78 ev6_78
                        refine ga_iinc hR (pc := 361) (lv' := [(6, .int v6_78), (7, .int r_65), (0, .ref (a 0)), (1, .int r_5), (2, .int x_next_6), (4, .int v4_8), (5, .int v5_57)]) 6 (by decide) rfl ev6_78 (by decide) rfl dX10_ruleItem_361 ?_
                        refine ga_goto hR (pc := 364) 250 (by decide) dX10_ruleItem_364 ?_
                        exact ga_lv hR [2, 3, 4, 5, 6, 0] rfl (ih _ _ _ _ _ _ _ _ h)
                    · replace h := h.2 c305
                      refine ga_aload_n hR (pc := 308) 1 rfl rfl dX10_ruleItem_308 ?_
                      refine ga_callV hR (pc := 309) (As := []) (rest := []) (st0 := [.ref (a 0)]) (b := (a 0)) 0 (c_X10_both V a x_rules x_places x_newRules x_newPlaces x_acts x_kept x_length x_next_9 x_place s1_12 x_without x_ways x_parts_59 x_newBehind_61 x_firsts_62 x_lasts_63 x_mays_64 _ h) (ga_same_v fun _ => rfl) gX10_ruleItem_X10_both rfl rfl rfl hd_X10_both ⟨Nat.le_of_ble_eq_true rfl, Nat.le_of_ble_eq_true rfl⟩ rfl rfl (Nat.le_of_ble_eq_true rfl) ⟨Nat.zero_le _, Nat.zero_le _⟩ [0, 3, 6, 7, 8] rfl rfl 0 rfl rfl dX10_ruleItem_309 ?_
                      rintro _ _ ⟨⟨x_parts_79, x_newBehind_80, x_firsts_81, x_lasts_82, x_mays_83⟩, rfl, rfl, h⟩
                      refine ga_to [(a 0, .inr (10, [.int x_rules, .int x_places, .ref (a 1), .ref (a 2), .ref (a 3), .int x_newRules, .int x_newPlaces, .ref (a 4), .ref (a 5), .ref (a 6), .ref (a 7), .ref (a 8), .int x_acts, .int x_kept, .int x_length, .ref (a 9), .int x_next_9, .int x_place, .int s1_12, .ref (a 10), .ref (a 11), .ref (a 12), .int x_parts_79, .int x_without, .ref (a 13), .ref (a 14), .ref (a 15), .ref (a 16), .int x_ways, .ref (a 17), .ref (a 18), .ref (a 19), .ref (a 20)])), (a 4, .inl (V.2 0, 12, .inl x_newRule)), (a 5, .inl (V.2 0, 10, .inl x_newTakes_60)), (a 6, .inl (V.2 0, 10, .inl x_newBehind_80)), (a 7, .inl (V.2 0, 61, .inl x_newSlot)), (a 9, .inl (V.2 2, 200, .inl x_text)), (a 10, .inl (V.2 0, 18, .inl x_firsts_81)), (a 11, .inl (V.2 0, 18, .inl x_lasts_82)), (a 12, .inl (V.2 1, 18, .inl x_mays_83))] [] rfl rfl ?_
                      try dsimp only at h
                      refine ga_goto hR (pc := 312) 361 (by decide) dX10_ruleItem_312 ?_
                      obtain ⟨v6_84, ev6_84⟩ : ∃ v : Int32, v = v6_58 + (-1) := ⟨_, rfl⟩
                      replace h := h v6_84 ev6_84
                      refine ga_iinc hR (pc := 361) (lv' := [(6, .int v6_84), (7, .int r_65), (0, .ref (a 0)), (1, .int r_5), (2, .int x_next_6), (4, .int v4_8), (5, .int v5_57)]) 6 (by decide) rfl ev6_84 (by decide) rfl dX10_ruleItem_361 ?_
                      refine ga_goto hR (pc := 364) 250 (by decide) dX10_ruleItem_364 ?_
                      exact ga_lv hR [2, 3, 4, 5, 6, 0] rfl (ih _ _ _ _ _ _ _ _ h)
                  · replace h := h.2 c269
                    obtain ⟨v5_85, ev5_85⟩ : ∃ v : Int32, v = v5_57 + (-1) := ⟨_, rfl⟩
                    replace h := h v5_85 ev5_85
                    refine ga_iinc hR (pc := 272) (lv' := [(5, .int v5_85), (7, .int r_65), (0, .ref (a 0)), (1, .int r_5), (2, .int x_next_6), (4, .int v4_8), (6, .int v6_58)]) 5 (by decide) rfl ev5_85 (by decide) rfl dX10_ruleItem_272 ?_
                    refine ga_aload_n hR (pc := 275) 2 rfl rfl dX10_ruleItem_275 ?_
                    refine ga_iload hR (pc := 276) 0 rfl dX10_ruleItem_276 ?_
                    refine ga_iload hR (pc := 278) 1 rfl dX10_ruleItem_278 ?_
                    refine ga_bipush hR (pc := 280) (v := nI 46) (by decide) dX10_ruleItem_280 ?_
                    have hJ := h (fun (s2_86 : Int32) => G 0 0 [(a 0, .inr (10, [.int x_rules, .int x_places, .ref (a 1), .ref (a 2), .ref (a 3), .int x_newRules, .int x_newPlaces, .ref (a 4), .ref (a 5), .ref (a 6), .ref (a 7), .ref (a 8), .int x_acts, .int x_kept, .int x_length, .ref (a 9), .int x_next_9, .int x_place, .int s1_12, .ref (a 10), .ref (a 11), .ref (a 12), .int x_parts_59, .int x_without, .ref (a 13), .ref (a 14), .ref (a 15), .ref (a 16), .int x_ways, .ref (a 17), .ref (a 18), .ref (a 19), .ref (a 20)])), (a 4, .inl (V.2 0, 12, .inl x_newRule)), (a 5, .inl (V.2 0, 10, .inl x_newTakes_60)), (a 6, .inl (V.2 0, 10, .inl x_newBehind_61)), (a 7, .inl (V.2 0, 61, .inl x_newSlot)), (a 9, .inl (V.2 2, 200, .inl x_text)), (a 10, .inl (V.2 0, 18, .inl x_firsts_62)), (a 11, .inl (V.2 0, 18, .inl x_lasts_63)), (a 12, .inl (V.2 1, 18, .inl x_mays_64))] 295 [(0, .ref (a 0)), (1, .int r_5), (2, .int x_next_6), (4, .int v4_8), (5, .int v5_85), (6, .int v6_58)] [.int s2_86, .int v5_85, .ref (a 0)])
                    refine ga_bind hJ ?_ ?_
                    · intro s2_86 h
                      show G 0 0 [(a 0, .inr (10, [.int x_rules, .int x_places, .ref (a 1), .ref (a 2), .ref (a 3), .int x_newRules, .int x_newPlaces, .ref (a 4), .ref (a 5), .ref (a 6), .ref (a 7), .ref (a 8), .int x_acts, .int x_kept, .int x_length, .ref (a 9), .int x_next_9, .int x_place, .int s1_12, .ref (a 10), .ref (a 11), .ref (a 12), .int x_parts_59, .int x_without, .ref (a 13), .ref (a 14), .ref (a 15), .ref (a 16), .int x_ways, .ref (a 17), .ref (a 18), .ref (a 19), .ref (a 20)])), (a 4, .inl (V.2 0, 12, .inl x_newRule)), (a 5, .inl (V.2 0, 10, .inl x_newTakes_60)), (a 6, .inl (V.2 0, 10, .inl x_newBehind_61)), (a 7, .inl (V.2 0, 61, .inl x_newSlot)), (a 9, .inl (V.2 2, 200, .inl x_text)), (a 10, .inl (V.2 0, 18, .inl x_firsts_62)), (a 11, .inl (V.2 0, 18, .inl x_lasts_63)), (a 12, .inl (V.2 1, 18, .inl x_mays_64))] 295 [(0, .ref (a 0)), (1, .int r_5), (2, .int x_next_6), (4, .int v4_8), (5, .int v5_85), (6, .int v6_58)] [.int s2_86, .int v5_85, .ref (a 0)]
                      refine ga_callV hR (pc := 295) (As := [.int v5_85, .int s2_86]) (rest := []) (st0 := [.int s2_86, .int v5_85, .ref (a 0)]) (b := (a 0)) 2 (c_X10_atom V a x_rules x_places x_newRules x_acts x_kept x_length x_next_9 x_place s1_12 x_without x_ways x_newPlaces x_parts_59 x_newTakes_60 x_newBehind_61 x_firsts_62 x_lasts_63 x_mays_64 v5_85 s2_86 _ h) (ga_same_v fun _ => rfl) gX10_ruleItem_X10_atom rfl rfl rfl hd_X10_atom ⟨Nat.le_of_ble_eq_true rfl, Nat.le_of_ble_eq_true rfl⟩ rfl rfl (Nat.le_of_ble_eq_true rfl) ⟨Nat.zero_le _, Nat.zero_le _⟩ [0, 2, 3, 6, 7, 8] rfl rfl 0 rfl rfl dX10_ruleItem_295 ?_
                      rintro _ _ ⟨⟨x_parts_88, x_newTakes_89, x_newBehind_90, x_firsts_91, x_lasts_92, x_mays_93⟩, rfl, rfl, h⟩
                      refine ga_to [(a 0, .inr (10, [.int x_rules, .int x_places, .ref (a 1), .ref (a 2), .ref (a 3), .int x_newRules, .int x_newPlaces, .ref (a 4), .ref (a 5), .ref (a 6), .ref (a 7), .ref (a 8), .int x_acts, .int x_kept, .int x_length, .ref (a 9), .int x_next_9, .int x_place, .int s1_12, .ref (a 10), .ref (a 11), .ref (a 12), .int x_parts_88, .int x_without, .ref (a 13), .ref (a 14), .ref (a 15), .ref (a 16), .int x_ways, .ref (a 17), .ref (a 18), .ref (a 19), .ref (a 20)])), (a 4, .inl (V.2 0, 12, .inl x_newRule)), (a 5, .inl (V.2 0, 10, .inl x_newTakes_89)), (a 6, .inl (V.2 0, 10, .inl x_newBehind_90)), (a 7, .inl (V.2 0, 61, .inl x_newSlot)), (a 9, .inl (V.2 2, 200, .inl x_text)), (a 10, .inl (V.2 0, 18, .inl x_firsts_91)), (a 11, .inl (V.2 0, 18, .inl x_lasts_92)), (a 12, .inl (V.2 1, 18, .inl x_mays_93))] [] rfl rfl ?_
                      try dsimp only at h
                      refine ga_goto hR (pc := 298) 361 (by decide) dX10_ruleItem_298 ?_
                      obtain ⟨v6_94, ev6_94⟩ : ∃ v : Int32, v = v6_58 + (-1) := ⟨_, rfl⟩
                      replace h := h v6_94 ev6_94
                      refine ga_iinc hR (pc := 361) (lv' := [(6, .int v6_94), (0, .ref (a 0)), (1, .int r_5), (2, .int x_next_6), (4, .int v4_8), (5, .int v5_85)]) 5 (by decide) rfl ev6_94 (by decide) rfl dX10_ruleItem_361 ?_
                      refine ga_goto hR (pc := 364) 250 (by decide) dX10_ruleItem_364 ?_
                      exact ga_lv hR [1, 2, 3, 4, 5, 0] rfl (ih _ _ _ _ _ _ _ _ h)
                    · intro h
                      refine ga_icmp_ne hR (pc := 282) 290 (by decide) dX10_ruleItem_282 (fun c282 => ?_) (fun c282 => ?_)
                      · replace h := h.1 c282
                        refine ga_iload hR (pc := 290) 1 rfl dX10_ruleItem_290 ?_
                        refine ga_bipush hR (pc := 292) (v := nI 48) (by decide) dX10_ruleItem_292 ?_
                        refine ga_isub hR (pc := 294) dX10_ruleItem_294 ?_
                        exact ga_lv hR [2, 3, 4, 5, 0, 6] rfl h
                      · replace h := h.2 c282
                        refine ga_bipush hR (pc := 285) (v := nI 6) (by decide) dX10_ruleItem_285 ?_
                        refine ga_goto hR (pc := 287) 295 (by decide) dX10_ruleItem_287 ?_
                        exact ga_lv hR [2, 3, 4, 5, 0, 6] rfl h
            exact ga_lv hR [2, 3, 4, 5, 1, 0] rfl (L250 n _ _ _ _ _ _ _ _ h)
      · intro h
        have hJ := h (G 0 0 [(a 0, .inr (10, [.int x_rules, .int x_places, .ref (a 1), .ref (a 2), .ref (a 3), .int x_newRules, .int x_newPlaces, .ref (a 4), .ref (a 5), .ref (a 6), .ref (a 7), .ref (a 8), .int x_acts, .int x_kept, .int x_length, .ref (a 9), .int x_next_9, .int x_place, .int x_isWrong_10, .ref (a 10), .ref (a 11), .ref (a 12), .int x_parts, .int x_without, .ref (a 13), .ref (a 14), .ref (a 15), .ref (a 16), .int x_ways, .ref (a 17), .ref (a 18), .ref (a 19), .ref (a 20)])), (a 4, .inl (V.2 0, 12, .inl x_newRule)), (a 5, .inl (V.2 0, 10, .inl x_newTakes)), (a 6, .inl (V.2 0, 10, .inl x_newBehind)), (a 7, .inl (V.2 0, 61, .inl x_newSlot)), (a 9, .inl (V.2 2, 200, .inl x_text)), (a 10, .inl (V.2 0, 18, .inl x_firsts)), (a 11, .inl (V.2 0, 18, .inl x_lasts)), (a 12, .inl (V.2 1, 18, .inl x_mays))] 219 [(0, .ref (a 0)), (1, .int r_5), (2, .int x_next_6), (4, .int v4_8)] [.ref (a 0)])
        refine ga_bind hJ ?_ ?_
        · intro h
          show G 0 0 [(a 0, .inr (10, [.int x_rules, .int x_places, .ref (a 1), .ref (a 2), .ref (a 3), .int x_newRules, .int x_newPlaces, .ref (a 4), .ref (a 5), .ref (a 6), .ref (a 7), .ref (a 8), .int x_acts, .int x_kept, .int x_length, .ref (a 9), .int x_next_9, .int x_place, .int x_isWrong_10, .ref (a 10), .ref (a 11), .ref (a 12), .int x_parts, .int x_without, .ref (a 13), .ref (a 14), .ref (a 15), .ref (a 16), .int x_ways, .ref (a 17), .ref (a 18), .ref (a 19), .ref (a 20)])), (a 4, .inl (V.2 0, 12, .inl x_newRule)), (a 5, .inl (V.2 0, 10, .inl x_newTakes)), (a 6, .inl (V.2 0, 10, .inl x_newBehind)), (a 7, .inl (V.2 0, 61, .inl x_newSlot)), (a 9, .inl (V.2 2, 200, .inl x_text)), (a 10, .inl (V.2 0, 18, .inl x_firsts)), (a 11, .inl (V.2 0, 18, .inl x_lasts)), (a 12, .inl (V.2 1, 18, .inl x_mays))] 219 [(0, .ref (a 0)), (1, .int r_5), (2, .int x_next_6), (4, .int v4_8)] [.ref (a 0)]
          refine ga_iconst hR (pc := 219) (v := nI 1) (by decide) dX10_ruleItem_219 ?_
          refine ga_goto hR (pc := 220) 224 (by decide) dX10_ruleItem_220 ?_
          exact ga_lv hR [0, 1, 2, 3] rfl h
        · intro h
          refine ga_if_ne hR (pc := 204) 219 (by decide) dX10_ruleItem_204 (fun c204 => ?_) (fun c204 => ?_)
          · replace h := h.1 c204
            exact ga_lv hR [0, 1, 2, 3] rfl h
          · replace h := h.2 c204
            refine ga_aload_n hR (pc := 207) 0 rfl rfl dX10_ruleItem_207 ?_
            refine ga_get hR (pc := 208) 0 rfl rfl hinX10 6 (by decide) f111 rfl dX10_ruleItem_208 ?_
            refine ga_iload hR (pc := 211) 3 rfl dX10_ruleItem_211 ?_
            refine ga_iadd hR (pc := 213) dX10_ruleItem_213 ?_
            refine ga_bipush hR (pc := 214) (v := nI 10) (by decide) dX10_ruleItem_214 ?_
            refine ga_icmp_le hR (pc := 216) 223 (by decide) dX10_ruleItem_216 (fun c216 => ?_) (fun c216 => ?_)
            · replace h := h.1 c216
              refine ga_iconst hR (pc := 223) (v := nI 0) (by decide) dX10_ruleItem_223 ?_
              exact ga_lv hR [0, 1, 2, 3] rfl h
            · replace h := h.2 c216
              exact ga_lv hR [0, 1, 2, 3] rfl h
    · intro h
      obtain ⟨n, h⟩ := h
      have L38 : ∀ (n : Nat) (v3_115 : Int32) (v4_116 : Int32) (x_next_117 : Int32) (x_isWrong_118 : Int32), lp_X10_ruleItem_38 x_length x_text x_next_6 (fun (v4_8 : Int32) (x_next_9 : Int32) (x_isWrong_10 : Int32) => G 0 0 [(a 0, .inr (10, [.int x_rules, .int x_places, .ref (a 1), .ref (a 2), .ref (a 3), .int x_newRules, .int x_newPlaces, .ref (a 4), .ref (a 5), .ref (a 6), .ref (a 7), .ref (a 8), .int x_acts, .int x_kept, .int x_length, .ref (a 9), .int x_next_9, .int x_place, .int x_isWrong_10, .ref (a 10), .ref (a 11), .ref (a 12), .int x_parts, .int x_without, .ref (a 13), .ref (a 14), .ref (a 15), .ref (a 16), .int x_ways, .ref (a 17), .ref (a 18), .ref (a 19), .ref (a 20)])), (a 4, .inl (V.2 0, 12, .inl x_newRule)), (a 5, .inl (V.2 0, 10, .inl x_newTakes)), (a 6, .inl (V.2 0, 10, .inl x_newBehind)), (a 7, .inl (V.2 0, 61, .inl x_newSlot)), (a 9, .inl (V.2 2, 200, .inl x_text)), (a 10, .inl (V.2 0, 18, .inl x_firsts)), (a 11, .inl (V.2 0, 18, .inl x_lasts)), (a 12, .inl (V.2 1, 18, .inl x_mays))] 199 [(0, .ref (a 0)), (1, .int r_5), (2, .int x_next_6), (4, .int v4_8)] []) n v3_115 v4_116 x_next_117 x_isWrong_118 → G 0 0 [(a 0, .inr (10, [.int x_rules, .int x_places, .ref (a 1), .ref (a 2), .ref (a 3), .int x_newRules, .int x_newPlaces, .ref (a 4), .ref (a 5), .ref (a 6), .ref (a 7), .ref (a 8), .int x_acts, .int x_kept, .int x_length, .ref (a 9), .int x_next_117, .int x_place, .int x_isWrong_118, .ref (a 10), .ref (a 11), .ref (a 12), .int x_parts, .int x_without, .ref (a 13), .ref (a 14), .ref (a 15), .ref (a 16), .int x_ways, .ref (a 17), .ref (a 18), .ref (a 19), .ref (a 20)])), (a 4, .inl (V.2 0, 12, .inl x_newRule)), (a 5, .inl (V.2 0, 10, .inl x_newTakes)), (a 6, .inl (V.2 0, 10, .inl x_newBehind)), (a 7, .inl (V.2 0, 61, .inl x_newSlot)), (a 9, .inl (V.2 2, 200, .inl x_text)), (a 10, .inl (V.2 0, 18, .inl x_firsts)), (a 11, .inl (V.2 0, 18, .inl x_lasts)), (a 12, .inl (V.2 1, 18, .inl x_mays))] 38 [(0, .ref (a 0)), (1, .int r_5), (2, .int x_next_6), (3, .int v3_115), (4, .int v4_116)] [] := by
        intro n
        induction n with
        | zero => exact fun _ _ _ _ h => False.elim h
        | succ n ih =>
          intro v3_115 v4_116 x_next_117 x_isWrong_118 h
          rw [lp_X10_ruleItem_38] at h
          refine ga_aload_n hR (pc := 38) 0 rfl rfl dX10_ruleItem_38 ?_
          refine ga_get hR (pc := 39) 0 rfl rfl hinX10 18 (by decide) f158 rfl dX10_ruleItem_39 ?_
          refine ga_if_ne hR (pc := 42) 199 (by decide) dX10_ruleItem_42 (fun c42 => ?_) (fun c42 => ?_)
          · replace h := h.1 c42
            exact ga_lv hR [0, 1, 2, 4] rfl h
          · replace h := h.2 c42
            refine ga_iload_n hR (pc := 45) 3 rfl rfl dX10_ruleItem_45 ?_
            refine ga_if_le hR (pc := 46) 199 (by decide) dX10_ruleItem_46 (fun c46 => ?_) (fun c46 => ?_)
            · replace h := h.1 c46
              exact ga_lv hR [0, 1, 2, 4] rfl h
            · replace h := h.2 c46
              refine ga_aload_n hR (pc := 49) 0 rfl rfl dX10_ruleItem_49 ?_
              refine ga_aload_n hR (pc := 50) 0 rfl rfl dX10_ruleItem_50 ?_
              refine ga_get hR (pc := 51) 0 rfl rfl hinX10 16 (by decide) f151 rfl dX10_ruleItem_51 ?_
              refine ga_callV hR (pc := 54) (As := [.int x_next_117]) (rest := []) (st0 := [.int x_next_117, .ref (a 0)]) (b := (a 0)) 1 (c_X10_letterAt V a x_rules x_places x_newRules x_newPlaces x_acts x_kept x_next_117 x_place x_isWrong_118 x_parts x_without x_ways x_length x_text x_next_117 _ h) (ga_same_i fun _ => rfl) gX10_ruleItem_X10_letterAt rfl rfl rfl hd_X10_letterAt ⟨Nat.le_of_ble_eq_true rfl, Nat.le_of_ble_eq_true rfl⟩ rfl rfl (Nat.le_of_ble_eq_true rfl) ⟨Nat.zero_le _, Nat.zero_le _⟩ [0, 5] rfl rfl 0 rfl rfl dX10_ruleItem_54 ?_
              rintro _ _ ⟨r_119, ⟨⟩, rfl, rfl, h⟩
              refine ga_to [(a 0, .inr (10, [.int x_rules, .int x_places, .ref (a 1), .ref (a 2), .ref (a 3), .int x_newRules, .int x_newPlaces, .ref (a 4), .ref (a 5), .ref (a 6), .ref (a 7), .ref (a 8), .int x_acts, .int x_kept, .int x_length, .ref (a 9), .int x_next_117, .int x_place, .int x_isWrong_118, .ref (a 10), .ref (a 11), .ref (a 12), .int x_parts, .int x_without, .ref (a 13), .ref (a 14), .ref (a 15), .ref (a 16), .int x_ways, .ref (a 17), .ref (a 18), .ref (a 19), .ref (a 20)])), (a 4, .inl (V.2 0, 12, .inl x_newRule)), (a 5, .inl (V.2 0, 10, .inl x_newTakes)), (a 6, .inl (V.2 0, 10, .inl x_newBehind)), (a 7, .inl (V.2 0, 61, .inl x_newSlot)), (a 9, .inl (V.2 2, 200, .inl x_text)), (a 10, .inl (V.2 0, 18, .inl x_firsts)), (a 11, .inl (V.2 0, 18, .inl x_lasts)), (a 12, .inl (V.2 1, 18, .inl x_mays))] [.int r_119] rfl rfl ?_
              try dsimp only at h
              refine ga_istore hR (pc := 57) (lv' := [(5, .int r_119), (0, .ref (a 0)), (1, .int r_5), (2, .int x_next_6), (3, .int v3_115), (4, .int v4_116)]) (by decide) rfl dX10_ruleItem_57 ?_
              refine ga_iload hR (pc := 59) 0 rfl dX10_ruleItem_59 ?_
              refine ga_bipush hR (pc := 61) (v := nI 38) (by decide) dX10_ruleItem_61 ?_
              have hJ := h (fun (s0_120 : Int32) => G 0 0 [(a 0, .inr (10, [.int x_rules, .int x_places, .ref (a 1), .ref (a 2), .ref (a 3), .int x_newRules, .int x_newPlaces, .ref (a 4), .ref (a 5), .ref (a 6), .ref (a 7), .ref (a 8), .int x_acts, .int x_kept, .int x_length, .ref (a 9), .int x_next_117, .int x_place, .int x_isWrong_118, .ref (a 10), .ref (a 11), .ref (a 12), .int x_parts, .int x_without, .ref (a 13), .ref (a 14), .ref (a 15), .ref (a 16), .int x_ways, .ref (a 17), .ref (a 18), .ref (a 19), .ref (a 20)])), (a 4, .inl (V.2 0, 12, .inl x_newRule)), (a 5, .inl (V.2 0, 10, .inl x_newTakes)), (a 6, .inl (V.2 0, 10, .inl x_newBehind)), (a 7, .inl (V.2 0, 61, .inl x_newSlot)), (a 9, .inl (V.2 2, 200, .inl x_text)), (a 10, .inl (V.2 0, 18, .inl x_firsts)), (a 11, .inl (V.2 0, 18, .inl x_lasts)), (a 12, .inl (V.2 1, 18, .inl x_mays))] 78 [(0, .ref (a 0)), (1, .int r_5), (2, .int x_next_6), (3, .int v3_115), (4, .int v4_116), (5, .int r_119)] [.int s0_120])
              refine ga_bind hJ ?_ ?_
              · intro s0_120 h
                show G 0 0 [(a 0, .inr (10, [.int x_rules, .int x_places, .ref (a 1), .ref (a 2), .ref (a 3), .int x_newRules, .int x_newPlaces, .ref (a 4), .ref (a 5), .ref (a 6), .ref (a 7), .ref (a 8), .int x_acts, .int x_kept, .int x_length, .ref (a 9), .int x_next_117, .int x_place, .int x_isWrong_118, .ref (a 10), .ref (a 11), .ref (a 12), .int x_parts, .int x_without, .ref (a 13), .ref (a 14), .ref (a 15), .ref (a 16), .int x_ways, .ref (a 17), .ref (a 18), .ref (a 19), .ref (a 20)])), (a 4, .inl (V.2 0, 12, .inl x_newRule)), (a 5, .inl (V.2 0, 10, .inl x_newTakes)), (a 6, .inl (V.2 0, 10, .inl x_newBehind)), (a 7, .inl (V.2 0, 61, .inl x_newSlot)), (a 9, .inl (V.2 2, 200, .inl x_text)), (a 10, .inl (V.2 0, 18, .inl x_firsts)), (a 11, .inl (V.2 0, 18, .inl x_lasts)), (a 12, .inl (V.2 1, 18, .inl x_mays))] 78 [(0, .ref (a 0)), (1, .int r_5), (2, .int x_next_6), (3, .int v3_115), (4, .int v4_116), (5, .int r_119)] [.int s0_120]
                refine ga_istore hR (pc := 78) (lv' := [(6, .int s0_120), (0, .ref (a 0)), (1, .int r_5), (2, .int x_next_6), (3, .int v3_115), (4, .int v4_116), (5, .int r_119)]) (by decide) rfl dX10_ruleItem_78 ?_
                refine ga_iload hR (pc := 80) 6 rfl dX10_ruleItem_80 ?_
                refine ga_bipush hR (pc := 82) (v := nI 42) (by decide) dX10_ruleItem_82 ?_
                have hJ := h (fun (s0_122 : Int32) => G 0 0 [(a 0, .inr (10, [.int x_rules, .int x_places, .ref (a 1), .ref (a 2), .ref (a 3), .int x_newRules, .int x_newPlaces, .ref (a 4), .ref (a 5), .ref (a 6), .ref (a 7), .ref (a 8), .int x_acts, .int x_kept, .int x_length, .ref (a 9), .int x_next_117, .int x_place, .int x_isWrong_118, .ref (a 10), .ref (a 11), .ref (a 12), .int x_parts, .int x_without, .ref (a 13), .ref (a 14), .ref (a 15), .ref (a 16), .int x_ways, .ref (a 17), .ref (a 18), .ref (a 19), .ref (a 20)])), (a 4, .inl (V.2 0, 12, .inl x_newRule)), (a 5, .inl (V.2 0, 10, .inl x_newTakes)), (a 6, .inl (V.2 0, 10, .inl x_newBehind)), (a 7, .inl (V.2 0, 61, .inl x_newSlot)), (a 9, .inl (V.2 2, 200, .inl x_text)), (a 10, .inl (V.2 0, 18, .inl x_firsts)), (a 11, .inl (V.2 0, 18, .inl x_lasts)), (a 12, .inl (V.2 1, 18, .inl x_mays))] 106 [(0, .ref (a 0)), (1, .int r_5), (2, .int x_next_6), (3, .int v3_115), (4, .int v4_116), (5, .int r_119), (6, .int s0_120)] [.int s0_122])
                refine ga_bind hJ ?_ ?_
                · intro s0_122 h
                  show G 0 0 [(a 0, .inr (10, [.int x_rules, .int x_places, .ref (a 1), .ref (a 2), .ref (a 3), .int x_newRules, .int x_newPlaces, .ref (a 4), .ref (a 5), .ref (a 6), .ref (a 7), .ref (a 8), .int x_acts, .int x_kept, .int x_length, .ref (a 9), .int x_next_117, .int x_place, .int x_isWrong_118, .ref (a 10), .ref (a 11), .ref (a 12), .int x_parts, .int x_without, .ref (a 13), .ref (a 14), .ref (a 15), .ref (a 16), .int x_ways, .ref (a 17), .ref (a 18), .ref (a 19), .ref (a 20)])), (a 4, .inl (V.2 0, 12, .inl x_newRule)), (a 5, .inl (V.2 0, 10, .inl x_newTakes)), (a 6, .inl (V.2 0, 10, .inl x_newBehind)), (a 7, .inl (V.2 0, 61, .inl x_newSlot)), (a 9, .inl (V.2 2, 200, .inl x_text)), (a 10, .inl (V.2 0, 18, .inl x_firsts)), (a 11, .inl (V.2 0, 18, .inl x_lasts)), (a 12, .inl (V.2 1, 18, .inl x_mays))] 106 [(0, .ref (a 0)), (1, .int r_5), (2, .int x_next_6), (3, .int v3_115), (4, .int v4_116), (5, .int r_119), (6, .int s0_120)] [.int s0_122]
                  refine ga_istore hR (pc := 106) (lv' := [(7, .int s0_122), (0, .ref (a 0)), (1, .int r_5), (2, .int x_next_6), (3, .int v3_115), (4, .int v4_116), (5, .int r_119), (6, .int s0_120)]) (by decide) rfl dX10_ruleItem_106 ?_
                  refine ga_aload_n hR (pc := 108) 1 rfl rfl dX10_ruleItem_108 ?_
                  refine ga_aload_n hR (pc := 109) 1 rfl rfl dX10_ruleItem_109 ?_
                  refine ga_get hR (pc := 110) 0 rfl rfl hinX10 16 (by decide) f151 rfl dX10_ruleItem_110 ?_
                  refine ga_iload_n hR (pc := 113) 3 rfl rfl dX10_ruleItem_113 ?_
                  refine ga_isub hR (pc := 114) dX10_ruleItem_114 ?_
                  refine ga_bipush hR (pc := 115) (v := nI 16) (by decide) dX10_ruleItem_115 ?_
                  have hJ := h (fun (s1_124 : Int32) => G 0 0 [(a 0, .inr (10, [.int x_rules, .int x_places, .ref (a 1), .ref (a 2), .ref (a 3), .int x_newRules, .int x_newPlaces, .ref (a 4), .ref (a 5), .ref (a 6), .ref (a 7), .ref (a 8), .int x_acts, .int x_kept, .int x_length, .ref (a 9), .int x_next_117, .int x_place, .int x_isWrong_118, .ref (a 10), .ref (a 11), .ref (a 12), .int x_parts, .int x_without, .ref (a 13), .ref (a 14), .ref (a 15), .ref (a 16), .int x_ways, .ref (a 17), .ref (a 18), .ref (a 19), .ref (a 20)])), (a 4, .inl (V.2 0, 12, .inl x_newRule)), (a 5, .inl (V.2 0, 10, .inl x_newTakes)), (a 6, .inl (V.2 0, 10, .inl x_newBehind)), (a 7, .inl (V.2 0, 61, .inl x_newSlot)), (a 9, .inl (V.2 2, 200, .inl x_text)), (a 10, .inl (V.2 0, 18, .inl x_firsts)), (a 11, .inl (V.2 0, 18, .inl x_lasts)), (a 12, .inl (V.2 1, 18, .inl x_mays))] 143 [(0, .ref (a 0)), (1, .int r_5), (2, .int x_next_6), (3, .int v3_115), (4, .int v4_116), (5, .int r_119), (6, .int s0_120), (7, .int s0_122)] [.int s1_124, .ref (a 0)])
                  refine ga_bind hJ ?_ ?_
                  · intro s1_124 h
                    show G 0 0 [(a 0, .inr (10, [.int x_rules, .int x_places, .ref (a 1), .ref (a 2), .ref (a 3), .int x_newRules, .int x_newPlaces, .ref (a 4), .ref (a 5), .ref (a 6), .ref (a 7), .ref (a 8), .int x_acts, .int x_kept, .int x_length, .ref (a 9), .int x_next_117, .int x_place, .int x_isWrong_118, .ref (a 10), .ref (a 11), .ref (a 12), .int x_parts, .int x_without, .ref (a 13), .ref (a 14), .ref (a 15), .ref (a 16), .int x_ways, .ref (a 17), .ref (a 18), .ref (a 19), .ref (a 20)])), (a 4, .inl (V.2 0, 12, .inl x_newRule)), (a 5, .inl (V.2 0, 10, .inl x_newTakes)), (a 6, .inl (V.2 0, 10, .inl x_newBehind)), (a 7, .inl (V.2 0, 61, .inl x_newSlot)), (a 9, .inl (V.2 2, 200, .inl x_text)), (a 10, .inl (V.2 0, 18, .inl x_firsts)), (a 11, .inl (V.2 0, 18, .inl x_lasts)), (a 12, .inl (V.2 1, 18, .inl x_mays))] 143 [(0, .ref (a 0)), (1, .int r_5), (2, .int x_next_6), (3, .int v3_115), (4, .int v4_116), (5, .int r_119), (6, .int s0_120), (7, .int s0_122)] [.int s1_124, .ref (a 0)]
                    refine ga_putf hR (pc := 143) (ws' := [(a 0, .inr (10, [.int x_rules, .int x_places, .ref (a 1), .ref (a 2), .ref (a 3), .int x_newRules, .int x_newPlaces, .ref (a 4), .ref (a 5), .ref (a 6), .ref (a 7), .ref (a 8), .int x_acts, .int x_kept, .int x_length, .ref (a 9), .int x_next_117, .int x_place, .int s1_124, .ref (a 10), .ref (a 11), .ref (a 12), .int x_parts, .int x_without, .ref (a 13), .ref (a 14), .ref (a 15), .ref (a 16), .int x_ways, .ref (a 17), .ref (a 18), .ref (a 19), .ref (a 20)])), (a 4, .inl (V.2 0, 12, .inl x_newRule)), (a 5, .inl (V.2 0, 10, .inl x_newTakes)), (a 6, .inl (V.2 0, 10, .inl x_newBehind)), (a 7, .inl (V.2 0, 61, .inl x_newSlot)), (a 9, .inl (V.2 2, 200, .inl x_text)), (a 10, .inl (V.2 0, 18, .inl x_firsts)), (a 11, .inl (V.2 0, 18, .inl x_lasts)), (a 12, .inl (V.2 1, 18, .inl x_mays))]) 0 rfl rfl hinX10 18 (by decide) f158 tyX10_ok nmX10 rfl h.1.1 h.1.2 (Nat.le_of_ble_eq_true rfl) rfl dX10_ruleItem_143 ?_
                    replace h := h.2
                    refine ga_iload_n hR (pc := 146) 3 rfl rfl dX10_ruleItem_146 ?_
                    refine ga_iload hR (pc := 147) 6 rfl dX10_ruleItem_147 ?_
                    have hJ := h (fun (s1_126 : Int32) => G 0 0 [(a 0, .inr (10, [.int x_rules, .int x_places, .ref (a 1), .ref (a 2), .ref (a 3), .int x_newRules, .int x_newPlaces, .ref (a 4), .ref (a 5), .ref (a 6), .ref (a 7), .ref (a 8), .int x_acts, .int x_kept, .int x_length, .ref (a 9), .int x_next_117, .int x_place, .int s1_124, .ref (a 10), .ref (a 11), .ref (a 12), .int x_parts, .int x_without, .ref (a 13), .ref (a 14), .ref (a 15), .ref (a 16), .int x_ways, .ref (a 17), .ref (a 18), .ref (a 19), .ref (a 20)])), (a 4, .inl (V.2 0, 12, .inl x_newRule)), (a 5, .inl (V.2 0, 10, .inl x_newTakes)), (a 6, .inl (V.2 0, 10, .inl x_newBehind)), (a 7, .inl (V.2 0, 61, .inl x_newSlot)), (a 9, .inl (V.2 2, 200, .inl x_text)), (a 10, .inl (V.2 0, 18, .inl x_firsts)), (a 11, .inl (V.2 0, 18, .inl x_lasts)), (a 12, .inl (V.2 1, 18, .inl x_mays))] 166 [(0, .ref (a 0)), (1, .int r_5), (2, .int x_next_6), (4, .int v4_116), (5, .int r_119)] [.int s1_126, .int v3_115])
                    refine ga_bind hJ ?_ ?_
                    · intro s1_126 h
                      show G 0 0 [(a 0, .inr (10, [.int x_rules, .int x_places, .ref (a 1), .ref (a 2), .ref (a 3), .int x_newRules, .int x_newPlaces, .ref (a 4), .ref (a 5), .ref (a 6), .ref (a 7), .ref (a 8), .int x_acts, .int x_kept, .int x_length, .ref (a 9), .int x_next_117, .int x_place, .int s1_124, .ref (a 10), .ref (a 11), .ref (a 12), .int x_parts, .int x_without, .ref (a 13), .ref (a 14), .ref (a 15), .ref (a 16), .int x_ways, .ref (a 17), .ref (a 18), .ref (a 19), .ref (a 20)])), (a 4, .inl (V.2 0, 12, .inl x_newRule)), (a 5, .inl (V.2 0, 10, .inl x_newTakes)), (a 6, .inl (V.2 0, 10, .inl x_newBehind)), (a 7, .inl (V.2 0, 61, .inl x_newSlot)), (a 9, .inl (V.2 2, 200, .inl x_text)), (a 10, .inl (V.2 0, 18, .inl x_firsts)), (a 11, .inl (V.2 0, 18, .inl x_lasts)), (a 12, .inl (V.2 1, 18, .inl x_mays))] 166 [(0, .ref (a 0)), (1, .int r_5), (2, .int x_next_6), (4, .int v4_116), (5, .int r_119)] [.int s1_126, .int v3_115]
                      refine ga_iadd hR (pc := 166) dX10_ruleItem_166 ?_
                      refine ga_topi (fun v3_128 ev3_128 => ?_)
                      replace h := h v3_128 ev3_128
                      refine ga_istore_n hR (pc := 167) (lv' := [(3, .int v3_128), (0, .ref (a 0)), (1, .int r_5), (2, .int x_next_6), (4, .int v4_116), (5, .int r_119)]) rfl (by decide) rfl dX10_ruleItem_167 ?_
                      refine ga_iload hR (pc := 168) 4 rfl dX10_ruleItem_168 ?_
                      refine ga_iload hR (pc := 170) 5 rfl dX10_ruleItem_170 ?_
                      refine ga_callS hR (pc := 172) (As := [.int r_119]) (rest := [.int v4_116]) (st0 := [.int r_119, .int v4_116]) 1 (c_X10_isAtom V r_119 _ h) (ga_same_i fun _ => rfl) gX10_ruleItem_X10_isAtom rfl rfl rfl hd_X10_isAtomS ⟨Nat.le_of_ble_eq_true rfl, Nat.le_of_ble_eq_true rfl⟩ rfl rfl (Nat.le_of_ble_eq_true rfl) ⟨Nat.zero_le _, Nat.zero_le _⟩ [] rfl rfl dX10_ruleItem_172 ?_
                      rintro _ _ ⟨r_129, ⟨⟩, rfl, rfl, h⟩
                      refine ga_to [(a 0, .inr (10, [.int x_rules, .int x_places, .ref (a 1), .ref (a 2), .ref (a 3), .int x_newRules, .int x_newPlaces, .ref (a 4), .ref (a 5), .ref (a 6), .ref (a 7), .ref (a 8), .int x_acts, .int x_kept, .int x_length, .ref (a 9), .int x_next_117, .int x_place, .int s1_124, .ref (a 10), .ref (a 11), .ref (a 12), .int x_parts, .int x_without, .ref (a 13), .ref (a 14), .ref (a 15), .ref (a 16), .int x_ways, .ref (a 17), .ref (a 18), .ref (a 19), .ref (a 20)])), (a 4, .inl (V.2 0, 12, .inl x_newRule)), (a 5, .inl (V.2 0, 10, .inl x_newTakes)), (a 6, .inl (V.2 0, 10, .inl x_newBehind)), (a 7, .inl (V.2 0, 61, .inl x_newSlot)), (a 9, .inl (V.2 2, 200, .inl x_text)), (a 10, .inl (V.2 0, 18, .inl x_firsts)), (a 11, .inl (V.2 0, 18, .inl x_lasts)), (a 12, .inl (V.2 1, 18, .inl x_mays))] [.int r_129, .int v4_116] rfl rfl ?_
                      try dsimp only at h
                      refine ga_if_eq hR (pc := 175) 182 (by decide) dX10_ruleItem_175 (fun c175 => ?_) (fun c175 => ?_)
                      · replace h := h.1 c175
                        refine ga_iconst hR (pc := 182) (v := nI 0) (by decide) dX10_ruleItem_182 ?_
                        refine ga_iadd hR (pc := 183) dX10_ruleItem_183 ?_
                        refine ga_topi (fun v4_130 ev4_130 => ?_)
                        replace h := h v4_130 ev4_130
                        refine ga_istore hR (pc := 184) (lv' := [(4, .int v4_130), (3, .int v3_128), (0, .ref (a 0)), (1, .int r_5), (2, .int x_next_6), (5, .int r_119)]) (by decide) rfl dX10_ruleItem_184 ?_
                        refine ga_aload_n hR (pc := 186) 2 rfl rfl dX10_ruleItem_186 ?_
                        refine ga_dup hR (pc := 187) rfl dX10_ruleItem_187 ?_
                        refine ga_get hR (pc := 188) 0 rfl rfl hinX10 16 (by decide) f151 rfl dX10_ruleItem_188 ?_
                        refine ga_iconst hR (pc := 191) (v := nI 1) (by decide) dX10_ruleItem_191 ?_
                        refine ga_iadd hR (pc := 192) dX10_ruleItem_192 ?_
                        refine ga_topi (fun x_next_131 ex_next_131 => ?_)
                        replace h := h x_next_131 ex_next_131
                        refine ga_putf hR (pc := 193) (ws' := [(a 0, .inr (10, [.int x_rules, .int x_places, .ref (a 1), .ref (a 2), .ref (a 3), .int x_newRules, .int x_newPlaces, .ref (a 4), .ref (a 5), .ref (a 6), .ref (a 7), .ref (a 8), .int x_acts, .int x_kept, .int x_length, .ref (a 9), .int x_next_131, .int x_place, .int s1_124, .ref (a 10), .ref (a 11), .ref (a 12), .int x_parts, .int x_without, .ref (a 13), .ref (a 14), .ref (a 15), .ref (a 16), .int x_ways, .ref (a 17), .ref (a 18), .ref (a 19), .ref (a 20)])), (a 4, .inl (V.2 0, 12, .inl x_newRule)), (a 5, .inl (V.2 0, 10, .inl x_newTakes)), (a 6, .inl (V.2 0, 10, .inl x_newBehind)), (a 7, .inl (V.2 0, 61, .inl x_newSlot)), (a 9, .inl (V.2 2, 200, .inl x_text)), (a 10, .inl (V.2 0, 18, .inl x_firsts)), (a 11, .inl (V.2 0, 18, .inl x_lasts)), (a 12, .inl (V.2 1, 18, .inl x_mays))]) 0 rfl rfl hinX10 16 (by decide) f151 tyX10_ok nmX10 rfl rfl rfl (Nat.le_of_ble_eq_true rfl) rfl dX10_ruleItem_193 ?_
                        refine ga_goto hR (pc := 196) 38 (by decide) dX10_ruleItem_196 ?_
                        exact ga_lv hR [2, 3, 4, 1, 0] rfl (ih _ _ _ _ h)
                      · replace h := h.2 c175
                        refine ga_iconst hR (pc := 178) (v := nI 1) (by decide) dX10_ruleItem_178 ?_
                        refine ga_goto hR (pc := 179) 183 (by decide) dX10_ruleItem_179 ?_
                        refine ga_iadd hR (pc := 183) dX10_ruleItem_183 ?_
                        refine ga_topi (fun v4_132 ev4_132 => ?_)
                        replace h := h v4_132 ev4_132
                        refine ga_istore hR (pc := 184) (lv' := [(4, .int v4_132), (3, .int v3_128), (0, .ref (a 0)), (1, .int r_5), (2, .int x_next_6), (5, .int r_119)]) (by decide) rfl dX10_ruleItem_184 ?_
                        refine ga_aload_n hR (pc := 186) 2 rfl rfl dX10_ruleItem_186 ?_
                        refine ga_dup hR (pc := 187) rfl dX10_ruleItem_187 ?_
                        refine ga_get hR (pc := 188) 0 rfl rfl hinX10 16 (by decide) f151 rfl dX10_ruleItem_188 ?_
                        refine ga_iconst hR (pc := 191) (v := nI 1) (by decide) dX10_ruleItem_191 ?_
                        refine ga_iadd hR (pc := 192) dX10_ruleItem_192 ?_
                        refine ga_topi (fun x_next_133 ex_next_133 => ?_)
                        replace h := h x_next_133 ex_next_133
                        refine ga_putf hR (pc := 193) (ws' := [(a 0, .inr (10, [.int x_rules, .int x_places, .ref (a 1), .ref (a 2), .ref (a 3), .int x_newRules, .int x_newPlaces, .ref (a 4), .ref (a 5), .ref (a 6), .ref (a 7), .ref (a 8), .int x_acts, .int x_kept, .int x_length, .ref (a 9), .int x_next_133, .int x_place, .int s1_124, .ref (a 10), .ref (a 11), .ref (a 12), .int x_parts, .int x_without, .ref (a 13), .ref (a 14), .ref (a 15), .ref (a 16), .int x_ways, .ref (a 17), .ref (a 18), .ref (a 19), .ref (a 20)])), (a 4, .inl (V.2 0, 12, .inl x_newRule)), (a 5, .inl (V.2 0, 10, .inl x_newTakes)), (a 6, .inl (V.2 0, 10, .inl x_newBehind)), (a 7, .inl (V.2 0, 61, .inl x_newSlot)), (a 9, .inl (V.2 2, 200, .inl x_text)), (a 10, .inl (V.2 0, 18, .inl x_firsts)), (a 11, .inl (V.2 0, 18, .inl x_lasts)), (a 12, .inl (V.2 1, 18, .inl x_mays))]) 0 rfl rfl hinX10 16 (by decide) f151 tyX10_ok nmX10 rfl rfl rfl (Nat.le_of_ble_eq_true rfl) rfl dX10_ruleItem_193 ?_
                        refine ga_goto hR (pc := 196) 38 (by decide) dX10_ruleItem_196 ?_
                        exact ga_lv hR [2, 3, 4, 1, 0] rfl (ih _ _ _ _ h)
                    · intro h
                      refine ga_if_eq hR (pc := 149) 156 (by decide) dX10_ruleItem_149 (fun c149 => ?_) (fun c149 => ?_)
                      · replace h := h.1 c149
                        refine ga_iload hR (pc := 156) 7 rfl dX10_ruleItem_156 ?_
                        refine ga_if_eq hR (pc := 158) 165 (by decide) dX10_ruleItem_158 (fun c158 => ?_) (fun c158 => ?_)
                        · replace h := h.1 c158
                          refine ga_iconst hR (pc := 165) (v := -1) (by decide) dX10_ruleItem_165 ?_
                          exact ga_lv hR [0, 1, 2, 4, 5] rfl h
                        · replace h := h.2 c158
                          refine ga_iconst hR (pc := 161) (v := nI 0) (by decide) dX10_ruleItem_161 ?_
                          refine ga_goto hR (pc := 162) 166 (by decide) dX10_ruleItem_162 ?_
                          exact ga_lv hR [0, 1, 2, 4, 5] rfl h
                      · replace h := h.2 c149
                        refine ga_iconst hR (pc := 152) (v := nI 1) (by decide) dX10_ruleItem_152 ?_
                        refine ga_goto hR (pc := 153) 166 (by decide) dX10_ruleItem_153 ?_
                        exact ga_lv hR [0, 1, 2, 4, 5] rfl h
                  · intro h
                    have hJ := h (G 0 0 [(a 0, .inr (10, [.int x_rules, .int x_places, .ref (a 1), .ref (a 2), .ref (a 3), .int x_newRules, .int x_newPlaces, .ref (a 4), .ref (a 5), .ref (a 6), .ref (a 7), .ref (a 8), .int x_acts, .int x_kept, .int x_length, .ref (a 9), .int x_next_117, .int x_place, .int x_isWrong_118, .ref (a 10), .ref (a 11), .ref (a 12), .int x_parts, .int x_without, .ref (a 13), .ref (a 14), .ref (a 15), .ref (a 16), .int x_ways, .ref (a 17), .ref (a 18), .ref (a 19), .ref (a 20)])), (a 4, .inl (V.2 0, 12, .inl x_newRule)), (a 5, .inl (V.2 0, 10, .inl x_newTakes)), (a 6, .inl (V.2 0, 10, .inl x_newBehind)), (a 7, .inl (V.2 0, 61, .inl x_newSlot)), (a 9, .inl (V.2 2, 200, .inl x_text)), (a 10, .inl (V.2 0, 18, .inl x_firsts)), (a 11, .inl (V.2 0, 18, .inl x_lasts)), (a 12, .inl (V.2 1, 18, .inl x_mays))] 138 [(0, .ref (a 0)), (1, .int r_5), (2, .int x_next_6), (3, .int v3_115), (4, .int v4_116), (5, .int r_119), (6, .int s0_120), (7, .int s0_122)] [.ref (a 0)])
                    refine ga_bind hJ ?_ ?_
                    · intro h
                      show G 0 0 [(a 0, .inr (10, [.int x_rules, .int x_places, .ref (a 1), .ref (a 2), .ref (a 3), .int x_newRules, .int x_newPlaces, .ref (a 4), .ref (a 5), .ref (a 6), .ref (a 7), .ref (a 8), .int x_acts, .int x_kept, .int x_length, .ref (a 9), .int x_next_117, .int x_place, .int x_isWrong_118, .ref (a 10), .ref (a 11), .ref (a 12), .int x_parts, .int x_without, .ref (a 13), .ref (a 14), .ref (a 15), .ref (a 16), .int x_ways, .ref (a 17), .ref (a 18), .ref (a 19), .ref (a 20)])), (a 4, .inl (V.2 0, 12, .inl x_newRule)), (a 5, .inl (V.2 0, 10, .inl x_newTakes)), (a 6, .inl (V.2 0, 10, .inl x_newBehind)), (a 7, .inl (V.2 0, 61, .inl x_newSlot)), (a 9, .inl (V.2 2, 200, .inl x_text)), (a 10, .inl (V.2 0, 18, .inl x_firsts)), (a 11, .inl (V.2 0, 18, .inl x_lasts)), (a 12, .inl (V.2 1, 18, .inl x_mays))] 138 [(0, .ref (a 0)), (1, .int r_5), (2, .int x_next_6), (3, .int v3_115), (4, .int v4_116), (5, .int r_119), (6, .int s0_120), (7, .int s0_122)] [.ref (a 0)]
                      refine ga_iconst hR (pc := 138) (v := nI 1) (by decide) dX10_ruleItem_138 ?_
                      refine ga_goto hR (pc := 139) 143 (by decide) dX10_ruleItem_139 ?_
                      exact ga_lv hR [0, 1, 2, 3, 4, 5, 6, 7] rfl h
                    · intro h
                      refine ga_icmp_eq hR (pc := 117) 138 (by decide) dX10_ruleItem_117 (fun c117 => ?_) (fun c117 => ?_)
                      · replace h := h.1 c117
                        exact ga_lv hR [1, 2, 3, 4, 5, 6, 7, 0] rfl h
                      · replace h := h.2 c117
                        refine ga_iload hR (pc := 120) 7 rfl dX10_ruleItem_120 ?_
                        refine ga_if_ne hR (pc := 122) 142 (by decide) dX10_ruleItem_122 (fun c122 => ?_) (fun c122 => ?_)
                        · replace h := h.1 c122
                          refine ga_iconst hR (pc := 142) (v := nI 0) (by decide) dX10_ruleItem_142 ?_
                          exact ga_lv hR [1, 2, 3, 4, 5, 6, 7, 0] rfl h
                        · replace h := h.2 c122
                          refine ga_iload hR (pc := 125) 0 rfl dX10_ruleItem_125 ?_
                          refine ga_if_ne hR (pc := 127) 142 (by decide) dX10_ruleItem_127 (fun c127 => ?_) (fun c127 => ?_)
                          · replace h := h.1 c127
                            refine ga_iconst hR (pc := 142) (v := nI 0) (by decide) dX10_ruleItem_142 ?_
                            exact ga_lv hR [1, 2, 3, 4, 5, 6, 7, 0] rfl h
                          · replace h := h.2 c127
                            refine ga_iload hR (pc := 130) 6 rfl dX10_ruleItem_130 ?_
                            refine ga_callS hR (pc := 132) (As := [.int r_119]) (rest := [.ref (a 0)]) (st0 := [.int r_119, .ref (a 0)]) 1 (c_X10_isAtom V r_119 _ h) (ga_same_i fun _ => rfl) gX10_ruleItem_X10_isAtom rfl rfl rfl hd_X10_isAtomS ⟨Nat.le_of_ble_eq_true rfl, Nat.le_of_ble_eq_true rfl⟩ rfl rfl (Nat.le_of_ble_eq_true rfl) ⟨Nat.zero_le _, Nat.zero_le _⟩ [] rfl rfl dX10_ruleItem_132 ?_
                            rintro _ _ ⟨r_135, ⟨⟩, rfl, rfl, h⟩
                            refine ga_to [(a 0, .inr (10, [.int x_rules, .int x_places, .ref (a 1), .ref (a 2), .ref (a 3), .int x_newRules, .int x_newPlaces, .ref (a 4), .ref (a 5), .ref (a 6), .ref (a 7), .ref (a 8), .int x_acts, .int x_kept, .int x_length, .ref (a 9), .int x_next_117, .int x_place, .int x_isWrong_118, .ref (a 10), .ref (a 11), .ref (a 12), .int x_parts, .int x_without, .ref (a 13), .ref (a 14), .ref (a 15), .ref (a 16), .int x_ways, .ref (a 17), .ref (a 18), .ref (a 19), .ref (a 20)])), (a 4, .inl (V.2 0, 12, .inl x_newRule)), (a 5, .inl (V.2 0, 10, .inl x_newTakes)), (a 6, .inl (V.2 0, 10, .inl x_newBehind)), (a 7, .inl (V.2 0, 61, .inl x_newSlot)), (a 9, .inl (V.2 2, 200, .inl x_text)), (a 10, .inl (V.2 0, 18, .inl x_firsts)), (a 11, .inl (V.2 0, 18, .inl x_lasts)), (a 12, .inl (V.2 1, 18, .inl x_mays))] [.int r_135, .ref (a 0)] rfl rfl ?_
                            try dsimp only at h
                            refine ga_if_ne hR (pc := 135) 142 (by decide) dX10_ruleItem_135 (fun c135 => ?_) (fun c135 => ?_)
                            · replace h := h.1 c135
                              refine ga_iconst hR (pc := 142) (v := nI 0) (by decide) dX10_ruleItem_142 ?_
                              exact ga_lv hR [1, 2, 3, 4, 5, 6, 7, 0] rfl h
                            · replace h := h.2 c135
                              exact ga_lv hR [1, 2, 3, 4, 5, 6, 7, 0] rfl h
                · intro h
                  have hJ := h (G 0 0 [(a 0, .inr (10, [.int x_rules, .int x_places, .ref (a 1), .ref (a 2), .ref (a 3), .int x_newRules, .int x_newPlaces, .ref (a 4), .ref (a 5), .ref (a 6), .ref (a 7), .ref (a 8), .int x_acts, .int x_kept, .int x_length, .ref (a 9), .int x_next_117, .int x_place, .int x_isWrong_118, .ref (a 10), .ref (a 11), .ref (a 12), .int x_parts, .int x_without, .ref (a 13), .ref (a 14), .ref (a 15), .ref (a 16), .int x_ways, .ref (a 17), .ref (a 18), .ref (a 19), .ref (a 20)])), (a 4, .inl (V.2 0, 12, .inl x_newRule)), (a 5, .inl (V.2 0, 10, .inl x_newTakes)), (a 6, .inl (V.2 0, 10, .inl x_newBehind)), (a 7, .inl (V.2 0, 61, .inl x_newSlot)), (a 9, .inl (V.2 2, 200, .inl x_text)), (a 10, .inl (V.2 0, 18, .inl x_firsts)), (a 11, .inl (V.2 0, 18, .inl x_lasts)), (a 12, .inl (V.2 1, 18, .inl x_mays))] 101 [(0, .ref (a 0)), (1, .int r_5), (2, .int x_next_6), (3, .int v3_115), (4, .int v4_116), (5, .int r_119), (6, .int s0_120)] [])
                  refine ga_bind hJ ?_ ?_
                  · intro h
                    show G 0 0 [(a 0, .inr (10, [.int x_rules, .int x_places, .ref (a 1), .ref (a 2), .ref (a 3), .int x_newRules, .int x_newPlaces, .ref (a 4), .ref (a 5), .ref (a 6), .ref (a 7), .ref (a 8), .int x_acts, .int x_kept, .int x_length, .ref (a 9), .int x_next_117, .int x_place, .int x_isWrong_118, .ref (a 10), .ref (a 11), .ref (a 12), .int x_parts, .int x_without, .ref (a 13), .ref (a 14), .ref (a 15), .ref (a 16), .int x_ways, .ref (a 17), .ref (a 18), .ref (a 19), .ref (a 20)])), (a 4, .inl (V.2 0, 12, .inl x_newRule)), (a 5, .inl (V.2 0, 10, .inl x_newTakes)), (a 6, .inl (V.2 0, 10, .inl x_newBehind)), (a 7, .inl (V.2 0, 61, .inl x_newSlot)), (a 9, .inl (V.2 2, 200, .inl x_text)), (a 10, .inl (V.2 0, 18, .inl x_firsts)), (a 11, .inl (V.2 0, 18, .inl x_lasts)), (a 12, .inl (V.2 1, 18, .inl x_mays))] 101 [(0, .ref (a 0)), (1, .int r_5), (2, .int x_next_6), (3, .int v3_115), (4, .int v4_116), (5, .int r_119), (6, .int s0_120)] []
                    refine ga_iconst hR (pc := 101) (v := nI 1) (by decide) dX10_ruleItem_101 ?_
                    refine ga_goto hR (pc := 102) 106 (by decide) dX10_ruleItem_102 ?_
                    exact ga_lv hR [0, 1, 2, 3, 4, 5, 6] rfl h
                  · intro h
                    refine ga_icmp_eq hR (pc := 84) 101 (by decide) dX10_ruleItem_84 (fun c84 => ?_) (fun c84 => ?_)
                    · replace h := h.1 c84
                      exact ga_lv hR [1, 2, 3, 4, 5, 6, 0] rfl h
                    · replace h := h.2 c84
                      refine ga_iload hR (pc := 87) 6 rfl dX10_ruleItem_87 ?_
                      refine ga_bipush hR (pc := 89) (v := nI 43) (by decide) dX10_ruleItem_89 ?_
                      refine ga_icmp_eq hR (pc := 91) 101 (by decide) dX10_ruleItem_91 (fun c91 => ?_) (fun c91 => ?_)
                      · replace h := h.1 c91
                        exact ga_lv hR [1, 2, 3, 4, 5, 6, 0] rfl h
                      · replace h := h.2 c91
                        refine ga_iload hR (pc := 94) 6 rfl dX10_ruleItem_94 ?_
                        refine ga_bipush hR (pc := 96) (v := nI 63) (by decide) dX10_ruleItem_96 ?_
                        refine ga_icmp_ne hR (pc := 98) 105 (by decide) dX10_ruleItem_98 (fun c98 => ?_) (fun c98 => ?_)
                        · replace h := h.1 c98
                          refine ga_iconst hR (pc := 105) (v := nI 0) (by decide) dX10_ruleItem_105 ?_
                          exact ga_lv hR [1, 2, 3, 4, 5, 6, 0] rfl h
                        · replace h := h.2 c98
                          exact ga_lv hR [1, 2, 3, 4, 5, 6, 0] rfl h
              · intro h
                have hJ := h (G 0 0 [(a 0, .inr (10, [.int x_rules, .int x_places, .ref (a 1), .ref (a 2), .ref (a 3), .int x_newRules, .int x_newPlaces, .ref (a 4), .ref (a 5), .ref (a 6), .ref (a 7), .ref (a 8), .int x_acts, .int x_kept, .int x_length, .ref (a 9), .int x_next_117, .int x_place, .int x_isWrong_118, .ref (a 10), .ref (a 11), .ref (a 12), .int x_parts, .int x_without, .ref (a 13), .ref (a 14), .ref (a 15), .ref (a 16), .int x_ways, .ref (a 17), .ref (a 18), .ref (a 19), .ref (a 20)])), (a 4, .inl (V.2 0, 12, .inl x_newRule)), (a 5, .inl (V.2 0, 10, .inl x_newTakes)), (a 6, .inl (V.2 0, 10, .inl x_newBehind)), (a 7, .inl (V.2 0, 61, .inl x_newSlot)), (a 9, .inl (V.2 2, 200, .inl x_text)), (a 10, .inl (V.2 0, 18, .inl x_firsts)), (a 11, .inl (V.2 0, 18, .inl x_lasts)), (a 12, .inl (V.2 1, 18, .inl x_mays))] 73 [(0, .ref (a 0)), (1, .int r_5), (2, .int x_next_6), (3, .int v3_115), (4, .int v4_116), (5, .int r_119)] [])
                refine ga_bind hJ ?_ ?_
                · intro h
                  show G 0 0 [(a 0, .inr (10, [.int x_rules, .int x_places, .ref (a 1), .ref (a 2), .ref (a 3), .int x_newRules, .int x_newPlaces, .ref (a 4), .ref (a 5), .ref (a 6), .ref (a 7), .ref (a 8), .int x_acts, .int x_kept, .int x_length, .ref (a 9), .int x_next_117, .int x_place, .int x_isWrong_118, .ref (a 10), .ref (a 11), .ref (a 12), .int x_parts, .int x_without, .ref (a 13), .ref (a 14), .ref (a 15), .ref (a 16), .int x_ways, .ref (a 17), .ref (a 18), .ref (a 19), .ref (a 20)])), (a 4, .inl (V.2 0, 12, .inl x_newRule)), (a 5, .inl (V.2 0, 10, .inl x_newTakes)), (a 6, .inl (V.2 0, 10, .inl x_newBehind)), (a 7, .inl (V.2 0, 61, .inl x_newSlot)), (a 9, .inl (V.2 2, 200, .inl x_text)), (a 10, .inl (V.2 0, 18, .inl x_firsts)), (a 11, .inl (V.2 0, 18, .inl x_lasts)), (a 12, .inl (V.2 1, 18, .inl x_mays))] 73 [(0, .ref (a 0)), (1, .int r_5), (2, .int x_next_6), (3, .int v3_115), (4, .int v4_116), (5, .int r_119)] []
                  refine ga_iconst hR (pc := 73) (v := nI 1) (by decide) dX10_ruleItem_73 ?_
                  refine ga_goto hR (pc := 74) 78 (by decide) dX10_ruleItem_74 ?_
                  exact ga_lv hR [0, 1, 2, 3, 4, 5] rfl h
                · intro h
                  refine ga_icmp_eq hR (pc := 63) 73 (by decide) dX10_ruleItem_63 (fun c63 => ?_) (fun c63 => ?_)
                  · replace h := h.1 c63
                    exact ga_lv hR [1, 2, 3, 4, 5, 0] rfl h
                  · replace h := h.2 c63
                    refine ga_iload hR (pc := 66) 0 rfl dX10_ruleItem_66 ?_
                    refine ga_bipush hR (pc := 68) (v := nI 124) (by decide) dX10_ruleItem_68 ?_
                    refine ga_icmp_ne hR (pc := 70) 77 (by decide) dX10_ruleItem_70 (fun c70 => ?_) (fun c70 => ?_)
                    · replace h := h.1 c70
                      refine ga_iconst hR (pc := 77) (v := nI 0) (by decide) dX10_ruleItem_77 ?_
                      exact ga_lv hR [1, 2, 3, 4, 5, 0] rfl h
                    · replace h := h.2 c70
                      exact ga_lv hR [1, 2, 3, 4, 5, 0] rfl h
      exact ga_lv hR [4, 3, 2, 1, 0] rfl (L38 n _ _ _ _ h)
  · intro h
    refine ga_icmp_ne hR (pc := 6) 13 (by decide) dX10_ruleItem_6 (fun c6 => ?_) (fun c6 => ?_)
    · replace h := h.1 c6
      refine ga_iconst hR (pc := 13) (v := nI 0) (by decide) dX10_ruleItem_13 ?_
      exact ga_lv hR [0] rfl h
    · replace h := h.2 c6
      refine ga_iconst hR (pc := 9) (v := nI 1) (by decide) dX10_ruleItem_9 ?_
      refine ga_goto hR (pc := 10) 14 (by decide) dX10_ruleItem_10 ?_
      exact ga_lv hR [0] rfl h
