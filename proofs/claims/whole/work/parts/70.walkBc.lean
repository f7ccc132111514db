def rm_X10_pieces : Room := { frames := 0, cells := 0, slots := 0, locals := 0 }
theorem hd_X10_piecesS : yX10_pieces.cls ≠ "java/lang/invoke/MethodHandle" ∧ yX10_pieces.cls ≠ "java/lang/invoke/VarHandle" ∧ (parseMethodDescriptor yX10_pieces.desc).map (fun d => d.parameters.length) = some 1 := by decide +kernel
theorem hd_X10_pieces : yX10_pieces.cls = RX10 ∧ yX10_pieces.cls ≠ "java/lang/invoke/MethodHandle" ∧ yX10_pieces.cls ≠ "java/lang/invoke/VarHandle" ∧ (parseMethodDescriptor yX10_pieces.desc).map (fun d => d.parameters.length) = some 1 := ⟨rfl, hd_X10_piecesS⟩
set_option maxHeartbeats 4000000 in
set_option maxRecDepth 100000 in
theorem c_X10_pieces (V : ga_V) (a : Nat → Nat) (x_rules : Int32) (x_places : Int32) (x_newRules : Int32) (x_newPlaces : Int32) (x_acts : Int32) (x_kept : Int32) (x_length : Int32) (x_next : Int32) (x_place : Int32) (x_isWrong : Int32) (x_parts : Int32) (x_without : Int32) (x_ways : Int32) (x_slot : Nat → Int32) (x_parted : Nat → Int32) (p1 : Int32) (K : Int32 → Prop) (h : wp_X10_pieces x_slot x_parted p1 K) : ga_C V yX10_pieces wsX10_pieces rm_X10_pieces [.ref (a 0), .int p1] [(a 0, .inr (10, [.int x_rules, .int x_places, .ref (a 1), .ref (a 2), .ref (a 3), .int x_newRules, .int x_newPlaces, .ref (a 4), .ref (a 5), .ref (a 6), .ref (a 7), .ref (a 8), .int x_acts, .int x_kept, .int x_length, .ref (a 9), .int x_next, .int x_place, .int x_isWrong, .ref (a 10), .ref (a 11), .ref (a 12), .int x_parts, .int x_without, .ref (a 13), .ref (a 14), .ref (a 15), .ref (a 16), .int x_ways, .ref (a 17), .ref (a 18), .ref (a 19), .ref (a 20)])), (a 8, .inl (V.2 0, 732, .inl x_slot)), (a 14, .inl (V.2 1, 31, .inl x_parted))] 0 0 (ga_Fi (fun (u : Unit) => [(a 0, .inr (10, [.int x_rules, .int x_places, .ref (a 1), .ref (a 2), .ref (a 3), .int x_newRules, .int x_newPlaces, .ref (a 4), .ref (a 5), .ref (a 6), .ref (a 7), .ref (a 8), .int x_acts, .int x_kept, .int x_length, .ref (a 9), .int x_next, .int x_place, .int x_isWrong, .ref (a 10), .ref (a 11), .ref (a 12), .int x_parts, .int x_without, .ref (a 13), .ref (a 14), .ref (a 15), .ref (a 16), .int x_ways, .ref (a 17), .ref (a 18), .ref (a 19), .ref (a 20)])), (a 8, .inl (V.2 0, 732, .inl x_slot)), (a 14, .inl (V.2 1, 31, .inl x_parted))]) (fun r u => K r)) := by
  refine ga_met (cc := cX10_pieces) (maxL := 4) (rt := (some .int)) (by decide) rfl [(0, .ref (a 0)), (1, .int p1)] rfl (Nat.le_of_ble_eq_true rfl) ?_
  intro G hR hE
  have hinX10 : ∀ w ∈ u_ws RX10 TX10 33, w ∈ wsX10_pieces := by decide +kernel
  have f31 : Cond.fieldLink RX10 31 "BoundaryRulesModel" "slot" "[I" ∈ wsX10_pieces := by decide +kernel
  have f51 : Cond.fieldLink RX10 51 "BoundaryRulesModel" "parted" "[Z" ∈ wsX10_pieces := by decide +kernel
  unfold wp_X10_pieces at h
  refine ga_iconst hR (pc := 0) (v := nI 0) (by decide) dX10_pieces_0 ?_
  refine ga_istore_n hR (pc := 1) (lv' := [(2, .int (nI 0)), (0, .ref (a 0)), (1, .int p1)]) rfl (by decide) rfl dX10_pieces_1 ?_
  refine ga_iconst hR (pc := 2) (v := nI 0) (by decide) dX10_pieces_2 ?_
  refine ga_istore_n hR (pc := 3) (lv' := [(3, .int (nI 0)), (2, .int (nI 0)), (0, .ref (a 0)), (1, .int p1)]) rfl (by decide) rfl dX10_pieces_3 ?_
  have hJ := h (fun (v2_1 : Int32) => G 0 0 [(a 0, .inr (10, [.int x_rules, .int x_places, .ref (a 1), .ref (a 2), .ref (a 3), .int x_newRules, .int x_newPlaces, .ref (a 4), .ref (a 5), .ref (a 6), .ref (a 7), .ref (a 8), .int x_acts, .int x_kept, .int x_length, .ref (a 9), .int x_next, .int x_place, .int x_isWrong, .ref (a 10), .ref (a 11), .ref (a 12), .int x_parts, .int x_without, .ref (a 13), .ref (a 14), .ref (a 15), .ref (a 16), .int x_ways, .ref (a 17), .ref (a 18), .ref (a 19), .ref (a 20)])), (a 8, .inl (V.2 0, 732, .inl x_slot)), (a 14, .inl (V.2 1, 31, .inl x_parted))] 40 [(2, .int v2_1)] [])
  refine ga_bind hJ ?_ ?_
  · intro v2_1 h
    show G 0 0 [(a 0, .inr (10, [.int x_rules, .int x_places, .ref (a 1), .ref (a 2), .ref (a 3), .int x_newRules, .int x_newPlaces, .ref (a 4), .ref (a 5), .ref (a 6), .ref (a 7), .ref (a 8), .int x_acts, .int x_kept, .int x_length, .ref (a 9), .int x_next, .int x_place, .int x_isWrong, .ref (a 10), .ref (a 11), .ref (a 12), .int x_parts, .int x_without, .ref (a 13), .ref (a 14), .ref (a 15), .ref (a 16), .int x_ways, .ref (a 17), .ref (a 18), .ref (a 19), .ref (a 20)])), (a 8, .inl (V.2 0, 732, .inl x_slot)), (a 14, .inl (V.2 1, 31, .inl x_parted))] 40 [(2, .int v2_1)] []
    refine ga_iload_n hR (pc := 40) 0 rfl rfl dX10_pieces_40 ?_
    exact ga_iret hE dX10_pieces_41 rfl (ga_ri () rfl h)
  · intro h
    obtain ⟨n, h⟩ := h
    have L4 : ∀ (n : Nat) (v2_7 : Int32) (v3_8 : Int32), lp_X10_pieces_4 x_slot x_parted p1 (fun (v2_1 : Int32) => G 0 0 [(a 0, .inr (10, [.int x_rules, .int x_places, .ref (a 1), .ref (a 2), .ref (a 3), .int x_newRules, .int x_newPlaces, .ref (a 4), .ref (a 5), .ref (a 6), .ref (a 7), .ref (a 8), .int x_acts, .int x_kept, .int x_length, .ref (a 9), .int x_next, .int x_place, .int x_isWrong, .ref (a 10), .ref (a 11), .ref (a 12), .int x_parts, .int x_without, .ref (a 13), .ref (a 14), .ref (a 15), .ref (a 16), .int x_ways, .ref (a 17), .ref (a 18), .ref (a 19), .ref (a 20)])), (a 8, .inl (V.2 0, 732, .inl x_slot)), (a 14, .inl (V.2 1, 31, .inl x_parted))] 40 [(2, .int v2_1)] []) n v2_7 v3_8 → G 0 0 [(a 0, .inr (10, [.int x_rules, .int x_places, .ref (a 1), .ref (a 2), .ref (a 3), .int x_newRules, .int x_newPlaces, .ref (a 4), .ref (a 5), .ref (a 6), .ref (a 7), .ref (a 8), .int x_acts, .int x_kept, .int x_length, .ref (a 9), .int x_next, .int x_place, .int x_isWrong, .ref (a 10), .ref (a 11), .ref (a 12), .int x_parts, .int x_without, .ref (a 13), .ref (a 14), .ref (a 15), .ref (a 16), .int x_ways, .ref (a 17), .ref (a 18), .ref (a 19), .ref (a 20)])), (a 8, .inl (V.2 0, 732, .inl x_slot)), (a 14, .inl (V.2 1, 31, .inl x_parted))] 4 [(0, .ref (a 0)), (1, .int p1), (2, .int v2_7), (3, .int v3_8)] [] := by
      intro n
      induction n with
      | zero => exact fun _ _ h => False.elim h
      | succ n ih =>
        intro v2_7 v3_8 h
        rw [lp_X10_pieces_4] at h
        refine ga_iload_n hR (pc := 4) 3 rfl rfl dX10_pieces_4 ?_
        refine ga_aload_n hR (pc := 5) 0 rfl rfl dX10_pieces_5 ?_
        refine ga_get hR (pc := 6) 0 rfl rfl hinX10 11 (by decide) f31 rfl dX10_pieces_6 ?_
        refine ga_iload_n hR (pc := 9) 1 rfl rfl dX10_pieces_9 ?_
        refine ga_bipush hR (pc := 10) (v := nI 30) (by decide) dX10_pieces_10 ?_
        refine ga_iadd hR (pc := 12) dX10_pieces_12 ?_
        refine ga_iald hR (pc := 13) 1 rfl h.1 dX10_pieces_13 ?_
        replace h := h.2
        refine ga_icmp_ge hR (pc := 14) 40 (by decide) dX10_pieces_14 (fun c14 => ?_) (fun c14 => ?_)
        · replace h := h.1 c14
          exact ga_lv hR [2] rfl h
        · replace h := h.2 c14
          refine ga_iload_n hR (pc := 17) 2 rfl rfl dX10_pieces_17 ?_
          refine ga_aload_n hR (pc := 18) 0 rfl rfl dX10_pieces_18 ?_
          refine ga_get hR (pc := 19) 0 rfl rfl hinX10 25 (by decide) f51 rfl dX10_pieces_19 ?_
          refine ga_iload_n hR (pc := 22) 3 rfl rfl dX10_pieces_22 ?_
          refine ga_zald hR (pc := 23) 2 rfl h.1 dX10_pieces_23 ?_
          replace h := h.2
          refine ga_if_eq hR (pc := 24) 31 (by decide) dX10_pieces_24 (fun c24 => ?_) (fun c24 => ?_)
          · replace h := h.1 c24
            refine ga_iconst hR (pc := 31) (v := nI 0) (by decide) dX10_pieces_31 ?_
            refine ga_iadd hR (pc := 32) dX10_pieces_32 ?_
            refine ga_topi (fun v2_9 ev2_9 => ?_)
            replace h := h v2_9 ev2_9
            refine ga_istore_n hR (pc := 33) (lv' := [(2, .int v2_9), (0, .ref (a 0)), (1, .int p1), (3, .int v3_8)]) rfl (by decide) rfl dX10_pieces_33 ?_
            obtain ⟨v3_10, ev3_10⟩ : ∃ v : Int32, v = v3_8 + (nI 1) := ⟨_, rfl⟩
            replace h := h v3_10 ev3_10
            refine ga_iinc hR (pc := 34) (lv' := [(3, .int v3_10), (2, .int v2_9), (0, .ref (a 0)), (1, .int p1)]) 3 (by decide) rfl ev3_10 (by decide) rfl dX10_pieces_34 ?_
            refine ga_goto hR (pc := 37) 4 (by decide) dX10_pieces_37 ?_
            exact ga_lv hR [2, 3, 1, 0] rfl (ih _ _ h)
          · replace h := h.2 c24
            refine ga_iconst hR (pc := 27) (v := nI 1) (by decide) dX10_pieces_27 ?_
            refine ga_goto hR (pc := 28) 32 (by decide) dX10_pieces_28 ?_
            refine ga_iadd hR (pc := 32) dX10_pieces_32 ?_
            refine ga_topi (fun v2_11 ev2_11 => ?_)
            replace h := h v2_11 ev2_11
            refine ga_istore_n hR (pc := 33) (lv' := [(2, .int v2_11), (0, .ref (a 0)), (1, .int p1), (3, .int v3_8)]) rfl (by decide) rfl dX10_pieces_33 ?_
            obtain ⟨v3_12, ev3_12⟩ : ∃ v : Int32, v = v3_8 + (nI 1) := ⟨_, rfl⟩
            replace h := h v3_12 ev3_12
            refine ga_iinc hR (pc := 34) (lv' := [(3, .int v3_12), (2, .int v2_11), (0, .ref (a 0)), (1, .int p1)]) 3 (by decide) rfl ev3_12 (by decide) rfl dX10_pieces_34 ?_
            refine ga_goto hR (pc := 37) 4 (by decide) dX10_pieces_37 ?_
            exact ga_lv hR [2, 3, 1, 0] rfl (ih _ _ h)
    exact ga_lv hR [2, 3, 1, 0] rfl (L4 n _ _ h)

def rm_X10_isBoundary : Room := { frames := 4, cells := 0, slots := 0, locals := 99 }
theorem hd_X10_isBoundaryS : yX10_isBoundary.cls ≠ "java/lang/invoke/MethodHandle" ∧ yX10_isBoundary.cls ≠ "java/lang/invoke/VarHandle" ∧ (parseMethodDescriptor yX10_isBoundary.desc).map (fun d => d.parameters.length) = some 1 := by decide +kernel
theorem hd_X10_isBoundary : yX10_isBoundary.cls = RX10 ∧ yX10_isBoundary.cls ≠ "java/lang/invoke/MethodHandle" ∧ yX10_isBoundary.cls ≠ "java/lang/invoke/VarHandle" ∧ (parseMethodDescriptor yX10_isBoundary.desc).map (fun d => d.parameters.length) = some 1 := ⟨rfl, hd_X10_isBoundaryS⟩
set_option maxHeartbeats 4000000 in
set_option maxRecDepth 100000 in
theorem c_X10_isBoundary (V : ga_V) (a : Nat → Nat) (x_newRules : Int32) (x_newPlaces : Int32) (x_acts : Int32) (x_kept : Int32) (x_length : Int32) (x_next : Int32) (x_place : Int32) (x_isWrong : Int32) (x_parts : Int32) (x_ways : Int32) (x_rules : Int32) (x_places : Int32) (x_without : Int32) (x_rule : Nat → Int32) (x_takes : Nat → Int32) (x_behind : Nat → Int32) (x_slot : Nat → Int32) (x_stood : Nat → Int32) (x_parted : Nat → Int32) (p1 : Int32) (K : Int32 → (Nat → Int32) → (Nat → Int32) → Prop) (h : wp_X10_isBoundary x_rules x_places x_without x_rule x_takes x_behind x_slot x_stood x_parted p1 K) : ga_C V yX10_isBoundary wsX10_isBoundary rm_X10_isBoundary [.ref (a 0), .int p1] [(a 0, .inr (10, [.int x_rules, .int x_places, .ref (a 1), .ref (a 2), .ref (a 3), .int x_newRules, .int x_newPlaces, .ref (a 4), .ref (a 5), .ref (a 6), .ref (a 7), .ref (a 8), .int x_acts, .int x_kept, .int x_length, .ref (a 9), .int x_next, .int x_place, .int x_isWrong, .ref (a 10), .ref (a 11), .ref (a 12), .int x_parts, .int x_without, .ref (a 13), .ref (a 14), .ref (a 15), .ref (a 16), .int x_ways, .ref (a 17), .ref (a 18), .ref (a 19), .ref (a 20)])), (a 1, .inl (V.2 0, 12, .inl x_rule)), (a 2, .inl (V.2 0, 10, .inl x_takes)), (a 3, .inl (V.2 0, 10, .inl x_behind)), (a 8, .inl (V.2 0, 732, .inl x_slot)), (a 13, .inl (V.2 0, 31, .inl x_stood)), (a 14, .inl (V.2 1, 31, .inl x_parted))] 0 0 (ga_Fi (fun (u : (Nat → Int32) × (Nat → Int32)) => [(a 0, .inr (10, [.int x_rules, .int x_places, .ref (a 1), .ref (a 2), .ref (a 3), .int x_newRules, .int x_newPlaces, .ref (a 4), .ref (a 5), .ref (a 6), .ref (a 7), .ref (a 8), .int x_acts, .int x_kept, .int x_length, .ref (a 9), .int x_next, .int x_place, .int x_isWrong, .ref (a 10), .ref (a 11), .ref (a 12), .int x_parts, .int x_without, .ref (a 13), .ref (a 14), .ref (a 15), .ref (a 16), .int x_ways, .ref (a 17), .ref (a 18), .ref (a 19), .ref (a 20)])), (a 1, .inl (V.2 0, 12, .inl x_rule)), (a 2, .inl (V.2 0, 10, .inl x_takes)), (a 3, .inl (V.2 0, 10, .inl x_behind)), (a 8, .inl (V.2 0, 732, .inl x_slot)), (a 13, .inl (V.2 0, 31, .inl u.1)), (a 14, .inl (V.2 1, 31, .inl u.2))]) (fun r u => K r u.1 u.2)) := by
  refine ga_met (cc := cX10_isBoundary) (maxL := 2) (rt := (some .int)) (by decide) rfl [(0, .ref (a 0)), (1, .int p1)] rfl (Nat.le_of_ble_eq_true rfl) ?_
  intro G hR hE
  have hinX10 : ∀ w ∈ u_ws RX10 TX10 33, w ∈ wsX10_isBoundary := by decide +kernel
  have f51 : Cond.fieldLink RX10 51 "BoundaryRulesModel" "parted" "[Z" ∈ wsX10_isBoundary := by decide +kernel
  unfold wp_X10_isBoundary at h
  refine ga_aload_n hR (pc := 0) 0 rfl rfl dX10_isBoundary_0 ?_
  refine ga_iload_n hR (pc := 1) 1 rfl rfl dX10_isBoundary_1 ?_
  refine ga_callV hR (pc := 2) (As := [.int p1]) (rest := []) (st0 := [.int p1, .ref (a 0)]) (b := (a 0)) 1 (c_X10_isPlace V a x_rules x_places x_newRules x_newPlaces x_acts x_kept x_length x_next x_place x_isWrong x_parts x_without x_ways x_slot p1 _ h) (ga_same_i fun _ => rfl) gX10_isBoundary_X10_isPlace rfl rfl rfl hd_X10_isPlace ⟨Nat.le_of_ble_eq_true rfl, Nat.le_of_ble_eq_true rfl⟩ rfl rfl (Nat.le_of_ble_eq_true rfl) ⟨Nat.zero_le _, Nat.zero_le _⟩ [0, 4] rfl rfl 0 rfl rfl dX10_isBoundary_2 ?_
  rintro _ _ ⟨r_1, ⟨⟩, rfl, rfl, h⟩
  refine ga_to [(a 0, .inr (10, [.int x_rules, .int x_places, .ref (a 1), .ref (a 2), .ref (a 3), .int x_newRules, .int x_newPlaces, .ref (a 4), .ref (a 5), .ref (a 6), .ref (a 7), .ref (a 8), .int x_acts, .int x_kept, .int x_length, .ref (a 9), .int x_next, .int x_place, .int x_isWrong, .ref (a 10), .ref (a 11), .ref (a 12), .int x_parts, .int x_without, .ref (a 13), .ref (a 14), .ref (a 15), .ref (a 16), .int x_ways, .ref (a 17), .ref (a 18), .ref (a 19), .ref (a 20)])), (a 1, .inl (V.2 0, 12, .inl x_rule)), (a 2, .inl (V.2 0, 10, .inl x_takes)), (a 3, .inl (V.2 0, 10, .inl x_behind)), (a 8, .inl (V.2 0, 732, .inl x_slot)), (a 13, .inl (V.2 0, 31, .inl x_stood)), (a 14, .inl (V.2 1, 31, .inl x_parted))] [.int r_1] rfl rfl ?_
  try dsimp only at h
  refine ga_if_ne hR (pc := 5) 10 (by decide) dX10_isBoundary_5 (fun c5 => ?_) (fun c5 => ?_)
  · replace h := h.1 c5
    refine ga_aload_n hR (pc := 10) 0 rfl rfl dX10_isBoundary_10 ?_
    refine ga_iconst hR (pc := 11) (v := nI 0) (by decide) dX10_isBoundary_11 ?_
    refine ga_callV hR (pc := 12) (As := [.int (nI 0)]) (rest := []) (st0 := [.int (nI 0), .ref (a 0)]) (b := (a 0)) 1 (c_X10_walks V a x_newRules x_newPlaces x_acts x_kept x_length x_next x_place x_isWrong x_parts x_ways x_rules x_places x_without x_rule x_takes x_behind x_slot x_stood x_parted (nI 0) _ h) (ga_same_v fun _ => rfl) gX10_isBoundary_X10_walks rfl rfl rfl hd_X10_walks ⟨Nat.le_of_ble_eq_true rfl, Nat.le_of_ble_eq_true rfl⟩ rfl rfl (Nat.le_of_ble_eq_true rfl) ⟨Nat.zero_le _, Nat.zero_le _⟩ [0, 1, 2, 3, 4, 5, 6] rfl rfl 0 rfl rfl dX10_isBoundary_12 ?_
    rintro _ _ ⟨⟨x_stood_2, x_parted_3⟩, rfl, rfl, h⟩
    refine ga_to [(a 0, .inr (10, [.int x_rules, .int x_places, .ref (a 1), .ref (a 2), .ref (a 3), .int x_newRules, .int x_newPlaces, .ref (a 4), .ref (a 5), .ref (a 6), .ref (a 7), .ref (a 8), .int x_acts, .int x_kept, .int x_length, .ref (a 9), .int x_next, .int x_place, .int x_isWrong, .ref (a 10), .ref (a 11), .ref (a 12), .int x_parts, .int x_without, .ref (a 13), .ref (a 14), .ref (a 15), .ref (a 16), .int x_ways, .ref (a 17), .ref (a 18), .ref (a 19), .ref (a 20)])), (a 1, .inl (V.2 0, 12, .inl x_rule)), (a 2, .inl (V.2 0, 10, .inl x_takes)), (a 3, .inl (V.2 0, 10, .inl x_behind)), (a 8, .inl (V.2 0, 732, .inl x_slot)), (a 13, .inl (V.2 0, 31, .inl x_stood_2)), (a 14, .inl (V.2 1, 31, .inl x_parted_3))] [] rfl rfl ?_
    try dsimp only at h
    refine ga_aload_n hR (pc := 15) 0 rfl rfl dX10_isBoundary_15 ?_
    refine ga_get hR (pc := 16) 0 rfl rfl hinX10 25 (by decide) f51 rfl dX10_isBoundary_16 ?_
    refine ga_iload_n hR (pc := 19) 1 rfl rfl dX10_isBoundary_19 ?_
    refine ga_zald hR (pc := 20) 6 rfl h.1 dX10_isBoundary_20 ?_
    replace h := h.2
    refine ga_if_eq hR (pc := 21) 28 (by decide) dX10_isBoundary_21 (fun c21 => ?_) (fun c21 => ?_)
    · replace h := h.1 c21
      refine ga_iconst hR (pc := 28) (v := nI 0) (by decide) dX10_isBoundary_28 ?_
      exact ga_iret hE dX10_isBoundary_29 rfl (ga_ri (x_stood_2, x_parted_3) rfl h)
    · replace h := h.2 c21
      refine ga_iconst hR (pc := 24) (v := nI 1) (by decide) dX10_isBoundary_24 ?_
      refine ga_goto hR (pc := 25) 29 (by decide) dX10_isBoundary_25 ?_
      exact ga_iret hE dX10_isBoundary_29 rfl (ga_ri (x_stood_2, x_parted_3) rfl h)
  · replace h := h.2 c5
    refine ga_iconst hR (pc := 8) (v := -1) (by decide) dX10_isBoundary_8 ?_
    exact ga_iret hE dX10_isBoundary_9 rfl (ga_ri (x_stood, x_parted) rfl h)

def rm_X10_boundary : Room := { frames := 4, cells := 0, slots := 0, locals := 99 }
theorem hd_X10_boundaryS : yX10_boundary.cls ≠ "java/lang/invoke/MethodHandle" ∧ yX10_boundary.cls ≠ "java/lang/invoke/VarHandle" ∧ (parseMethodDescriptor yX10_boundary.desc).map (fun d => d.parameters.length) = some 2 := by decide +kernel
theorem hd_X10_boundary : yX10_boundary.cls = RX10 ∧ yX10_boundary.cls ≠ "java/lang/invoke/MethodHandle" ∧ yX10_boundary.cls ≠ "java/lang/invoke/VarHandle" ∧ (parseMethodDescriptor yX10_boundary.desc).map (fun d => d.parameters.length) = some 2 := ⟨rfl, hd_X10_boundaryS⟩
set_option maxHeartbeats 4000000 in
set_option maxRecDepth 100000 in
theorem c_X10_boundary (V : ga_V) (a : Nat → Nat) (x_newRules : Int32) (x_newPlaces : Int32) (x_acts : Int32) (x_kept : Int32) (x_length : Int32) (x_next : Int32) (x_place : Int32) (x_isWrong : Int32) (x_parts : Int32) (x_ways : Int32) (x_rules : Int32) (x_places : Int32) (x_without : Int32) (x_rule : Nat → Int32) (x_takes : Nat → Int32) (x_behind : Nat → Int32) (x_slot : Nat → Int32) (x_stood : Nat → Int32) (x_parted : Nat → Int32) (p1 : Int32) (p2 : Int32) (K : Int32 → (Nat → Int32) → (Nat → Int32) → Prop) (h : wp_X10_boundary x_rules x_places x_without x_rule x_takes x_behind x_slot x_stood x_parted p1 p2 K) : ga_C V yX10_boundary wsX10_boundary rm_X10_boundary [.ref (a 0), .int p1, .int p2] [(a 0, .inr (10, [.int x_rules, .int x_places, .ref (a 1), .ref (a 2), .ref (a 3), .int x_newRules, .int x_newPlaces, .ref (a 4), .ref (a 5), .ref (a 6), .ref (a 7), .ref (a 8), .int x_acts, .int x_kept, .int x_length, .ref (a 9), .int x_next, .int x_place, .int x_isWrong, .ref (a 10), .ref (a 11), .ref (a 12), .int x_parts, .int x_without, .ref (a 13), .ref (a 14), .ref (a 15), .ref (a 16), .int x_ways, .ref (a 17), .ref (a 18), .ref (a 19), .ref (a 20)])), (a 1, .inl (V.2 0, 12, .inl x_rule)), (a 2, .inl (V.2 0, 10, .inl x_takes)), (a 3, .inl (V.2 0, 10, .inl x_behind)), (a 8, .inl (V.2 0, 732, .inl x_slot)), (a 13, .inl (V.2 0, 31, .inl x_stood)), (a 14, .inl (V.2 1, 31, .inl x_parted))] 0 0 (ga_Fi (fun (u : (Nat → Int32) × (Nat → Int32)) => [(a 0, .inr (10, [.int x_rules, .int x_places, .ref (a 1), .ref (a 2), .ref (a 3), .int x_newRules, .int x_newPlaces, .ref (a 4), .ref (a 5), .ref (a 6), .ref (a 7), .ref (a 8), .int x_acts, .int x_kept, .int x_length, .ref (a 9), .int x_next, .int x_place, .int x_isWrong, .ref (a 10), .ref (a 11), .ref (a 12), .int x_parts, .int x_without, .ref (a 13), .ref (a 14), .ref (a 15), .ref (a 16), .int x_ways, .ref (a 17), .ref (a 18), .ref (a 19), .ref (a 20)])), (a 1, .inl (V.2 0, 12, .inl x_rule)), (a 2, .inl (V.2 0, 10, .inl x_takes)), (a 3, .inl (V.2 0, 10, .inl x_behind)), (a 8, .inl (V.2 0, 732, .inl x_slot)), (a 13, .inl (V.2 0, 31, .inl u.1)), (a 14, .inl (V.2 1, 31, .inl u.2))]) (fun r u => K r u.1 u.2)) := by
  refine ga_met (cc := cX10_boundary) (maxL := 5) (rt := (some .int)) (by decide) rfl [(0, .ref (a 0)), (1, .int p1), (2, .int p2)] rfl (Nat.le_of_ble_eq_true rfl) ?_
  intro G hR hE
  have hinX10 : ∀ w ∈ u_ws RX10 TX10 33, w ∈ wsX10_boundary := by decide +kernel
  have f31 : Cond.fieldLink RX10 31 "BoundaryRulesModel" "slot" "[I" ∈ wsX10_boundary := by decide +kernel
  have f51 : Cond.fieldLink RX10 51 "BoundaryRulesModel" "parted" "[Z" ∈ wsX10_boundary := by decide +kernel
  unfold wp_X10_boundary at h
  refine ga_aload_n hR (pc := 0) 0 rfl rfl dX10_boundary_0 ?_
  refine ga_iload_n hR (pc := 1) 1 rfl rfl dX10_boundary_1 ?_
  refine ga_callV hR (pc := 2) (As := [.int p1]) (rest := []) (st0 := [.int p1, .ref (a 0)]) (b := (a 0)) 1 (c_X10_isPlace V a x_rules x_places x_newRules x_newPlaces x_acts x_kept x_length x_next x_place x_isWrong x_parts x_without x_ways x_slot p1 _ h) (ga_same_i fun _ => rfl) gX10_boundary_X10_isPlace rfl rfl rfl hd_X10_isPlace ⟨Nat.le_of_ble_eq_true rfl, Nat.le_of_ble_eq_true rfl⟩ rfl rfl (Nat.le_of_ble_eq_true rfl) ⟨Nat.zero_le _, Nat.zero_le _⟩ [0, 4] rfl rfl 0 rfl rfl dX10_boundary_2 ?_
  rintro _ _ ⟨r_1, ⟨⟩, rfl, rfl, h⟩
  refine ga_to [(a 0, .inr (10, [.int x_rules, .int x_places, .ref (a 1), .ref (a 2), .ref (a 3), .int x_newRules, .int x_newPlaces, .ref (a 4), .ref (a 5), .ref (a 6), .ref (a 7), .ref (a 8), .int x_acts, .int x_kept, .int x_length, .ref (a 9), .int x_next, .int x_place, .int x_isWrong, .ref (a 10), .ref (a 11), .ref (a 12), .int x_parts, .int x_without, .ref (a 13), .ref (a 14), .ref (a 15), .ref (a 16), .int x_ways, .ref (a 17), .ref (a 18), .ref (a 19), .ref (a 20)])), (a 1, .inl (V.2 0, 12, .inl x_rule)), (a 2, .inl (V.2 0, 10, .inl x_takes)), (a 3, .inl (V.2 0, 10, .inl x_behind)), (a 8, .inl (V.2 0, 732, .inl x_slot)), (a 13, .inl (V.2 0, 31, .inl x_stood)), (a 14, .inl (V.2 1, 31, .inl x_parted))] [.int r_1] rfl rfl ?_
  try dsimp only at h
  refine ga_if_eq hR (pc := 5) 18 (by decide) dX10_boundary_5 (fun c5 => ?_) (fun c5 => ?_)
  · replace h := h.1 c5
    refine ga_iconst hR (pc := 18) (v := -1) (by decide) dX10_boundary_18 ?_
    exact ga_iret hE dX10_boundary_19 rfl (ga_ri (x_stood, x_parted) rfl h)
  · replace h := h.2 c5
    refine ga_iload_n hR (pc := 8) 2 rfl rfl dX10_boundary_8 ?_
    refine ga_i2l hR (pc := 9) dX10_boundary_9 ?_
    refine ga_lconst hR (pc := 10) (v := lN 0) (by decide) dX10_boundary_10 ?_
    refine ga_lconst hR (pc := 11) (v := lN 1) (by decide) dX10_boundary_11 ?_
    refine ga_callS hR (pc := 12) (As := [.long p2.toInt64, .long (lN 0), .long (lN 1)]) (rest := []) (st0 := [.long (lN 1), .long (lN 0), .long p2.toInt64]) 3 (c_X10_in V p2.toInt64 (lN 0) (lN 1) _ h) (ga_same_i fun _ => rfl) gX10_boundary_X10_in rfl rfl rfl hd_X10_inS ⟨Nat.le_of_ble_eq_true rfl, Nat.le_of_ble_eq_true rfl⟩ rfl rfl (Nat.le_of_ble_eq_true rfl) ⟨Nat.zero_le _, Nat.zero_le _⟩ [] rfl rfl dX10_boundary_12 ?_
    rintro _ _ ⟨r_2, ⟨⟩, rfl, rfl, h⟩
    refine ga_to [(a 0, .inr (10, [.int x_rules, .int x_places, .ref (a 1), .ref (a 2), .ref (a 3), .int x_newRules, .int x_newPlaces, .ref (a 4), .ref (a 5), .ref (a 6), .ref (a 7), .ref (a 8), .int x_acts, .int x_kept, .int x_length, .ref (a 9), .int x_next, .int x_place, .int x_isWrong, .ref (a 10), .ref (a 11), .ref (a 12), .int x_parts, .int x_without, .ref (a 13), .ref (a 14), .ref (a 15), .ref (a 16), .int x_ways, .ref (a 17), .ref (a 18), .ref (a 19), .ref (a 20)])), (a 1, .inl (V.2 0, 12, .inl x_rule)), (a 2, .inl (V.2 0, 10, .inl x_takes)), (a 3, .inl (V.2 0, 10, .inl x_behind)), (a 8, .inl (V.2 0, 732, .inl x_slot)), (a 13, .inl (V.2 0, 31, .inl x_stood)), (a 14, .inl (V.2 1, 31, .inl x_parted))] [.int r_2] rfl rfl ?_
    try dsimp only at h
    refine ga_if_ne hR (pc := 15) 20 (by decide) dX10_boundary_15 (fun c15 => ?_) (fun c15 => ?_)
    · replace h := h.1 c15
      refine ga_aload_n hR (pc := 20) 0 rfl rfl dX10_boundary_20 ?_
      refine ga_iconst hR (pc := 21) (v := nI 0) (by decide) dX10_boundary_21 ?_
      refine ga_callV hR (pc := 22) (As := [.int (nI 0)]) (rest := []) (st0 := [.int (nI 0), .ref (a 0)]) (b := (a 0)) 1 (c_X10_walks V a x_newRules x_newPlaces x_acts x_kept x_length x_next x_place x_isWrong x_parts x_ways x_rules x_places x_without x_rule x_takes x_behind x_slot x_stood x_parted (nI 0) _ h) (ga_same_v fun _ => rfl) gX10_boundary_X10_walks rfl rfl rfl hd_X10_walks ⟨Nat.le_of_ble_eq_true rfl, Nat.le_of_ble_eq_true rfl⟩ rfl rfl (Nat.le_of_ble_eq_true rfl) ⟨Nat.zero_le _, Nat.zero_le _⟩ [0, 1, 2, 3, 4, 5, 6] rfl rfl 0 rfl rfl dX10_boundary_22 ?_
      rintro _ _ ⟨⟨x_stood_3, x_parted_4⟩, rfl, rfl, h⟩
      refine ga_to [(a 0, .inr (10, [.int x_rules, .int x_places, .ref (a 1), .ref (a 2), .ref (a 3), .int x_newRules, .int x_newPlaces, .ref (a 4), .ref (a 5), .ref (a 6), .ref (a 7), .ref (a 8), .int x_acts, .int x_kept, .int x_length, .ref (a 9), .int x_next, .int x_place, .int x_isWrong, .ref (a 10), .ref (a 11), .ref (a 12), .int x_parts, .int x_without, .ref (a 13), .ref (a 14), .ref (a 15), .ref (a 16), .int x_ways, .ref (a 17), .ref (a 18), .ref (a 19), .ref (a 20)])), (a 1, .inl (V.2 0, 12, .inl x_rule)), (a 2, .inl (V.2 0, 10, .inl x_takes)), (a 3, .inl (V.2 0, 10, .inl x_behind)), (a 8, .inl (V.2 0, 732, .inl x_slot)), (a 13, .inl (V.2 0, 31, .inl x_stood_3)), (a 14, .inl (V.2 1, 31, .inl x_parted_4))] [] rfl rfl ?_
      try dsimp only at h
      refine ga_iload_n hR (pc := 25) 2 rfl rfl dX10_boundary_25 ?_
      have hJ := h (fun (s0_5 : Int32) => G 0 0 [(a 0, .inr (10, [.int x_rules, .int x_places, .ref (a 1), .ref (a 2), .ref (a 3), .int x_newRules, .int x_newPlaces, .ref (a 4), .ref (a 5), .ref (a 6), .ref (a 7), .ref (a 8), .int x_acts, .int x_kept, .int x_length, .ref (a 9), .int x_next, .int x_place, .int x_isWrong, .ref (a 10), .ref (a 11), .ref (a 12), .int x_parts, .int x_without, .ref (a 13), .ref (a 14), .ref (a 15), .ref (a 16), .int x_ways, .ref (a 17), .ref (a 18), .ref (a 19), .ref (a 20)])), (a 1, .inl (V.2 0, 12, .inl x_rule)), (a 2, .inl (V.2 0, 10, .inl x_takes)), (a 3, .inl (V.2 0, 10, .inl x_behind)), (a 8, .inl (V.2 0, 732, .inl x_slot)), (a 13, .inl (V.2 0, 31, .inl x_stood_3)), (a 14, .inl (V.2 1, 31, .inl x_parted_4))] 34 [(0, .ref (a 0)), (1, .int p1)] [.int s0_5])
      refine ga_bind hJ ?_ ?_
      · intro s0_5 h
        show G 0 0 [(a 0, .inr (10, [.int x_rules, .int x_places, .ref (a 1), .ref (a 2), .ref (a 3), .int x_newRules, .int x_newPlaces, .ref (a 4), .ref (a 5), .ref (a 6), .ref (a 7), .ref (a 8), .int x_acts, .int x_kept, .int x_length, .ref (a 9), .int x_next, .int x_place, .int x_isWrong, .ref (a 10), .ref (a 11), .ref (a 12), .int x_parts, .int x_without, .ref (a 13), .ref (a 14), .ref (a 15), .ref (a 16), .int x_ways, .ref (a 17), .ref (a 18), .ref (a 19), .ref (a 20)])), (a 1, .inl (V.2 0, 12, .inl x_rule)), (a 2, .inl (V.2 0, 10, .inl x_takes)), (a 3, .inl (V.2 0, 10, .inl x_behind)), (a 8, .inl (V.2 0, 732, .inl x_slot)), (a 13, .inl (V.2 0, 31, .inl x_stood_3)), (a 14, .inl (V.2 1, 31, .inl x_parted_4))] 34 [(0, .ref (a 0)), (1, .int p1)] [.int s0_5]
        refine ga_istore_n hR (pc := 34) (lv' := [(3, .int s0_5), (0, .ref (a 0)), (1, .int p1)]) rfl (by decide) rfl dX10_boundary_34 ?_
        refine ga_iload_n hR (pc := 35) 2 rfl rfl dX10_boundary_35 ?_
        refine ga_iload_n hR (pc := 36) 0 rfl rfl dX10_boundary_36 ?_
        refine ga_iadd hR (pc := 37) dX10_boundary_37 ?_
        refine ga_topi (fun v4_7 ev4_7 => ?_)
        replace h := h v4_7 ev4_7
        refine ga_istore hR (pc := 38) (lv' := [(4, .int v4_7), (3, .int s0_5), (0, .ref (a 0)), (1, .int p1)]) (by decide) rfl dX10_boundary_38 ?_
        have hJ := h (fun (v4_8 : Int32) => G 0 0 [(a 0, .inr (10, [.int x_rules, .int x_places, .ref (a 1), .ref (a 2), .ref (a 3), .int x_newRules, .int x_newPlaces, .ref (a 4), .ref (a 5), .ref (a 6), .ref (a 7), .ref (a 8), .int x_acts, .int x_kept, .int x_length, .ref (a 9), .int x_next, .int x_place, .int x_isWrong, .ref (a 10), .ref (a 11), .ref (a 12), .int x_parts, .int x_without, .ref (a 13), .ref (a 14), .ref (a 15), .ref (a 16), .int x_ways, .ref (a 17), .ref (a 18), .ref (a 19), .ref (a 20)])), (a 1, .inl (V.2 0, 12, .inl x_rule)), (a 2, .inl (V.2 0, 10, .inl x_takes)), (a 3, .inl (V.2 0, 10, .inl x_behind)), (a 8, .inl (V.2 0, 732, .inl x_slot)), (a 13, .inl (V.2 0, 31, .inl x_stood_3)), (a 14, .inl (V.2 1, 31, .inl x_parted_4))] 68 [(4, .int v4_8)] [])
        refine ga_bind hJ ?_ ?_
        · intro v4_8 h
          show G 0 0 [(a 0, .inr (10, [.int x_rules, .int x_places, .ref (a 1), .ref (a 2), .ref (a 3), .int x_newRules, .int x_newPlaces, .ref (a 4), .ref (a 5), .ref (a 6), .ref (a 7), .ref (a 8), .int x_acts, .int x_kept, .int x_length, .ref (a 9), .int x_next, .int x_place, .int x_isWrong, .ref (a 10), .ref (a 11), .ref (a 12), .int x_parts, .int x_without, .ref (a 13), .ref (a 14), .ref (a 15), .ref (a 16), .int x_ways, .ref (a 17), .ref (a 18), .ref (a 19), .ref (a 20)])), (a 1, .inl (V.2 0, 12, .inl x_rule)), (a 2, .inl (V.2 0, 10, .inl x_takes)), (a 3, .inl (V.2 0, 10, .inl x_behind)), (a 8, .inl (V.2 0, 732, .inl x_slot)), (a 13, .inl (V.2 0, 31, .inl x_stood_3)), (a 14, .inl (V.2 1, 31, .inl x_parted_4))] 68 [(4, .int v4_8)] []
          refine ga_iload hR (pc := 68) 0 rfl dX10_boundary_68 ?_
          exact ga_iret hE dX10_boundary_70 rfl (ga_ri (x_stood_3, x_parted_4) rfl h)
        · intro h
          have hJ := h (G 0 0 [(a 0, .inr (10, [.int x_rules, .int x_places, .ref (a 1), .ref (a 2), .ref (a 3), .int x_newRules, .int x_newPlaces, .ref (a 4), .ref (a 5), .ref (a 6), .ref (a 7), .ref (a 8), .int x_acts, .int x_kept, .int x_length, .ref (a 9), .int x_next, .int x_place, .int x_isWrong, .ref (a 10), .ref (a 11), .ref (a 12), .int x_parts, .int x_without, .ref (a 13), .ref (a 14), .ref (a 15), .ref (a 16), .int x_ways, .ref (a 17), .ref (a 18), .ref (a 19), .ref (a 20)])), (a 1, .inl (V.2 0, 12, .inl x_rule)), (a 2, .inl (V.2 0, 10, .inl x_takes)), (a 3, .inl (V.2 0, 10, .inl x_behind)), (a 8, .inl (V.2 0, 732, .inl x_slot)), (a 13, .inl (V.2 0, 31, .inl x_stood_3)), (a 14, .inl (V.2 1, 31, .inl x_parted_4))] 80 [] [])
          refine ga_bind hJ ?_ ?_
          · intro h
            show G 0 0 [(a 0, .inr (10, [.int x_rules, .int x_places, .ref (a 1), .ref (a 2), .ref (a 3), .int x_newRules, .int x_newPlaces, .ref (a 4), .ref (a 5), .ref (a 6), .ref (a 7), .ref (a 8), .int x_acts, .int x_kept, .int x_length, .ref (a 9), .int x_next, .int x_place, .int x_isWrong, .ref (a 10), .ref (a 11), .ref (a 12), .int x_parts, .int x_without, .ref (a 13), .ref (a 14), .ref (a 15), .ref (a 16), .int x_ways, .ref (a 17), .ref (a 18), .ref (a 19), .ref (a 20)])), (a 1, .inl (V.2 0, 12, .inl x_rule)), (a 2, .inl (V.2 0, 10, .inl x_takes)), (a 3, .inl (V.2 0, 10, .inl x_behind)), (a 8, .inl (V.2 0, 732, .inl x_slot)), (a 13, .inl (V.2 0, 31, .inl x_stood_3)), (a 14, .inl (V.2 1, 31, .inl x_parted_4))] 80 [] []
            refine ga_bipush hR (pc := 80) (v := -4) (by decide) dX10_boundary_80 ?_
            exact ga_iret hE dX10_boundary_82 rfl (ga_ri (x_stood_3, x_parted_4) rfl h)
          · intro h
            obtain ⟨n, h⟩ := h
            have L40 : ∀ (n : Nat) (v4_13 : Int32), lp_X10_boundary_40 x_slot x_parted_4 s0_5 (fun (v4_8 : Int32) => G 0 0 [(a 0, .inr (10, [.int x_rules, .int x_places, .ref (a 1), .ref (a 2), .ref (a 3), .int x_newRules, .int x_newPlaces, .ref (a 4), .ref (a 5), .ref (a 6), .ref (a 7), .ref (a 8), .int x_acts, .int x_kept, .int x_length, .ref (a 9), .int x_next, .int x_place, .int x_isWrong, .ref (a 10), .ref (a 11), .ref (a 12), .int x_parts, .int x_without, .ref (a 13), .ref (a 14), .ref (a 15), .ref (a 16), .int x_ways, .ref (a 17), .ref (a 18), .ref (a 19), .ref (a 20)])), (a 1, .inl (V.2 0, 12, .inl x_rule)), (a 2, .inl (V.2 0, 10, .inl x_takes)), (a 3, .inl (V.2 0, 10, .inl x_behind)), (a 8, .inl (V.2 0, 732, .inl x_slot)), (a 13, .inl (V.2 0, 31, .inl x_stood_3)), (a 14, .inl (V.2 1, 31, .inl x_parted_4))] 68 [(4, .int v4_8)] []) (G 0 0 [(a 0, .inr (10, [.int x_rules, .int x_places, .ref (a 1), .ref (a 2), .ref (a 3), .int x_newRules, .int x_newPlaces, .ref (a 4), .ref (a 5), .ref (a 6), .ref (a 7), .ref (a 8), .int x_acts, .int x_kept, .int x_length, .ref (a 9), .int x_next, .int x_place, .int x_isWrong, .ref (a 10), .ref (a 11), .ref (a 12), .int x_parts, .int x_without, .ref (a 13), .ref (a 14), .ref (a 15), .ref (a 16), .int x_ways, .ref (a 17), .ref (a 18), .ref (a 19), .ref (a 20)])), (a 1, .inl (V.2 0, 12, .inl x_rule)), (a 2, .inl (V.2 0, 10, .inl x_takes)), (a 3, .inl (V.2 0, 10, .inl x_behind)), (a 8, .inl (V.2 0, 732, .inl x_slot)), (a 13, .inl (V.2 0, 31, .inl x_stood_3)), (a 14, .inl (V.2 1, 31, .inl x_parted_4))] 80 [] []) n v4_13 → G 0 0 [(a 0, .inr (10, [.int x_rules, .int x_places, .ref (a 1), .ref (a 2), .ref (a 3), .int x_newRules, .int x_newPlaces, .ref (a 4), .ref (a 5), .ref (a 6), .ref (a 7), .ref (a 8), .int x_acts, .int x_kept, .int x_length, .ref (a 9), .int x_next, .int x_place, .int x_isWrong, .ref (a 10), .ref (a 11), .ref (a 12), .int x_parts, .int x_without, .ref (a 13), .ref (a 14), .ref (a 15), .ref (a 16), .int x_ways, .ref (a 17), .ref (a 18), .ref (a 19), .ref (a 20)])), (a 1, .inl (V.2 0, 12, .inl x_rule)), (a 2, .inl (V.2 0, 10, .inl x_takes)), (a 3, .inl (V.2 0, 10, .inl x_behind)), (a 8, .inl (V.2 0, 732, .inl x_slot)), (a 13, .inl (V.2 0, 31, .inl x_stood_3)), (a 14, .inl (V.2 1, 31, .inl x_parted_4))] 40 [(0, .ref (a 0)), (3, .int s0_5), (4, .int v4_13)] [] := by
              intro n
              induction n with
              | zero => exact fun _ h => False.elim h
              | succ n ih =>
                intro v4_13 h
                rw [lp_X10_boundary_40] at h
                refine ga_iload hR (pc := 40) 2 rfl dX10_boundary_40 ?_
                refine ga_i2l hR (pc := 42) dX10_boundary_42 ?_
                refine ga_lconst hR (pc := 43) (v := lN 0) (by decide) dX10_boundary_43 ?_
                refine ga_aload_n hR (pc := 44) 0 rfl rfl dX10_boundary_44 ?_
                refine ga_get hR (pc := 45) 0 rfl rfl hinX10 11 (by decide) f31 rfl dX10_boundary_45 ?_
                refine ga_bipush hR (pc := 48) (v := nI 30) (by decide) dX10_boundary_48 ?_
                refine ga_iald hR (pc := 50) 4 rfl h.1 dX10_boundary_50 ?_
                replace h := h.2
                refine ga_i2l hR (pc := 51) dX10_boundary_51 ?_
                refine ga_callS hR (pc := 52) (As := [.long v4_13.toInt64, .long (lN 0), .long ((x_slot (nI 30).toNatClampNeg).toInt64)]) (rest := []) (st0 := [.long ((x_slot (nI 30).toNatClampNeg).toInt64), .long (lN 0), .long v4_13.toInt64]) 3 (c_X10_in V v4_13.toInt64 (lN 0) ((x_slot (nI 30).toNatClampNeg).toInt64) _ h) (ga_same_i fun _ => rfl) gX10_boundary_X10_in rfl rfl rfl hd_X10_inS ⟨Nat.le_of_ble_eq_true rfl, Nat.le_of_ble_eq_true rfl⟩ rfl rfl (Nat.le_of_ble_eq_true rfl) ⟨Nat.zero_le _, Nat.zero_le _⟩ [] rfl rfl dX10_boundary_52 ?_
                rintro _ _ ⟨r_14, ⟨⟩, rfl, rfl, h⟩
                refine ga_to [(a 0, .inr (10, [.int x_rules, .int x_places, .ref (a 1), .ref (a 2), .ref (a 3), .int x_newRules, .int x_newPlaces, .ref (a 4), .ref (a 5), .ref (a 6), .ref (a 7), .ref (a 8), .int x_acts, .int x_kept, .int x_length, .ref (a 9), .int x_next, .int x_place, .int x_isWrong, .ref (a 10), .ref (a 11), .ref (a 12), .int x_parts, .int x_without, .ref (a 13), .ref (a 14), .ref (a 15), .ref (a 16), .int x_ways, .ref (a 17), .ref (a 18), .ref (a 19), .ref (a 20)])), (a 1, .inl (V.2 0, 12, .inl x_rule)), (a 2, .inl (V.2 0, 10, .inl x_takes)), (a 3, .inl (V.2 0, 10, .inl x_behind)), (a 8, .inl (V.2 0, 732, .inl x_slot)), (a 13, .inl (V.2 0, 31, .inl x_stood_3)), (a 14, .inl (V.2 1, 31, .inl x_parted_4))] [.int r_14] rfl rfl ?_
                try dsimp only at h
                refine ga_if_eq hR (pc := 55) 80 (by decide) dX10_boundary_55 (fun c55 => ?_) (fun c55 => ?_)
                · replace h := h.1 c55
                  exact ga_lv hR [] rfl h
                · replace h := h.2 c55
                  refine ga_aload_n hR (pc := 58) 0 rfl rfl dX10_boundary_58 ?_
                  refine ga_get hR (pc := 59) 0 rfl rfl hinX10 25 (by decide) f51 rfl dX10_boundary_59 ?_
                  refine ga_iload hR (pc := 62) 2 rfl dX10_boundary_62 ?_
                  refine ga_zald hR (pc := 64) 6 rfl h.1 dX10_boundary_64 ?_
                  replace h := h.2
                  refine ga_if_eq hR (pc := 65) 71 (by decide) dX10_boundary_65 (fun c65 => ?_) (fun c65 => ?_)
                  · replace h := h.1 c65
                    refine ga_iload hR (pc := 71) 2 rfl dX10_boundary_71 ?_
                    refine ga_iload_n hR (pc := 73) 1 rfl rfl dX10_boundary_73 ?_
                    refine ga_iadd hR (pc := 74) dX10_boundary_74 ?_
                    refine ga_topi (fun v4_15 ev4_15 => ?_)
                    replace h := h v4_15 ev4_15
                    refine ga_istore hR (pc := 75) (lv' := [(4, .int v4_15), (0, .ref (a 0)), (3, .int s0_5)]) (by decide) rfl dX10_boundary_75 ?_
                    refine ga_goto hR (pc := 77) 40 (by decide) dX10_boundary_77 ?_
                    exact ga_lv hR [1, 2, 0] rfl (ih _ h)
                  · replace h := h.2 c65
                    exact ga_lv hR [2] rfl h
            exact ga_lv hR [2, 1, 0] rfl (L40 n _ h)
      · intro h
        refine ga_if_ne hR (pc := 26) 33 (by decide) dX10_boundary_26 (fun c26 => ?_) (fun c26 => ?_)
        · replace h := h.1 c26
          refine ga_iconst hR (pc := 33) (v := -1) (by decide) dX10_boundary_33 ?_
          exact ga_lv hR [0, 1] rfl h
        · replace h := h.2 c26
          refine ga_iconst hR (pc := 29) (v := nI 1) (by decide) dX10_boundary_29 ?_
          refine ga_goto hR (pc := 30) 34 (by decide) dX10_boundary_30 ?_
          exact ga_lv hR [0, 1] rfl h
    · replace h := h.2 c15
      refine ga_iconst hR (pc := 18) (v := -1) (by decide) dX10_boundary_18 ?_
      exact ga_iret hE dX10_boundary_19 rfl (ga_ri (x_stood, x_parted) rfl h)

def rm_X10_stand : Room := { frames := 4, cells := 0, slots := 0, locals := 99 }
theorem hd_X10_standS : yX10_stand.cls ≠ "java/lang/invoke/MethodHandle" ∧ yX10_stand.cls ≠ "java/lang/invoke/VarHandle" ∧ (parseMethodDescriptor yX10_stand.desc).map (fun d => d.parameters.length) = some 1 := by decide +kernel
theorem hd_X10_stand : yX10_stand.cls = RX10 ∧ yX10_stand.cls ≠ "java/lang/invoke/MethodHandle" ∧ yX10_stand.cls ≠ "java/lang/invoke/VarHandle" ∧ (parseMethodDescriptor yX10_stand.desc).map (fun d => d.parameters.length) = some 1 := ⟨rfl, hd_X10_standS⟩
set_option maxHeartbeats 4000000 in
set_option maxRecDepth 100000 in
theorem c_X10_stand (V : ga_V) (a : Nat → Nat) (x_newRules : Int32) (x_newPlaces : Int32) (x_acts : Int32) (x_kept : Int32) (x_length : Int32) (x_next : Int32) (x_place : Int32) (x_isWrong : Int32) (x_parts : Int32) (x_ways : Int32) (x_rules : Int32) (x_places : Int32) (x_without : Int32) (x_rule : Nat → Int32) (x_takes : Nat → Int32) (x_behind : Nat → Int32) (x_slot : Nat → Int32) (x_stood : Nat → Int32) (x_parted : Nat → Int32) (p1 : Int32) (K : Int32 → (Nat → Int32) → (Nat → Int32) → Prop) (h : wp_X10_stand x_rules x_places x_without x_rule x_takes x_behind x_slot x_stood x_parted p1 K) : ga_C V yX10_stand wsX10_stand rm_X10_stand [.ref (a 0), .int p1] [(a 0, .inr (10, [.int x_rules, .int x_places, .ref (a 1), .ref (a 2), .ref (a 3), .int x_newRules, .int x_newPlaces, .ref (a 4), .ref (a 5), .ref (a 6), .ref (a 7), .ref (a 8), .int x_acts, .int x_kept, .int x_length, .ref (a 9), .int x_next, .int x_place, .int x_isWrong, .ref (a 10), .ref (a 11), .ref (a 12), .int x_parts, .int x_without, .ref (a 13), .ref (a 14), .ref (a 15), .ref (a 16), .int x_ways, .ref (a 17), .ref (a 18), .ref (a 19), .ref (a 20)])), (a 1, .inl (V.2 0, 12, .inl x_rule)), (a 2, .inl (V.2 0, 10, .inl x_takes)), (a 3, .inl (V.2 0, 10, .inl x_behind)), (a 8, .inl (V.2 0, 732, .inl x_slot)), (a 13, .inl (V.2 0, 31, .inl x_stood)), (a 14, .inl (V.2 1, 31, .inl x_parted))] 0 0 (ga_Fi (fun (u : (Nat → Int32) × (Nat → Int32)) => [(a 0, .inr (10, [.int x_rules, .int x_places, .ref (a 1), .ref (a 2), .ref (a 3), .int x_newRules, .int x_newPlaces, .ref (a 4), .ref (a 5), .ref (a 6), .ref (a 7), .ref (a 8), .int x_acts, .int x_kept, .int x_length, .ref (a 9), .int x_next, .int x_place, .int x_isWrong, .ref (a 10), .ref (a 11), .ref (a 12), .int x_parts, .int x_without, .ref (a 13), .ref (a 14), .ref (a 15), .ref (a 16), .int x_ways, .ref (a 17), .ref (a 18), .ref (a 19), .ref (a 20)])), (a 1, .inl (V.2 0, 12, .inl x_rule)), (a 2, .inl (V.2 0, 10, .inl x_takes)), (a 3, .inl (V.2 0, 10, .inl x_behind)), (a 8, .inl (V.2 0, 732, .inl x_slot)), (a 13, .inl (V.2 0, 31, .inl u.1)), (a 14, .inl (V.2 1, 31, .inl u.2))]) (fun r u => K r u.1 u.2)) := by
  refine ga_met (cc := cX10_stand) (maxL := 2) (rt := (some .int)) (by decide) rfl [(0, .ref (a 0)), (1, .int p1)] rfl (Nat.le_of_ble_eq_true rfl) ?_
  intro G hR hE
  have hinX10 : ∀ w ∈ u_ws RX10 TX10 33, w ∈ wsX10_stand := by decide +kernel
  have f48 : Cond.fieldLink RX10 48 "BoundaryRulesModel" "stood" "[I" ∈ wsX10_stand := by decide +kernel
  unfold wp_X10_stand at h
  refine ga_aload_n hR (pc := 0) 0 rfl rfl dX10_stand_0 ?_
  refine ga_iload_n hR (pc := 1) 1 rfl rfl dX10_stand_1 ?_
  refine ga_callV hR (pc := 2) (As := [.int p1]) (rest := []) (st0 := [.int p1, .ref (a 0)]) (b := (a 0)) 1 (c_X10_isPlace V a x_rules x_places x_newRules x_newPlaces x_acts x_kept x_length x_next x_place x_isWrong x_parts x_without x_ways x_slot p1 _ h) (ga_same_i fun _ => rfl) gX10_stand_X10_isPlace rfl rfl rfl hd_X10_isPlace ⟨Nat.le_of_ble_eq_true rfl, Nat.le_of_ble_eq_true rfl⟩ rfl rfl (Nat.le_of_ble_eq_true rfl) ⟨Nat.zero_le _, Nat.zero_le _⟩ [0, 4] rfl rfl 0 rfl rfl dX10_stand_2 ?_
  rintro _ _ ⟨r_1, ⟨⟩, rfl, rfl, h⟩
  refine ga_to [(a 0, .inr (10, [.int x_rules, .int x_places, .ref (a 1), .ref (a 2), .ref (a 3), .int x_newRules, .int x_newPlaces, .ref (a 4), .ref (a 5), .ref (a 6), .ref (a 7), .ref (a 8), .int x_acts, .int x_kept, .int x_length, .ref (a 9), .int x_next, .int x_place, .int x_isWrong, .ref (a 10), .ref (a 11), .ref (a 12), .int x_parts, .int x_without, .ref (a 13), .ref (a 14), .ref (a 15), .ref (a 16), .int x_ways, .ref (a 17), .ref (a 18), .ref (a 19), .ref (a 20)])), (a 1, .inl (V.2 0, 12, .inl x_rule)), (a 2, .inl (V.2 0, 10, .inl x_takes)), (a 3, .inl (V.2 0, 10, .inl x_behind)), (a 8, .inl (V.2 0, 732, .inl x_slot)), (a 13, .inl (V.2 0, 31, .inl x_stood)), (a 14, .inl (V.2 1, 31, .inl x_parted))] [.int r_1] rfl rfl ?_
  try dsimp only at h
  refine ga_if_ne hR (pc := 5) 10 (by decide) dX10_stand_5 (fun c5 => ?_) (fun c5 => ?_)
  · replace h := h.1 c5
    refine ga_aload_n hR (pc := 10) 0 rfl rfl dX10_stand_10 ?_
    refine ga_iconst hR (pc := 11) (v := nI 0) (by decide) dX10_stand_11 ?_
    refine ga_callV hR (pc := 12) (As := [.int (nI 0)]) (rest := []) (st0 := [.int (nI 0), .ref (a 0)]) (b := (a 0)) 1 (c_X10_walks V a x_newRules x_newPlaces x_acts x_kept x_length x_next x_place x_isWrong x_parts x_ways x_rules x_places x_without x_rule x_takes x_behind x_slot x_stood x_parted (nI 0) _ h) (ga_same_v fun _ => rfl) gX10_stand_X10_walks rfl rfl rfl hd_X10_walks ⟨Nat.le_of_ble_eq_true rfl, Nat.le_of_ble_eq_true rfl⟩ rfl rfl (Nat.le_of_ble_eq_true rfl) ⟨Nat.zero_le _, Nat.zero_le _⟩ [0, 1, 2, 3, 4, 5, 6] rfl rfl 0 rfl rfl dX10_stand_12 ?_
    rintro _ _ ⟨⟨x_stood_2, x_parted_3⟩, rfl, rfl, h⟩
    refine ga_to [(a 0, .inr (10, [.int x_rules, .int x_places, .ref (a 1), .ref (a 2), .ref (a 3), .int x_newRules, .int x_newPlaces, .ref (a 4), .ref (a 5), .ref (a 6), .ref (a 7), .ref (a 8), .int x_acts, .int x_kept, .int x_length, .ref (a 9), .int x_next, .int x_place, .int x_isWrong, .ref (a 10), .ref (a 11), .ref (a 12), .int x_parts, .int x_without, .ref (a 13), .ref (a 14), .ref (a 15), .ref (a 16), .int x_ways, .ref (a 17), .ref (a 18), .ref (a 19), .ref (a 20)])), (a 1, .inl (V.2 0, 12, .inl x_rule)), (a 2, .inl (V.2 0, 10, .inl x_takes)), (a 3, .inl (V.2 0, 10, .inl x_behind)), (a 8, .inl (V.2 0, 732, .inl x_slot)), (a 13, .inl (V.2 0, 31, .inl x_stood_2)), (a 14, .inl (V.2 1, 31, .inl x_parted_3))] [] rfl rfl ?_
    try dsimp only at h
    refine ga_iload_n hR (pc := 15) 1 rfl rfl dX10_stand_15 ?_
    refine ga_if_ne hR (pc := 16) 24 (by decide) dX10_stand_16 (fun c16 => ?_) (fun c16 => ?_)
    · replace h := h.1 c16
      refine ga_aload_n hR (pc := 24) 0 rfl rfl dX10_stand_24 ?_
      refine ga_get hR (pc := 25) 0 rfl rfl hinX10 24 (by decide) f48 rfl dX10_stand_25 ?_
      refine ga_iload_n hR (pc := 28) 1 rfl rfl dX10_stand_28 ?_
      refine ga_iald hR (pc := 29) 5 rfl h.1 dX10_stand_29 ?_
      replace h := h.2
      exact ga_iret hE dX10_stand_30 rfl (ga_ri (x_stood_2, x_parted_3) rfl h)
    · replace h := h.2 c16
      refine ga_bipush hR (pc := 19) (v := -4) (by decide) dX10_stand_19 ?_
      refine ga_goto hR (pc := 21) 30 (by decide) dX10_stand_21 ?_
      exact ga_iret hE dX10_stand_30 rfl (ga_ri (x_stood_2, x_parted_3) rfl h)
  · replace h := h.2 c5
    refine ga_iconst hR (pc := 8) (v := -1) (by decide) dX10_stand_8 ?_
    exact ga_iret hE dX10_stand_9 rfl (ga_ri (x_stood, x_parted) rfl h)

def rm_X10_rulesIn : Room := { frames := 0, cells := 0, slots := 0, locals := 0 }
theorem hd_X10_rulesInS : yX10_rulesIn.cls ≠ "java/lang/invoke/MethodHandle" ∧ yX10_rulesIn.cls ≠ "java/lang/invoke/VarHandle" ∧ (parseMethodDescriptor yX10_rulesIn.desc).map (fun d => d.parameters.length) = some 2 := by decide +kernel
theorem hd_X10_rulesIn : yX10_rulesIn.cls = RX10 ∧ yX10_rulesIn.cls ≠ "java/lang/invoke/MethodHandle" ∧ yX10_rulesIn.cls ≠ "java/lang/invoke/VarHandle" ∧ (parseMethodDescriptor yX10_rulesIn.desc).map (fun d => d.parameters.length) = some 2 := ⟨rfl, hd_X10_rulesInS⟩
set_option maxHeartbeats 4000000 in
set_option maxRecDepth 100000 in
theorem c_X10_rulesIn (V : ga_V) (a : Nat → Nat) (x_places : Int32) (x_newRules : Int32) (x_newPlaces : Int32) (x_acts : Int32) (x_kept : Int32) (x_length : Int32) (x_next : Int32) (x_place : Int32) (x_isWrong : Int32) (x_parts : Int32) (x_without : Int32) (x_ways : Int32) (x_rules : Int32) (x_rule : Nat → Int32) (p1 : Int32) (p2 : Int32) (K : Int32 → Prop) (h : wp_X10_rulesIn x_rules x_rule p1 p2 K) : ga_C V yX10_rulesIn wsX10_rulesIn rm_X10_rulesIn [.ref (a 0), .int p1, .int p2] [(a 0, .inr (10, [.int x_rules, .int x_places, .ref (a 1), .ref (a 2), .ref (a 3), .int x_newRules, .int x_newPlaces, .ref (a 4), .ref (a 5), .ref (a 6), .ref (a 7), .ref (a 8), .int x_acts, .int x_kept, .int x_length, .ref (a 9), .int x_next, .int x_place, .int x_isWrong, .ref (a 10), .ref (a 11), .ref (a 12), .int x_parts, .int x_without, .ref (a 13), .ref (a 14), .ref (a 15), .ref (a 16), .int x_ways, .ref (a 17), .ref (a 18), .ref (a 19), .ref (a 20)])), (a 1, .inl (V.2 0, 12, .inl x_rule))] 0 0 (ga_Fi (fun (u : Unit) => [(a 0, .inr (10, [.int x_rules, .int x_places, .ref (a 1), .ref (a 2), .ref (a 3), .int x_newRules, .int x_newPlaces, .ref (a 4), .ref (a 5), .ref (a 6), .ref (a 7), .ref (a 8), .int x_acts, .int x_kept, .int x_length, .ref (a 9), .int x_next, .int x_place, .int x_isWrong, .ref (a 10), .ref (a 11), .ref (a 12), .int x_parts, .int x_without, .ref (a 13), .ref (a 14), .ref (a 15), .ref (a 16), .int x_ways, .ref (a 17), .ref (a 18), .ref (a 19), .ref (a 20)])), (a 1, .inl (V.2 0, 12, .inl x_rule))]) (fun r u => K r)) := by
  refine ga_met (cc := cX10_rulesIn) (maxL := 5) (rt := (some .int)) (by decide) rfl [(0, .ref (a 0)), (1, .int p1), (2, .int p2)] rfl (Nat.le_of_ble_eq_true rfl) ?_
  intro G hR hE
  have hinX10 : ∀ w ∈ u_ws RX10 TX10 33, w ∈ wsX10_rulesIn := by decide +kernel
  have f118 : Cond.fieldLink RX10 118 "BoundaryRulesModel" "rules" "I" ∈ wsX10_rulesIn := by decide +kernel
  have f7 : Cond.fieldLink RX10 7 "BoundaryRulesModel" "rule" "[I" ∈ wsX10_rulesIn := by decide +kernel
  unfold wp_X10_rulesIn at h
  refine ga_iconst hR (pc := 0) (v := nI 0) (by decide) dX10_rulesIn_0 ?_
  refine ga_istore_n hR (pc := 1) (lv' := [(3, .int (nI 0)), (0, .ref (a 0)), (1, .int p1), (2, .int p2)]) rfl (by decide) rfl dX10_rulesIn_1 ?_
  refine ga_iconst hR (pc := 2) (v := nI 0) (by decide) dX10_rulesIn_2 ?_
  refine ga_istore hR (pc := 3) (lv' := [(4, .int (nI 0)), (3, .int (nI 0)), (0, .ref (a 0)), (1, .int p1), (2, .int p2)]) (by decide) rfl dX10_rulesIn_3 ?_
  have hJ := h (fun (v3_1 : Int32) => G 0 0 [(a 0, .inr (10, [.int x_rules, .int x_places, .ref (a 1), .ref (a 2), .ref (a 3), .int x_newRules, .int x_newPlaces, .ref (a 4), .ref (a 5), .ref (a 6), .ref (a 7), .ref (a 8), .int x_acts, .int x_kept, .int x_length, .ref (a 9), .int x_next, .int x_place, .int x_isWrong, .ref (a 10), .ref (a 11), .ref (a 12), .int x_parts, .int x_without, .ref (a 13), .ref (a 14), .ref (a 15), .ref (a 16), .int x_ways, .ref (a 17), .ref (a 18), .ref (a 19), .ref (a 20)])), (a 1, .inl (V.2 0, 12, .inl x_rule))] 45 [(3, .int v3_1)] [])
  refine ga_bind hJ ?_ ?_
  · intro v3_1 h
    show G 0 0 [(a 0, .inr (10, [.int x_rules, .int x_places, .ref (a 1), .ref (a 2), .ref (a 3), .int x_newRules, .int x_newPlaces, .ref (a 4), .ref (a 5), .ref (a 6), .ref (a 7), .ref (a 8), .int x_acts, .int x_kept, .int x_length, .ref (a 9), .int x_next, .int x_place, .int x_isWrong, .ref (a 10), .ref (a 11), .ref (a 12), .int x_parts, .int x_without, .ref (a 13), .ref (a 14), .ref (a 15), .ref (a 16), .int x_ways, .ref (a 17), .ref (a 18), .ref (a 19), .ref (a 20)])), (a 1, .inl (V.2 0, 12, .inl x_rule))] 45 [(3, .int v3_1)] []
    refine ga_iload_n hR (pc := 45) 0 rfl rfl dX10_rulesIn_45 ?_
    exact ga_iret hE dX10_rulesIn_46 rfl (ga_ri () rfl h)
  · intro h
    obtain ⟨n, h⟩ := h
    have L5 : ∀ (n : Nat) (v3_7 : Int32) (v4_8 : Int32), lp_X10_rulesIn_5 x_rules x_rule p1 p2 (fun (v3_1 : Int32) => G 0 0 [(a 0, .inr (10, [.int x_rules, .int x_places, .ref (a 1), .ref (a 2), .ref (a 3), .int x_newRules, .int x_newPlaces, .ref (a 4), .ref (a 5), .ref (a 6), .ref (a 7), .ref (a 8), .int x_acts, .int x_kept, .int x_length, .ref (a 9), .int x_next, .int x_place, .int x_isWrong, .ref (a 10), .ref (a 11), .ref (a 12), .int x_parts, .int x_without, .ref (a 13), .ref (a 14), .ref (a 15), .ref (a 16), .int x_ways, .ref (a 17), .ref (a 18), .ref (a 19), .ref (a 20)])), (a 1, .inl (V.2 0, 12, .inl x_rule))] 45 [(3, .int v3_1)] []) n v3_7 v4_8 → G 0 0 [(a 0, .inr (10, [.int x_rules, .int x_places, .ref (a 1), .ref (a 2), .ref (a 3), .int x_newRules, .int x_newPlaces, .ref (a 4), .ref (a 5), .ref (a 6), .ref (a 7), .ref (a 8), .int x_acts, .int x_kept, .int x_length, .ref (a 9), .int x_next, .int x_place, .int x_isWrong, .ref (a 10), .ref (a 11), .ref (a 12), .int x_parts, .int x_without, .ref (a 13), .ref (a 14), .ref (a 15), .ref (a 16), .int x_ways, .ref (a 17), .ref (a 18), .ref (a 19), .ref (a 20)])), (a 1, .inl (V.2 0, 12, .inl x_rule))] 5 [(0, .ref (a 0)), (1, .int p1), (2, .int p2), (3, .int v3_7), (4, .int v4_8)] [] := by
      intro n
      induction n with
      | zero => exact fun _ _ h => False.elim h
      | succ n ih =>
        intro v3_7 v4_8 h
        rw [lp_X10_rulesIn_5] at h
        refine ga_iload hR (pc := 5) 4 rfl dX10_rulesIn_5 ?_
        refine ga_aload_n hR (pc := 7) 0 rfl rfl dX10_rulesIn_7 ?_
        refine ga_get hR (pc := 8) 0 rfl rfl hinX10 0 (by decide) f118 rfl dX10_rulesIn_8 ?_
        refine ga_icmp_ge hR (pc := 11) 45 (by decide) dX10_rulesIn_11 (fun c11 => ?_) (fun c11 => ?_)
        · replace h := h.1 c11
          exact ga_lv hR [3] rfl h
        · replace h := h.2 c11
          refine ga_iload_n hR (pc := 14) 3 rfl rfl dX10_rulesIn_14 ?_
          refine ga_iload_n hR (pc := 15) 1 rfl rfl dX10_rulesIn_15 ?_
          refine ga_aload_n hR (pc := 16) 0 rfl rfl dX10_rulesIn_16 ?_
          refine ga_get hR (pc := 17) 0 rfl rfl hinX10 2 (by decide) f7 rfl dX10_rulesIn_17 ?_
          refine ga_iload_n hR (pc := 20) 2 rfl rfl dX10_rulesIn_20 ?_
          refine ga_iload hR (pc := 21) 4 rfl dX10_rulesIn_21 ?_
          refine ga_iadd hR (pc := 23) dX10_rulesIn_23 ?_
          refine ga_iald hR (pc := 24) 1 rfl h.1 dX10_rulesIn_24 ?_
          replace h := h.2
          refine ga_iand hR (pc := 25) dX10_rulesIn_25 ?_
          refine ga_if_eq hR (pc := 26) 36 (by decide) dX10_rulesIn_26 (fun c26 => ?_) (fun c26 => ?_)
          · replace h := h.1 c26
            refine ga_iconst hR (pc := 36) (v := nI 0) (by decide) dX10_rulesIn_36 ?_
            refine ga_ior hR (pc := 37) dX10_rulesIn_37 ?_
            refine ga_topi (fun v3_9 ev3_9 => ?_)
            replace h := h v3_9 ev3_9
            refine ga_istore_n hR (pc := 38) (lv' := [(3, .int v3_9), (0, .ref (a 0)), (1, .int p1), (2, .int p2), (4, .int v4_8)]) rfl (by decide) rfl dX10_rulesIn_38 ?_
            obtain ⟨v4_10, ev4_10⟩ : ∃ v : Int32, v = v4_8 + (nI 1) := ⟨_, rfl⟩
            replace h := h v4_10 ev4_10
            refine ga_iinc hR (pc := 39) (lv' := [(4, .int v4_10), (3, .int v3_9), (0, .ref (a 0)), (1, .int p1), (2, .int p2)]) 4 (by decide) rfl ev4_10 (by decide) rfl dX10_rulesIn_39 ?_
            refine ga_goto hR (pc := 42) 5 (by decide) dX10_rulesIn_42 ?_
            exact ga_lv hR [2, 3, 4, 1, 0] rfl (ih _ _ h)
          · replace h := h.2 c26
            refine ga_iconst hR (pc := 29) (v := nI 1) (by decide) dX10_rulesIn_29 ?_
            refine ga_iload hR (pc := 30) 4 rfl dX10_rulesIn_30 ?_
            refine ga_ishl hR (pc := 32) dX10_rulesIn_32 ?_
            refine ga_goto hR (pc := 33) 37 (by decide) dX10_rulesIn_33 ?_
            refine ga_ior hR (pc := 37) dX10_rulesIn_37 ?_
            refine ga_topi (fun v3_11 ev3_11 => ?_)
            replace h := h v3_11 ev3_11
            refine ga_istore_n hR (pc := 38) (lv' := [(3, .int v3_11), (0, .ref (a 0)), (1, .int p1), (2, .int p2), (4, .int v4_8)]) rfl (by decide) rfl dX10_rulesIn_38 ?_
            obtain ⟨v4_12, ev4_12⟩ : ∃ v : Int32, v = v4_8 + (nI 1) := ⟨_, rfl⟩
            replace h := h v4_12 ev4_12
            refine ga_iinc hR (pc := 39) (lv' := [(4, .int v4_12), (3, .int v3_11), (0, .ref (a 0)), (1, .int p1), (2, .int p2)]) 4 (by decide) rfl ev4_12 (by decide) rfl dX10_rulesIn_39 ?_
            refine ga_goto hR (pc := 42) 5 (by decide) dX10_rulesIn_42 ?_
            exact ga_lv hR [2, 3, 4, 1, 0] rfl (ih _ _ h)
    exact ga_lv hR [2, 3, 4, 1, 0] rfl (L5 n _ _ h)

def rm_X10_piece : Room := { frames := 4, cells := 0, slots := 0, locals := 99 }
theorem hd_X10_pieceS : yX10_piece.cls ≠ "java/lang/invoke/MethodHandle" ∧ yX10_piece.cls ≠ "java/lang/invoke/VarHandle" ∧ (parseMethodDescriptor yX10_piece.desc).map (fun d => d.parameters.length) = some 2 := by decide +kernel
theorem hd_X10_piece : yX10_piece.cls = RX10 ∧ yX10_piece.cls ≠ "java/lang/invoke/MethodHandle" ∧ yX10_piece.cls ≠ "java/lang/invoke/VarHandle" ∧ (parseMethodDescriptor yX10_piece.desc).map (fun d => d.parameters.length) = some 2 := ⟨rfl, hd_X10_pieceS⟩
set_option maxHeartbeats 4000000 in
set_option maxRecDepth 100000 in
theorem c_X10_piece (V : ga_V) (a : Nat → Nat) (x_newRules : Int32) (x_newPlaces : Int32) (x_acts : Int32) (x_kept : Int32) (x_length : Int32) (x_next : Int32) (x_place : Int32) (x_isWrong : Int32) (x_parts : Int32) (x_ways : Int32) (x_rules : Int32) (x_places : Int32) (x_without : Int32) (x_rule : Nat → Int32) (x_takes : Nat → Int32) (x_behind : Nat → Int32) (x_slot : Nat → Int32) (x_stood : Nat → Int32) (x_parted : Nat → Int32) (p1 : Int32) (p2 : Int32) (K : Int32 → (Nat → Int32) → (Nat → Int32) → Prop) (h : wp_X10_piece x_rules x_places x_without x_rule x_takes x_behind x_slot x_stood x_parted p1 p2 K) : ga_C V yX10_piece wsX10_piece rm_X10_piece [.ref (a 0), .int p1, .int p2] [(a 0, .inr (10, [.int x_rules, .int x_places, .ref (a 1), .ref (a 2), .ref (a 3), .int x_newRules, .int x_newPlaces, .ref (a 4), .ref (a 5), .ref (a 6), .ref (a 7), .ref (a 8), .int x_acts, .int x_kept, .int x_length, .ref (a 9), .int x_next, .int x_place, .int x_isWrong, .ref (a 10), .ref (a 11), .ref (a 12), .int x_parts, .int x_without, .ref (a 13), .ref (a 14), .ref (a 15), .ref (a 16), .int x_ways, .ref (a 17), .ref (a 18), .ref (a 19), .ref (a 20)])), (a 1, .inl (V.2 0, 12, .inl x_rule)), (a 2, .inl (V.2 0, 10, .inl x_takes)), (a 3, .inl (V.2 0, 10, .inl x_behind)), (a 8, .inl (V.2 0, 732, .inl x_slot)), (a 13, .inl (V.2 0, 31, .inl x_stood)), (a 14, .inl (V.2 1, 31, .inl x_parted))] 0 0 (ga_Fi (fun (u : (Nat → Int32) × (Nat → Int32)) => [(a 0, .inr (10, [.int x_rules, .int x_places, .ref (a 1), .ref (a 2), .ref (a 3), .int x_newRules, .int x_newPlaces, .ref (a 4), .ref (a 5), .ref (a 6), .ref (a 7), .ref (a 8), .int x_acts, .int x_kept, .int x_length, .ref (a 9), .int x_next, .int x_place, .int x_isWrong, .ref (a 10), .ref (a 11), .ref (a 12), .int x_parts, .int x_without, .ref (a 13), .ref (a 14), .ref (a 15), .ref (a 16), .int x_ways, .ref (a 17), .ref (a 18), .ref (a 19), .ref (a 20)])), (a 1, .inl (V.2 0, 12, .inl x_rule)), (a 2, .inl (V.2 0, 10, .inl x_takes)), (a 3, .inl (V.2 0, 10, .inl x_behind)), (a 8, .inl (V.2 0, 732, .inl x_slot)), (a 13, .inl (V.2 0, 31, .inl u.1)), (a 14, .inl (V.2 1, 31, .inl u.2))]) (fun r u => K r u.1 u.2)) := by
  refine ga_met (cc := cX10_piece) (maxL := 6) (rt := (some .int)) (by decide) rfl [(0, .ref (a 0)), (1, .int p1), (2, .int p2)] rfl (Nat.le_of_ble_eq_true rfl) ?_
  intro G hR hE
  have hinX10 : ∀ w ∈ u_ws RX10 TX10 33, w ∈ wsX10_piece := by decide +kernel
  have f48 : Cond.fieldLink RX10 48 "BoundaryRulesModel" "stood" "[I" ∈ wsX10_piece := by decide +kernel
  have f51 : Cond.fieldLink RX10 51 "BoundaryRulesModel" "parted" "[Z" ∈ wsX10_piece := by decide +kernel
  unfold wp_X10_piece at h
  refine ga_aload_n hR (pc := 0) 0 rfl rfl dX10_piece_0 ?_
  refine ga_iconst hR (pc := 1) (v := nI 0) (by decide) dX10_piece_1 ?_
  refine ga_callV hR (pc := 2) (As := [.int (nI 0)]) (rest := []) (st0 := [.int (nI 0), .ref (a 0)]) (b := (a 0)) 1 (c_X10_walks V a x_newRules x_newPlaces x_acts x_kept x_length x_next x_place x_isWrong x_parts x_ways x_rules x_places x_without x_rule x_takes x_behind x_slot x_stood x_parted (nI 0) _ h) (ga_same_v fun _ => rfl) gX10_piece_X10_walks rfl rfl rfl hd_X10_walks ⟨Nat.le_of_ble_eq_true rfl, Nat.le_of_ble_eq_true rfl⟩ rfl rfl (Nat.le_of_ble_eq_true rfl) ⟨Nat.zero_le _, Nat.zero_le _⟩ [0, 1, 2, 3, 4, 5, 6] rfl rfl 0 rfl rfl dX10_piece_2 ?_
  rintro _ _ ⟨⟨x_stood_1, x_parted_2⟩, rfl, rfl, h⟩
  refine ga_to [(a 0, .inr (10, [.int x_rules, .int x_places, .ref (a 1), .ref (a 2), .ref (a 3), .int x_newRules, .int x_newPlaces, .ref (a 4), .ref (a 5), .ref (a 6), .ref (a 7), .ref (a 8), .int x_acts, .int x_kept, .int x_length, .ref (a 9), .int x_next, .int x_place, .int x_isWrong, .ref (a 10), .ref (a 11), .ref (a 12), .int x_parts, .int x_without, .ref (a 13), .ref (a 14), .ref (a 15), .ref (a 16), .int x_ways, .ref (a 17), .ref (a 18), .ref (a 19), .ref (a 20)])), (a 1, .inl (V.2 0, 12, .inl x_rule)), (a 2, .inl (V.2 0, 10, .inl x_takes)), (a 3, .inl (V.2 0, 10, .inl x_behind)), (a 8, .inl (V.2 0, 732, .inl x_slot)), (a 13, .inl (V.2 0, 31, .inl x_stood_1)), (a 14, .inl (V.2 1, 31, .inl x_parted_2))] [] rfl rfl ?_
  try dsimp only at h
  refine ga_iload_n hR (pc := 5) 1 rfl rfl dX10_piece_5 ?_
  refine ga_i2l hR (pc := 6) dX10_piece_6 ?_
  refine ga_lconst hR (pc := 7) (v := lN 0) (by decide) dX10_piece_7 ?_
  refine ga_aload_n hR (pc := 8) 0 rfl rfl dX10_piece_8 ?_
  refine ga_iconst hR (pc := 9) (v := nI 0) (by decide) dX10_piece_9 ?_
  refine ga_callV hR (pc := 10) (As := [.int (nI 0)]) (rest := [.long (lN 0), .long p1.toInt64]) (st0 := [.int (nI 0), .ref (a 0), .long (lN 0), .long p1.toInt64]) (b := (a 0)) 1 (c_X10_pieces V a x_rules x_places x_newRules x_newPlaces x_acts x_kept x_length x_next x_place x_isWrong x_parts x_without x_ways x_slot x_parted_2 (nI 0) _ h) (ga_same_i fun _ => rfl) gX10_piece_X10_pieces rfl rfl rfl hd_X10_pieces ⟨Nat.le_of_ble_eq_true rfl, Nat.le_of_ble_eq_true rfl⟩ rfl rfl (Nat.le_of_ble_eq_true rfl) ⟨Nat.zero_le _, Nat.zero_le _⟩ [0, 4, 6] rfl rfl 0 rfl rfl dX10_piece_10 ?_
  rintro _ _ ⟨r_3, ⟨⟩, rfl, rfl, h⟩
  refine ga_to [(a 0, .inr (10, [.int x_rules, .int x_places, .ref (a 1), .ref (a 2), .ref (a 3), .int x_newRules, .int x_newPlaces, .ref (a 4), .ref (a 5), .ref (a 6), .ref (a 7), .ref (a 8), .int x_acts, .int x_kept, .int x_length, .ref (a 9), .int x_next, .int x_place, .int x_isWrong, .ref (a 10), .ref (a 11), .ref (a 12), .int x_parts, .int x_without, .ref (a 13), .ref (a 14), .ref (a 15), .ref (a 16), .int x_ways, .ref (a 17), .ref (a 18), .ref (a 19), .ref (a 20)])), (a 1, .inl (V.2 0, 12, .inl x_rule)), (a 2, .inl (V.2 0, 10, .inl x_takes)), (a 3, .inl (V.2 0, 10, .inl x_behind)), (a 8, .inl (V.2 0, 732, .inl x_slot)), (a 13, .inl (V.2 0, 31, .inl x_stood_1)), (a 14, .inl (V.2 1, 31, .inl x_parted_2))] [.int r_3, .long (lN 0), .long p1.toInt64] rfl rfl ?_
  try dsimp only at h
  refine ga_iconst hR (pc := 13) (v := nI 1) (by decide) dX10_piece_13 ?_
  refine ga_isub hR (pc := 14) dX10_piece_14 ?_
  refine ga_i2l hR (pc := 15) dX10_piece_15 ?_
  refine ga_callS hR (pc := 16) (As := [.long p1.toInt64, .long (lN 0), .long ((r_3 - (nI 1)).toInt64)]) (rest := []) (st0 := [.long ((r_3 - (nI 1)).toInt64), .long (lN 0), .long p1.toInt64]) 3 (c_X10_in V p1.toInt64 (lN 0) ((r_3 - (nI 1)).toInt64) _ h) (ga_same_i fun _ => rfl) gX10_piece_X10_in rfl rfl rfl hd_X10_inS ⟨Nat.le_of_ble_eq_true rfl, Nat.le_of_ble_eq_true rfl⟩ rfl rfl (Nat.le_of_ble_eq_true rfl) ⟨Nat.zero_le _, Nat.zero_le _⟩ [] rfl rfl dX10_piece_16 ?_
  rintro _ _ ⟨r_4, ⟨⟩, rfl, rfl, h⟩
  refine ga_to [(a 0, .inr (10, [.int x_rules, .int x_places, .ref (a 1), .ref (a 2), .ref (a 3), .int x_newRules, .int x_newPlaces, .ref (a 4), .ref (a 5), .ref (a 6), .ref (a 7), .ref (a 8), .int x_acts, .int x_kept, .int x_length, .ref (a 9), .int x_next, .int x_place, .int x_isWrong, .ref (a 10), .ref (a 11), .ref (a 12), .int x_parts, .int x_without, .ref (a 13), .ref (a 14), .ref (a 15), .ref (a 16), .int x_ways, .ref (a 17), .ref (a 18), .ref (a 19), .ref (a 20)])), (a 1, .inl (V.2 0, 12, .inl x_rule)), (a 2, .inl (V.2 0, 10, .inl x_takes)), (a 3, .inl (V.2 0, 10, .inl x_behind)), (a 8, .inl (V.2 0, 732, .inl x_slot)), (a 13, .inl (V.2 0, 31, .inl x_stood_1)), (a 14, .inl (V.2 1, 31, .inl x_parted_2))] [.int r_4] rfl rfl ?_
  try dsimp only at h
  refine ga_if_eq hR (pc := 19) 34 (by decide) dX10_piece_19 (fun c19 => ?_) (fun c19 => ?_)
  · replace h := h.1 c19
    refine ga_iconst hR (pc := 34) (v := -1) (by decide) dX10_piece_34 ?_
    exact ga_iret hE dX10_piece_35 rfl (ga_ri (x_stood_1, x_parted_2) rfl h)
  · replace h := h.2 c19
    refine ga_iload_n hR (pc := 22) 2 rfl rfl dX10_piece_22 ?_
    refine ga_i2l hR (pc := 23) dX10_piece_23 ?_
    refine ga_lconst hR (pc := 24) (v := lN 0) (by decide) dX10_piece_24 ?_
    refine ga_ldc2 hR (pc := 25) (v := lN 3) (by decide +kernel) dX10_piece_25 ?_
    refine ga_callS hR (pc := 28) (As := [.long p2.toInt64, .long (lN 0), .long (lN 3)]) (rest := []) (st0 := [.long (lN 3), .long (lN 0), .long p2.toInt64]) 3 (c_X10_in V p2.toInt64 (lN 0) (lN 3) _ h) (ga_same_i fun _ => rfl) gX10_piece_X10_in rfl rfl rfl hd_X10_inS ⟨Nat.le_of_ble_eq_true rfl, Nat.le_of_ble_eq_true rfl⟩ rfl rfl (Nat.le_of_ble_eq_true rfl) ⟨Nat.zero_le _, Nat.zero_le _⟩ [] rfl rfl dX10_piece_28 ?_
    rintro _ _ ⟨r_5, ⟨⟩, rfl, rfl, h⟩
    refine ga_to [(a 0, .inr (10, [.int x_rules, .int x_places, .ref (a 1), .ref (a 2), .ref (a 3), .int x_newRules, .int x_newPlaces, .ref (a 4), .ref (a 5), .ref (a 6), .ref (a 7), .ref (a 8), .int x_acts, .int x_kept, .int x_length, .ref (a 9), .int x_next, .int x_place, .int x_isWrong, .ref (a 10), .ref (a 11), .ref (a 12), .int x_parts, .int x_without, .ref (a 13), .ref (a 14), .ref (a 15), .ref (a 16), .int x_ways, .ref (a 17), .ref (a 18), .ref (a 19), .ref (a 20)])), (a 1, .inl (V.2 0, 12, .inl x_rule)), (a 2, .inl (V.2 0, 10, .inl x_takes)), (a 3, .inl (V.2 0, 10, .inl x_behind)), (a 8, .inl (V.2 0, 732, .inl x_slot)), (a 13, .inl (V.2 0, 31, .inl x_stood_1)), (a 14, .inl (V.2 1, 31, .inl x_parted_2))] [.int r_5] rfl rfl ?_
    try dsimp only at h
    refine ga_if_ne hR (pc := 31) 36 (by decide) dX10_piece_31 (fun c31 => ?_) (fun c31 => ?_)
    · replace h := h.1 c31
      refine ga_iconst hR (pc := 36) (v := -1) (by decide) dX10_piece_36 ?_
      refine ga_istore_n hR (pc := 37) (lv' := [(3, .int (-1)), (0, .ref (a 0)), (1, .int p1), (2, .int p2)]) rfl (by decide) rfl dX10_piece_37 ?_
      refine ga_iconst hR (pc := 38) (v := nI 0) (by decide) dX10_piece_38 ?_
      refine ga_istore hR (pc := 39) (lv' := [(4, .int (nI 0)), (3, .int (-1)), (0, .ref (a 0)), (1, .int p1), (2, .int p2)]) (by decide) rfl dX10_piece_39 ?_
      have hJ := h (fun (v4_6 : Int32) => G 0 0 [(a 0, .inr (10, [.int x_rules, .int x_places, .ref (a 1), .ref (a 2), .ref (a 3), .int x_newRules, .int x_newPlaces, .ref (a 4), .ref (a 5), .ref (a 6), .ref (a 7), .ref (a 8), .int x_acts, .int x_kept, .int x_length, .ref (a 9), .int x_next, .int x_place, .int x_isWrong, .ref (a 10), .ref (a 11), .ref (a 12), .int x_parts, .int x_without, .ref (a 13), .ref (a 14), .ref (a 15), .ref (a 16), .int x_ways, .ref (a 17), .ref (a 18), .ref (a 19), .ref (a 20)])), (a 1, .inl (V.2 0, 12, .inl x_rule)), (a 2, .inl (V.2 0, 10, .inl x_takes)), (a 3, .inl (V.2 0, 10, .inl x_behind)), (a 8, .inl (V.2 0, 732, .inl x_slot)), (a 13, .inl (V.2 0, 31, .inl x_stood_1)), (a 14, .inl (V.2 1, 31, .inl x_parted_2))] 70 [(0, .ref (a 0)), (2, .int p2), (4, .int v4_6)] [])
      refine ga_bind hJ ?_ ?_
      · intro v4_6 h
        show G 0 0 [(a 0, .inr (10, [.int x_rules, .int x_places, .ref (a 1), .ref (a 2), .ref (a 3), .int x_newRules, .int x_newPlaces, .ref (a 4), .ref (a 5), .ref (a 6), .ref (a 7), .ref (a 8), .int x_acts, .int x_kept, .int x_length, .ref (a 9), .int x_next, .int x_place, .int x_isWrong, .ref (a 10), .ref (a 11), .ref (a 12), .int x_parts, .int x_without, .ref (a 13), .ref (a 14), .ref (a 15), .ref (a 16), .int x_ways, .ref (a 17), .ref (a 18), .ref (a 19), .ref (a 20)])), (a 1, .inl (V.2 0, 12, .inl x_rule)), (a 2, .inl (V.2 0, 10, .inl x_takes)), (a 3, .inl (V.2 0, 10, .inl x_behind)), (a 8, .inl (V.2 0, 732, .inl x_slot)), (a 13, .inl (V.2 0, 31, .inl x_stood_1)), (a 14, .inl (V.2 1, 31, .inl x_parted_2))] 70 [(0, .ref (a 0)), (2, .int p2), (4, .int v4_6)] []
        obtain ⟨v4_8, ev4_8⟩ : ∃ v : Int32, v = v4_6 + (-1) := ⟨_, rfl⟩
        replace h := h v4_8 ev4_8
        refine ga_iinc hR (pc := 70) (lv' := [(4, .int v4_8), (0, .ref (a 0)), (2, .int p2)]) 2 (by decide) rfl ev4_8 (by decide) rfl dX10_piece_70 ?_
        refine ga_iload hR (pc := 73) 0 rfl dX10_piece_73 ?_
        refine ga_iconst hR (pc := 75) (v := nI 1) (by decide) dX10_piece_75 ?_
        refine ga_iadd hR (pc := 76) dX10_piece_76 ?_
        refine ga_topi (fun v5_9 ev5_9 => ?_)
        replace h := h v5_9 ev5_9
        refine ga_istore hR (pc := 77) (lv' := [(5, .int v5_9), (4, .int v4_8), (0, .ref (a 0)), (2, .int p2)]) (by decide) rfl dX10_piece_77 ?_
        have hJ := h (fun (v5_10 : Int32) => G 0 0 [(a 0, .inr (10, [.int x_rules, .int x_places, .ref (a 1), .ref (a 2), .ref (a 3), .int x_newRules, .int x_newPlaces, .ref (a 4), .ref (a 5), .ref (a 6), .ref (a 7), .ref (a 8), .int x_acts, .int x_kept, .int x_length, .ref (a 9), .int x_next, .int x_place, .int x_isWrong, .ref (a 10), .ref (a 11), .ref (a 12), .int x_parts, .int x_without, .ref (a 13), .ref (a 14), .ref (a 15), .ref (a 16), .int x_ways, .ref (a 17), .ref (a 18), .ref (a 19), .ref (a 20)])), (a 1, .inl (V.2 0, 12, .inl x_rule)), (a 2, .inl (V.2 0, 10, .inl x_takes)), (a 3, .inl (V.2 0, 10, .inl x_behind)), (a 8, .inl (V.2 0, 732, .inl x_slot)), (a 13, .inl (V.2 0, 31, .inl x_stood_1)), (a 14, .inl (V.2 1, 31, .inl x_parted_2))] 95 [(0, .ref (a 0)), (2, .int p2), (4, .int v4_8), (5, .int v5_10)] [])
        refine ga_bind hJ ?_ ?_
        · intro v5_10 h
          show G 0 0 [(a 0, .inr (10, [.int x_rules, .int x_places, .ref (a 1), .ref (a 2), .ref (a 3), .int x_newRules, .int x_newPlaces, .ref (a 4), .ref (a 5), .ref (a 6), .ref (a 7), .ref (a 8), .int x_acts, .int x_kept, .int x_length, .ref (a 9), .int x_next, .int x_place, .int x_isWrong, .ref (a 10), .ref (a 11), .ref (a 12), .int x_parts, .int x_without, .ref (a 13), .ref (a 14), .ref (a 15), .ref (a 16), .int x_ways, .ref (a 17), .ref (a 18), .ref (a 19), .ref (a 20)])), (a 1, .inl (V.2 0, 12, .inl x_rule)), (a 2, .inl (V.2 0, 10, .inl x_takes)), (a 3, .inl (V.2 0, 10, .inl x_behind)), (a 8, .inl (V.2 0, 732, .inl x_slot)), (a 13, .inl (V.2 0, 31, .inl x_stood_1)), (a 14, .inl (V.2 1, 31, .inl x_parted_2))] 95 [(0, .ref (a 0)), (2, .int p2), (4, .int v4_8), (5, .int v5_10)] []
          refine ga_iload_n hR (pc := 95) 1 rfl rfl dX10_piece_95 ?_
          refine ga_if_ne hR (pc := 96) 104 (by decide) dX10_piece_96 (fun c96 => ?_) (fun c96 => ?_)
          · replace h := h.1 c96
            refine ga_iload_n hR (pc := 104) 1 rfl rfl dX10_piece_104 ?_
            refine ga_iconst hR (pc := 105) (v := nI 1) (by decide) dX10_piece_105 ?_
            refine ga_icmp_ne hR (pc := 106) 117 (by decide) dX10_piece_106 (fun c106 => ?_) (fun c106 => ?_)
            · replace h := h.1 c106
              refine ga_aload_n hR (pc := 117) 0 rfl rfl dX10_piece_117 ?_
              refine ga_aload_n hR (pc := 118) 0 rfl rfl dX10_piece_118 ?_
              refine ga_get hR (pc := 119) 0 rfl rfl hinX10 24 (by decide) f48 rfl dX10_piece_119 ?_
              refine ga_iload hR (pc := 122) 3 rfl dX10_piece_122 ?_
              refine ga_iald hR (pc := 124) 5 rfl h.1 dX10_piece_124 ?_
              replace h := h.2
              refine ga_iload_n hR (pc := 125) 1 rfl rfl dX10_piece_125 ?_
              refine ga_iconst hR (pc := 126) (v := nI 2) (by decide) dX10_piece_126 ?_
              have hJ := h (fun (s2_12 : Int32) => G 0 0 [(a 0, .inr (10, [.int x_rules, .int x_places, .ref (a 1), .ref (a 2), .ref (a 3), .int x_newRules, .int x_newPlaces, .ref (a 4), .ref (a 5), .ref (a 6), .ref (a 7), .ref (a 8), .int x_acts, .int x_kept, .int x_length, .ref (a 9), .int x_next, .int x_place, .int x_isWrong, .ref (a 10), .ref (a 11), .ref (a 12), .int x_parts, .int x_without, .ref (a 13), .ref (a 14), .ref (a 15), .ref (a 16), .int x_ways, .ref (a 17), .ref (a 18), .ref (a 19), .ref (a 20)])), (a 1, .inl (V.2 0, 12, .inl x_rule)), (a 2, .inl (V.2 0, 10, .inl x_takes)), (a 3, .inl (V.2 0, 10, .inl x_behind)), (a 8, .inl (V.2 0, 732, .inl x_slot)), (a 13, .inl (V.2 0, 31, .inl x_stood_1)), (a 14, .inl (V.2 1, 31, .inl x_parted_2))] 136 [] [.int s2_12, .int (x_stood_1 v5_10.toNatClampNeg), .ref (a 0)])
              refine ga_bind hJ ?_ ?_
              · intro s2_12 h
                show G 0 0 [(a 0, .inr (10, [.int x_rules, .int x_places, .ref (a 1), .ref (a 2), .ref (a 3), .int x_newRules, .int x_newPlaces, .ref (a 4), .ref (a 5), .ref (a 6), .ref (a 7), .ref (a 8), .int x_acts, .int x_kept, .int x_length, .ref (a 9), .int x_next, .int x_place, .int x_isWrong, .ref (a 10), .ref (a 11), .ref (a 12), .int x_parts, .int x_without, .ref (a 13), .ref (a 14), .ref (a 15), .ref (a 16), .int x_ways, .ref (a 17), .ref (a 18), .ref (a 19), .ref (a 20)])), (a 1, .inl (V.2 0, 12, .inl x_rule)), (a 2, .inl (V.2 0, 10, .inl x_takes)), (a 3, .inl (V.2 0, 10, .inl x_behind)), (a 8, .inl (V.2 0, 732, .inl x_slot)), (a 13, .inl (V.2 0, 31, .inl x_stood_1)), (a 14, .inl (V.2 1, 31, .inl x_parted_2))] 136 [] [.int s2_12, .int (x_stood_1 v5_10.toNatClampNeg), .ref (a 0)]
                refine ga_callV hR (pc := 136) (As := [.int (x_stood_1 v5_10.toNatClampNeg), .int s2_12]) (rest := []) (st0 := [.int s2_12, .int (x_stood_1 v5_10.toNatClampNeg), .ref (a 0)]) (b := (a 0)) 2 (c_X10_rulesIn V a x_places x_newRules x_newPlaces x_acts x_kept x_length x_next x_place x_isWrong x_parts x_without x_ways x_rules x_rule (x_stood_1 v5_10.toNatClampNeg) s2_12 _ h) (ga_same_i fun _ => rfl) gX10_piece_X10_rulesIn rfl rfl rfl hd_X10_rulesIn ⟨Nat.le_of_ble_eq_true rfl, Nat.le_of_ble_eq_true rfl⟩ rfl rfl (Nat.le_of_ble_eq_true rfl) ⟨Nat.zero_le _, Nat.zero_le _⟩ [0, 1] rfl rfl 0 rfl rfl dX10_piece_136 ?_
                rintro _ _ ⟨r_14, ⟨⟩, rfl, rfl, h⟩
                refine ga_to [(a 0, .inr (10, [.int x_rules, .int x_places, .ref (a 1), .ref (a 2), .ref (a 3), .int x_newRules, .int x_newPlaces, .ref (a 4), .ref (a 5), .ref (a 6), .ref (a 7), .ref (a 8), .int x_acts, .int x_kept, .int x_length, .ref (a 9), .int x_next, .int x_place, .int x_isWrong, .ref (a 10), .ref (a 11), .ref (a 12), .int x_parts, .int x_without, .ref (a 13), .ref (a 14), .ref (a 15), .ref (a 16), .int x_ways, .ref (a 17), .ref (a 18), .ref (a 19), .ref (a 20)])), (a 1, .inl (V.2 0, 12, .inl x_rule)), (a 2, .inl (V.2 0, 10, .inl x_takes)), (a 3, .inl (V.2 0, 10, .inl x_behind)), (a 8, .inl (V.2 0, 732, .inl x_slot)), (a 13, .inl (V.2 0, 31, .inl x_stood_1)), (a 14, .inl (V.2 1, 31, .inl x_parted_2))] [.int r_14] rfl rfl ?_
                try dsimp only at h
                exact ga_iret hE dX10_piece_139 rfl (ga_ri (x_stood_1, x_parted_2) rfl h)
              · intro h
                refine ga_icmp_ne hR (pc := 127) 134 (by decide) dX10_piece_127 (fun c127 => ?_) (fun c127 => ?_)
                · replace h := h.1 c127
                  refine ga_bipush hR (pc := 134) (v := nI 8) (by decide) dX10_piece_134 ?_
                  exact ga_lv hR [] rfl h
                · replace h := h.2 c127
                  refine ga_iconst hR (pc := 130) (v := nI 4) (by decide) dX10_piece_130 ?_
                  refine ga_goto hR (pc := 131) 136 (by decide) dX10_piece_131 ?_
                  exact ga_lv hR [] rfl h
            · replace h := h.2 c106
              refine ga_iload hR (pc := 109) 3 rfl dX10_piece_109 ?_
              refine ga_iload hR (pc := 111) 2 rfl dX10_piece_111 ?_
              refine ga_isub hR (pc := 113) dX10_piece_113 ?_
              refine ga_goto hR (pc := 114) 139 (by decide) dX10_piece_114 ?_
              exact ga_iret hE dX10_piece_139 rfl (ga_ri (x_stood_1, x_parted_2) rfl h)
          · replace h := h.2 c96
            refine ga_iload hR (pc := 99) 2 rfl dX10_piece_99 ?_
            refine ga_goto hR (pc := 101) 139 (by decide) dX10_piece_101 ?_
            exact ga_iret hE dX10_piece_139 rfl (ga_ri (x_stood_1, x_parted_2) rfl h)
        · intro h
          obtain ⟨n, h⟩ := h
          have L79 : ∀ (n : Nat) (v5_16 : Int32), lp_X10_piece_79 x_parted_2 (fun (v5_10 : Int32) => G 0 0 [(a 0, .inr (10, [.int x_rules, .int x_places, .ref (a 1), .ref (a 2), .ref (a 3), .int x_newRules, .int x_newPlaces, .ref (a 4), .ref (a 5), .ref (a 6), .ref (a 7), .ref (a 8), .int x_acts, .int x_kept, .int x_length, .ref (a 9), .int x_next, .int x_place, .int x_isWrong, .ref (a 10), .ref (a 11), .ref (a 12), .int x_parts, .int x_without, .ref (a 13), .ref (a 14), .ref (a 15), .ref (a 16), .int x_ways, .ref (a 17), .ref (a 18), .ref (a 19), .ref (a 20)])), (a 1, .inl (V.2 0, 12, .inl x_rule)), (a 2, .inl (V.2 0, 10, .inl x_takes)), (a 3, .inl (V.2 0, 10, .inl x_behind)), (a 8, .inl (V.2 0, 732, .inl x_slot)), (a 13, .inl (V.2 0, 31, .inl x_stood_1)), (a 14, .inl (V.2 1, 31, .inl x_parted_2))] 95 [(0, .ref (a 0)), (2, .int p2), (4, .int v4_8), (5, .int v5_10)] []) n v5_16 → G 0 0 [(a 0, .inr (10, [.int x_rules, .int x_places, .ref (a 1), .ref (a 2), .ref (a 3), .int x_newRules, .int x_newPlaces, .ref (a 4), .ref (a 5), .ref (a 6), .ref (a 7), .ref (a 8), .int x_acts, .int x_kept, .int x_length, .ref (a 9), .int x_next, .int x_place, .int x_isWrong, .ref (a 10), .ref (a 11), .ref (a 12), .int x_parts, .int x_without, .ref (a 13), .ref (a 14), .ref (a 15), .ref (a 16), .int x_ways, .ref (a 17), .ref (a 18), .ref (a 19), .ref (a 20)])), (a 1, .inl (V.2 0, 12, .inl x_rule)), (a 2, .inl (V.2 0, 10, .inl x_takes)), (a 3, .inl (V.2 0, 10, .inl x_behind)), (a 8, .inl (V.2 0, 732, .inl x_slot)), (a 13, .inl (V.2 0, 31, .inl x_stood_1)), (a 14, .inl (V.2 1, 31, .inl x_parted_2))] 79 [(0, .ref (a 0)), (2, .int p2), (4, .int v4_8), (5, .int v5_16)] [] := by
            intro n
            induction n with
            | zero => exact fun _ h => False.elim h
            | succ n ih =>
              intro v5_16 h
              rw [lp_X10_piece_79] at h
              refine ga_aload_n hR (pc := 79) 0 rfl rfl dX10_piece_79 ?_
              refine ga_get hR (pc := 80) 0 rfl rfl hinX10 25 (by decide) f51 rfl dX10_piece_80 ?_
              refine ga_iload hR (pc := 83) 3 rfl dX10_piece_83 ?_
              refine ga_zald hR (pc := 85) 6 rfl h.1 dX10_piece_85 ?_
              replace h := h.2
              refine ga_if_ne hR (pc := 86) 95 (by decide) dX10_piece_86 (fun c86 => ?_) (fun c86 => ?_)
              · replace h := h.1 c86
                exact ga_lv hR [0, 1, 2, 3] rfl h
              · replace h := h.2 c86
                obtain ⟨v5_17, ev5_17⟩ : ∃ v : Int32, v = v5_16 + (nI 1) := ⟨_, rfl⟩
                replace h := h v5_17 ev5_17
                refine ga_iinc hR (pc := 89) (lv' := [(5, .int v5_17), (0, .ref (a 0)), (2, .int p2), (4, .int v4_8)]) 3 (by decide) rfl ev5_17 (by decide) rfl dX10_piece_89 ?_
                refine ga_goto hR (pc := 92) 79 (by decide) dX10_piece_92 ?_
                exact ga_lv hR [1, 2, 3, 0] rfl (ih _ h)
          exact ga_lv hR [2, 3, 1, 0] rfl (L79 n _ h)
      · intro h
        obtain ⟨n, h⟩ := h
        have L41 : ∀ (n : Nat) (v3_22 : Int32) (v4_23 : Int32), lp_X10_piece_41 x_parted_2 p1 (fun (v4_6 : Int32) => G 0 0 [(a 0, .inr (10, [.int x_rules, .int x_places, .ref (a 1), .ref (a 2), .ref (a 3), .int x_newRules, .int x_newPlaces, .ref (a 4), .ref (a 5), .ref (a 6), .ref (a 7), .ref (a 8), .int x_acts, .int x_kept, .int x_length, .ref (a 9), .int x_next, .int x_place, .int x_isWrong, .ref (a 10), .ref (a 11), .ref (a 12), .int x_parts, .int x_without, .ref (a 13), .ref (a 14), .ref (a 15), .ref (a 16), .int x_ways, .ref (a 17), .ref (a 18), .ref (a 19), .ref (a 20)])), (a 1, .inl (V.2 0, 12, .inl x_rule)), (a 2, .inl (V.2 0, 10, .inl x_takes)), (a 3, .inl (V.2 0, 10, .inl x_behind)), (a 8, .inl (V.2 0, 732, .inl x_slot)), (a 13, .inl (V.2 0, 31, .inl x_stood_1)), (a 14, .inl (V.2 1, 31, .inl x_parted_2))] 70 [(0, .ref (a 0)), (2, .int p2), (4, .int v4_6)] []) n v3_22 v4_23 → G 0 0 [(a 0, .inr (10, [.int x_rules, .int x_places, .ref (a 1), .ref (a 2), .ref (a 3), .int x_newRules, .int x_newPlaces, .ref (a 4), .ref (a 5), .ref (a 6), .ref (a 7), .ref (a 8), .int x_acts, .int x_kept, .int x_length, .ref (a 9), .int x_next, .int x_place, .int x_isWrong, .ref (a 10), .ref (a 11), .ref (a 12), .int x_parts, .int x_without, .ref (a 13), .ref (a 14), .ref (a 15), .ref (a 16), .int x_ways, .ref (a 17), .ref (a 18), .ref (a 19), .ref (a 20)])), (a 1, .inl (V.2 0, 12, .inl x_rule)), (a 2, .inl (V.2 0, 10, .inl x_takes)), (a 3, .inl (V.2 0, 10, .inl x_behind)), (a 8, .inl (V.2 0, 732, .inl x_slot)), (a 13, .inl (V.2 0, 31, .inl x_stood_1)), (a 14, .inl (V.2 1, 31, .inl x_parted_2))] 41 [(0, .ref (a 0)), (1, .int p1), (2, .int p2), (3, .int v3_22), (4, .int v4_23)] [] := by
          intro n
          induction n with
          | zero => exact fun _ _ h => False.elim h
          | succ n ih =>
            intro v3_22 v4_23 h
            rw [lp_X10_piece_41] at h
            refine ga_iload_n hR (pc := 41) 3 rfl rfl dX10_piece_41 ?_
            refine ga_iload_n hR (pc := 42) 1 rfl rfl dX10_piece_42 ?_
            refine ga_icmp_ge hR (pc := 43) 70 (by decide) dX10_piece_43 (fun c43 => ?_) (fun c43 => ?_)
            · replace h := h.1 c43
              exact ga_lv hR [0, 2, 4] rfl h
            · replace h := h.2 c43
              refine ga_iload_n hR (pc := 46) 3 rfl rfl dX10_piece_46 ?_
              refine ga_aload_n hR (pc := 47) 0 rfl rfl dX10_piece_47 ?_
              refine ga_get hR (pc := 48) 0 rfl rfl hinX10 25 (by decide) f51 rfl dX10_piece_48 ?_
              refine ga_iload hR (pc := 51) 4 rfl dX10_piece_51 ?_
              refine ga_zald hR (pc := 53) 6 rfl h.1 dX10_piece_53 ?_
              replace h := h.2
              refine ga_if_eq hR (pc := 54) 61 (by decide) dX10_piece_54 (fun c54 => ?_) (fun c54 => ?_)
              · replace h := h.1 c54
                refine ga_iconst hR (pc := 61) (v := nI 0) (by decide) dX10_piece_61 ?_
                refine ga_iadd hR (pc := 62) dX10_piece_62 ?_
                refine ga_topi (fun v3_24 ev3_24 => ?_)
                replace h := h v3_24 ev3_24
                refine ga_istore_n hR (pc := 63) (lv' := [(3, .int v3_24), (0, .ref (a 0)), (1, .int p1), (2, .int p2), (4, .int v4_23)]) rfl (by decide) rfl dX10_piece_63 ?_
                obtain ⟨v4_25, ev4_25⟩ : ∃ v : Int32, v = v4_23 + (nI 1) := ⟨_, rfl⟩
                replace h := h v4_25 ev4_25
                refine ga_iinc hR (pc := 64) (lv' := [(4, .int v4_25), (3, .int v3_24), (0, .ref (a 0)), (1, .int p1), (2, .int p2)]) 4 (by decide) rfl ev4_25 (by decide) rfl dX10_piece_64 ?_
                refine ga_goto hR (pc := 67) 41 (by decide) dX10_piece_67 ?_
                exact ga_lv hR [2, 3, 4, 1, 0] rfl (ih _ _ h)
              · replace h := h.2 c54
                refine ga_iconst hR (pc := 57) (v := nI 1) (by decide) dX10_piece_57 ?_
                refine ga_goto hR (pc := 58) 62 (by decide) dX10_piece_58 ?_
                refine ga_iadd hR (pc := 62) dX10_piece_62 ?_
                refine ga_topi (fun v3_26 ev3_26 => ?_)
                replace h := h v3_26 ev3_26
                refine ga_istore_n hR (pc := 63) (lv' := [(3, .int v3_26), (0, .ref (a 0)), (1, .int p1), (2, .int p2), (4, .int v4_23)]) rfl (by decide) rfl dX10_piece_63 ?_
                obtain ⟨v4_27, ev4_27⟩ : ∃ v : Int32, v = v4_23 + (nI 1) := ⟨_, rfl⟩
                replace h := h v4_27 ev4_27
                refine ga_iinc hR (pc := 64) (lv' := [(4, .int v4_27), (3, .int v3_26), (0, .ref (a 0)), (1, .int p1), (2, .int p2)]) 4 (by decide) rfl ev4_27 (by decide) rfl dX10_piece_64 ?_
                refine ga_goto hR (pc := 67) 41 (by decide) dX10_piece_67 ?_
                exact ga_lv hR [2, 3, 4, 1, 0] rfl (ih _ _ h)
        exact ga_lv hR [2, 3, 4, 1, 0] rfl (L41 n _ _ h)
    · replace h := h.2 c31
      refine ga_iconst hR (pc := 34) (v := -1) (by decide) dX10_piece_34 ?_
      exact ga_iret hE dX10_piece_35 rfl (ga_ri (x_stood_1, x_parted_2) rfl h)

def rm_X10_meets : Room := { frames := 0, cells := 0, slots := 0, locals := 0 }
theorem hd_X10_meetsS : yX10_meets.cls ≠ "java/lang/invoke/MethodHandle" ∧ yX10_meets.cls ≠ "java/lang/invoke/VarHandle" ∧ (parseMethodDescriptor yX10_meets.desc).map (fun d => d.parameters.length) = some 1 := by decide +kernel
theorem hd_X10_meets : yX10_meets.cls = RX10 ∧ yX10_meets.cls ≠ "java/lang/invoke/MethodHandle" ∧ yX10_meets.cls ≠ "java/lang/invoke/VarHandle" ∧ (parseMethodDescriptor yX10_meets.desc).map (fun d => d.parameters.length) = some 1 := ⟨rfl, hd_X10_meetsS⟩
set_option maxHeartbeats 4000000 in
set_option maxRecDepth 100000 in
theorem c_X10_meets (V : ga_V) (a : Nat → Nat) (x_rules : Int32) (x_places : Int32) (x_newRules : Int32) (x_newPlaces : Int32) (x_acts : Int32) (x_kept : Int32) (x_length : Int32) (x_next : Int32) (x_place : Int32) (x_isWrong : Int32) (x_parts : Int32) (x_without : Int32) (x_ways : Int32) (x_way : Nat → Int32) (x_at : Nat → Int32) (p1 : Int32) (K : Int32 → (Nat → Int32) → (Nat → Int32) → Prop) (h : wp_X10_meets x_ways x_way x_at p1 K) : ga_C V yX10_meets wsX10_meets rm_X10_meets [.ref (a 0), .int p1] [(a 0, .inr (10, [.int x_rules, .int x_places, .ref (a 1), .ref (a 2), .ref (a 3), .int x_newRules, .int x_newPlaces, .ref (a 4), .ref (a 5), .ref (a 6), .ref (a 7), .ref (a 8), .int x_acts, .int x_kept, .int x_length, .ref (a 9), .int x_next, .int x_place, .int x_isWrong, .ref (a 10), .ref (a 11), .ref (a 12), .int x_parts, .int x_without, .ref (a 13), .ref (a 14), .ref (a 15), .ref (a 16), .int x_ways, .ref (a 17), .ref (a 18), .ref (a 19), .ref (a 20)])), (a 16, .inl (V.2 0, 1024, .inl x_way)), (a 17, .inl (V.2 0, 1024, .inl x_at))] 0 0 (ga_Fv (fun (u : Int32 × (Nat → Int32) × (Nat → Int32)) => [(a 0, .inr (10, [.int x_rules, .int x_places, .ref (a 1), .ref (a 2), .ref (a 3), .int x_newRules, .int x_newPlaces, .ref (a 4), .ref (a 5), .ref (a 6), .ref (a 7), .ref (a 8), .int x_acts, .int x_kept, .int x_length, .ref (a 9), .int x_next, .int x_place, .int x_isWrong, .ref (a 10), .ref (a 11), .ref (a 12), .int x_parts, .int x_without, .ref (a 13), .ref (a 14), .ref (a 15), .ref (a 16), .int u.1, .ref (a 17), .ref (a 18), .ref (a 19), .ref (a 20)])), (a 16, .inl (V.2 0, 1024, .inl u.2.1)), (a 17, .inl (V.2 0, 1024, .inl u.2.2))]) (fun u => K u.1 u.2.1 u.2.2)) := by
  refine ga_met (cc := cX10_meets) (maxL := 2) (rt := none) (by decide) rfl [(0, .ref (a 0)), (1, .int p1)] rfl (Nat.le_of_ble_eq_true rfl) ?_
  intro G hR hE
  have hinX10 : ∀ w ∈ u_ws RX10 TX10 33, w ∈ wsX10_meets := by decide +kernel
  have f60 : Cond.fieldLink RX10 60 "BoundaryRulesModel" "at" "[I" ∈ wsX10_meets := by decide +kernel
  have f251 : Cond.fieldLink RX10 251 "BoundaryRulesModel" "ways" "I" ∈ wsX10_meets := by decide +kernel
  have f57 : Cond.fieldLink RX10 57 "BoundaryRulesModel" "way" "[I" ∈ wsX10_meets := by decide +kernel
  unfold wp_X10_meets at h
  refine ga_aload_n hR (pc := 0) 0 rfl rfl dX10_meets_0 ?_
  refine ga_get hR (pc := 1) 0 rfl rfl hinX10 29 (by decide) f60 rfl dX10_meets_1 ?_
  refine ga_iload_n hR (pc := 4) 1 rfl rfl dX10_meets_4 ?_
  refine ga_iald hR (pc := 5) 2 rfl h.1 dX10_meets_5 ?_
  replace h := h.2
  refine ga_if_ge hR (pc := 6) 39 (by decide) dX10_meets_6 (fun c6 => ?_) (fun c6 => ?_)
  · replace h := h.1 c6
    exact ga_vret hE dX10_meets_39 (ga_rv (x_ways, x_way, x_at) rfl h)
  · replace h := h.2 c6
    refine ga_aload_n hR (pc := 9) 0 rfl rfl dX10_meets_9 ?_
    refine ga_get hR (pc := 10) 0 rfl rfl hinX10 29 (by decide) f60 rfl dX10_meets_10 ?_
    refine ga_iload_n hR (pc := 13) 1 rfl rfl dX10_meets_13 ?_
    refine ga_aload_n hR (pc := 14) 0 rfl rfl dX10_meets_14 ?_
    refine ga_get hR (pc := 15) 0 rfl rfl hinX10 28 (by decide) f251 rfl dX10_meets_15 ?_
    refine ga_iast hR (pc := 18) (ws' := [(a 0, .inr (10, [.int x_rules, .int x_places, .ref (a 1), .ref (a 2), .ref (a 3), .int x_newRules, .int x_newPlaces, .ref (a 4), .ref (a 5), .ref (a 6), .ref (a 7), .ref (a 8), .int x_acts, .int x_kept, .int x_length, .ref (a 9), .int x_next, .int x_place, .int x_isWrong, .ref (a 10), .ref (a 11), .ref (a 12), .int x_parts, .int x_without, .ref (a 13), .ref (a 14), .ref (a 15), .ref (a 16), .int x_ways, .ref (a 17), .ref (a 18), .ref (a 19), .ref (a 20)])), (a 16, .inl (V.2 0, 1024, .inl x_way)), (a 17, .inl (V.2 0, 1024, .inl ((upd x_at p1.toNatClampNeg x_ways))))]) 2 rfl h.1 rfl dX10_meets_18 ?_
    replace h := h.2
    obtain ⟨x_at_1, ex_at_1⟩ : ∃ f : Nat → Int32, f = upd x_at p1.toNatClampNeg x_ways := ⟨_, rfl⟩
    refine ga_cast (ws' := [(a 0, .inr (10, [.int x_rules, .int x_places, .ref (a 1), .ref (a 2), .ref (a 3), .int x_newRules, .int x_newPlaces, .ref (a 4), .ref (a 5), .ref (a 6), .ref (a 7), .ref (a 8), .int x_acts, .int x_kept, .int x_length, .ref (a 9), .int x_next, .int x_place, .int x_isWrong, .ref (a 10), .ref (a 11), .ref (a 12), .int x_parts, .int x_without, .ref (a 13), .ref (a 14), .ref (a 15), .ref (a 16), .int x_ways, .ref (a 17), .ref (a 18), .ref (a 19), .ref (a 20)])), (a 16, .inl (V.2 0, 1024, .inl x_way)), (a 17, .inl (V.2 0, 1024, .inl x_at_1))]) (by rw [ex_at_1]) rfl ?_
    replace h := h x_at_1 ex_at_1
    refine ga_aload_n hR (pc := 19) 0 rfl rfl dX10_meets_19 ?_
    refine ga_get hR (pc := 20) 0 rfl rfl hinX10 27 (by decide) f57 rfl dX10_meets_20 ?_
    refine ga_aload_n hR (pc := 23) 0 rfl rfl dX10_meets_23 ?_
    refine ga_get hR (pc := 24) 0 rfl rfl hinX10 28 (by decide) f251 rfl dX10_meets_24 ?_
    refine ga_iload_n hR (pc := 27) 1 rfl rfl dX10_meets_27 ?_
    refine ga_iast hR (pc := 28) (ws' := [(a 0, .inr (10, [.int x_rules, .int x_places, .ref (a 1), .ref (a 2), .ref (a 3), .int x_newRules, .int x_newPlaces, .ref (a 4), .ref (a 5), .ref (a 6), .ref (a 7), .ref (a 8), .int x_acts, .int x_kept, .int x_length, .ref (a 9), .int x_next, .int x_place, .int x_isWrong, .ref (a 10), .ref (a 11), .ref (a 12), .int x_parts, .int x_without, .ref (a 13), .ref (a 14), .ref (a 15), .ref (a 16), .int x_ways, .ref (a 17), .ref (a 18), .ref (a 19), .ref (a 20)])), (a 16, .inl (V.2 0, 1024, .inl ((upd x_way x_ways.toNatClampNeg p1)))), (a 17, .inl (V.2 0, 1024, .inl x_at_1))]) 1 rfl h.1 rfl dX10_meets_28 ?_
    replace h := h.2
    obtain ⟨x_way_2, ex_way_2⟩ : ∃ f : Nat → Int32, f = upd x_way x_ways.toNatClampNeg p1 := ⟨_, rfl⟩
    refine ga_cast (ws' := [(a 0, .inr (10, [.int x_rules, .int x_places, .ref (a 1), .ref (a 2), .ref (a 3), .int x_newRules, .int x_newPlaces, .ref (a 4), .ref (a 5), .ref (a 6), .ref (a 7), .ref (a 8), .int x_acts, .int x_kept, .int x_length, .ref (a 9), .int x_next, .int x_place, .int x_isWrong, .ref (a 10), .ref (a 11), .ref (a 12), .int x_parts, .int x_without, .ref (a 13), .ref (a 14), .ref (a 15), .ref (a 16), .int x_ways, .ref (a 17), .ref (a 18), .ref (a 19), .ref (a 20)])), (a 16, .inl (V.2 0, 1024, .inl x_way_2)), (a 17, .inl (V.2 0, 1024, .inl x_at_1))]) (by rw [ex_way_2]) rfl ?_
    replace h := h x_way_2 ex_way_2
    refine ga_aload_n hR (pc := 29) 0 rfl rfl dX10_meets_29 ?_
    refine ga_dup hR (pc := 30) rfl dX10_meets_30 ?_
    refine ga_get hR (pc := 31) 0 rfl rfl hinX10 28 (by decide) f251 rfl dX10_meets_31 ?_
    refine ga_iconst hR (pc := 34) (v := nI 1) (by decide) dX10_meets_34 ?_
    refine ga_iadd hR (pc := 35) dX10_meets_35 ?_
    refine ga_topi (fun x_ways_3 ex_ways_3 => ?_)
    replace h := h x_ways_3 ex_ways_3
    refine ga_putf hR (pc := 36) (ws' := [(a 0, .inr (10, [.int x_rules, .int x_places, .ref (a 1), .ref (a 2), .ref (a 3), .int x_newRules, .int x_newPlaces, .ref (a 4), .ref (a 5), .ref (a 6), .ref (a 7), .ref (a 8), .int x_acts, .int x_kept, .int x_length, .ref (a 9), .int x_next, .int x_place, .int x_isWrong, .ref (a 10), .ref (a 11), .ref (a 12), .int x_parts, .int x_without, .ref (a 13), .ref (a 14), .ref (a 15), .ref (a 16), .int x_ways_3, .ref (a 17), .ref (a 18), .ref (a 19), .ref (a 20)])), (a 16, .inl (V.2 0, 1024, .inl x_way_2)), (a 17, .inl (V.2 0, 1024, .inl x_at_1))]) 0 rfl rfl hinX10 28 (by decide) f251 tyX10_ok nmX10 rfl rfl rfl (Nat.le_of_ble_eq_true rfl) rfl dX10_meets_36 ?_
    exact ga_vret hE dX10_meets_39 (ga_rv (x_ways_3, x_way_2, x_at_1) rfl h)

def rm_X10_allWays : Room := { frames := 3, cells := 0, slots := 0, locals := 74 }
theorem hd_X10_allWaysS : yX10_allWays.cls ≠ "java/lang/invoke/MethodHandle" ∧ yX10_allWays.cls ≠ "java/lang/invoke/VarHandle" ∧ (parseMethodDescriptor yX10_allWays.desc).map (fun d => d.parameters.length) = some 0 := by decide +kernel
theorem hd_X10_allWays : yX10_allWays.cls = RX10 ∧ yX10_allWays.cls ≠ "java/lang/invoke/MethodHandle" ∧ yX10_allWays.cls ≠ "java/lang/invoke/VarHandle" ∧ (parseMethodDescriptor yX10_allWays.desc).map (fun d => d.parameters.length) = some 0 := ⟨rfl, hd_X10_allWaysS⟩
set_option maxHeartbeats 4000000 in
set_option maxRecDepth 100000 in
theorem c_X10_allWays (V : ga_V) (a : Nat → Nat) (x_newRules : Int32) (x_newPlaces : Int32) (x_acts : Int32) (x_kept : Int32) (x_length : Int32) (x_next : Int32) (x_place : Int32) (x_isWrong : Int32) (x_parts : Int32) (x_rules : Int32) (x_places : Int32) (x_without : Int32) (x_ways : Int32) (x_rule : Nat → Int32) (x_takes : Nat → Int32) (x_behind : Nat → Int32) (x_slot : Nat → Int32) (x_way : Nat → Int32) (x_at : Nat → Int32) (x_on : Nat → Int32) (K : Int32 → (Nat → Int32) → (Nat → Int32) → (Nat → Int32) → Prop) (h : wp_X10_allWays x_rules x_places x_without x_ways x_rule x_takes x_behind x_slot x_way x_at x_on K) : ga_C V yX10_allWays wsX10_allWays rm_X10_allWays [.ref (a 0)] [(a 0, .inr (10, [.int x_rules, .int x_places, .ref (a 1), .ref (a 2), .ref (a 3), .int x_newRules, .int x_newPlaces, .ref (a 4), .ref (a 5), .ref (a 6), .ref (a 7), .ref (a 8), .int x_acts, .int x_kept, .int x_length, .ref (a 9), .int x_next, .int x_place, .int x_isWrong, .ref (a 10), .ref (a 11), .ref (a 12), .int x_parts, .int x_without, .ref (a 13), .ref (a 14), .ref (a 15), .ref (a 16), .int x_ways, .ref (a 17), .ref (a 18), .ref (a 19), .ref (a 20)])), (a 1, .inl (V.2 0, 12, .inl x_rule)), (a 2, .inl (V.2 0, 10, .inl x_takes)), (a 3, .inl (V.2 0, 10, .inl x_behind)), (a 8, .inl (V.2 0, 732, .inl x_slot)), (a 16, .inl (V.2 0, 1024, .inl x_way)), (a 17, .inl (V.2 0, 1024, .inl x_at)), (a 20, .inl (V.2 0, 6144, .inl x_on))] 0 0 (ga_Fv (fun (u : Int32 × (Nat → Int32) × (Nat → Int32) × (Nat → Int32)) => [(a 0, .inr (10, [.int x_rules, .int x_places, .ref (a 1), .ref (a 2), .ref (a 3), .int x_newRules, .int x_newPlaces, .ref (a 4), .ref (a 5), .ref (a 6), .ref (a 7), .ref (a 8), .int x_acts, .int x_kept, .int x_length, .ref (a 9), .int x_next, .int x_place, .int x_isWrong, .ref (a 10), .ref (a 11), .ref (a 12), .int x_parts, .int x_without, .ref (a 13), .ref (a 14), .ref (a 15), .ref (a 16), .int u.1, .ref (a 17), .ref (a 18), .ref (a 19), .ref (a 20)])), (a 1, .inl (V.2 0, 12, .inl x_rule)), (a 2, .inl (V.2 0, 10, .inl x_takes)), (a 3, .inl (V.2 0, 10, .inl x_behind)), (a 8, .inl (V.2 0, 732, .inl x_slot)), (a 16, .inl (V.2 0, 1024, .inl u.2.1)), (a 17, .inl (V.2 0, 1024, .inl u.2.2.1)), (a 20, .inl (V.2 0, 6144, .inl u.2.2.2))]) (fun u => K u.1 u.2.1 u.2.2.1 u.2.2.2)) := by
  refine ga_met (cc := cX10_allWays) (maxL := 4) (rt := none) (by decide) rfl [(0, .ref (a 0))] rfl (Nat.le_of_ble_eq_true rfl) ?_
  intro G hR hE
  have hinX10 : ∀ w ∈ u_ws RX10 TX10 33, w ∈ wsX10_allWays := by decide +kernel
  have f251 : Cond.fieldLink RX10 251 "BoundaryRulesModel" "ways" "I" ∈ wsX10_allWays := by decide +kernel
  have f57 : Cond.fieldLink RX10 57 "BoundaryRulesModel" "way" "[I" ∈ wsX10_allWays := by decide +kernel
  have f69 : Cond.fieldLink RX10 69 "BoundaryRulesModel" "on" "[I" ∈ wsX10_allWays := by decide +kernel
  have f60 : Cond.fieldLink RX10 60 "BoundaryRulesModel" "at" "[I" ∈ wsX10_allWays := by decide +kernel
  unfold wp_X10_allWays at h
  refine ga_iconst hR (pc := 0) (v := nI 0) (by decide) dX10_allWays_0 ?_
  refine ga_istore_n hR (pc := 1) (lv' := [(1, .int (nI 0)), (0, .ref (a 0))]) rfl (by decide) rfl dX10_allWays_1 ?_
  have hJ := h (fun (x_at_1 : Nat → Int32) => G 0 0 [(a 0, .inr (10, [.int x_rules, .int x_places, .ref (a 1), .ref (a 2), .ref (a 3), .int x_newRules, .int x_newPlaces, .ref (a 4), .ref (a 5), .ref (a 6), .ref (a 7), .ref (a 8), .int x_acts, .int x_kept, .int x_length, .ref (a 9), .int x_next, .int x_place, .int x_isWrong, .ref (a 10), .ref (a 11), .ref (a 12), .int x_parts, .int x_without, .ref (a 13), .ref (a 14), .ref (a 15), .ref (a 16), .int x_ways, .ref (a 17), .ref (a 18), .ref (a 19), .ref (a 20)])), (a 1, .inl (V.2 0, 12, .inl x_rule)), (a 2, .inl (V.2 0, 10, .inl x_takes)), (a 3, .inl (V.2 0, 10, .inl x_behind)), (a 8, .inl (V.2 0, 732, .inl x_slot)), (a 16, .inl (V.2 0, 1024, .inl x_way)), (a 17, .inl (V.2 0, 1024, .inl x_at_1)), (a 20, .inl (V.2 0, 6144, .inl x_on))] 22 [(0, .ref (a 0))] [])
  refine ga_bind hJ ?_ ?_
  · intro x_at_1 h
    show G 0 0 [(a 0, .inr (10, [.int x_rules, .int x_places, .ref (a 1), .ref (a 2), .ref (a 3), .int x_newRules, .int x_newPlaces, .ref (a 4), .ref (a 5), .ref (a 6), .ref (a 7), .ref (a 8), .int x_acts, .int x_kept, .int x_length, .ref (a 9), .int x_next, .int x_place, .int x_isWrong, .ref (a 10), .ref (a 11), .ref (a 12), .int x_parts, .int x_without, .ref (a 13), .ref (a 14), .ref (a 15), .ref (a 16), .int x_ways, .ref (a 17), .ref (a 18), .ref (a 19), .ref (a 20)])), (a 1, .inl (V.2 0, 12, .inl x_rule)), (a 2, .inl (V.2 0, 10, .inl x_takes)), (a 3, .inl (V.2 0, 10, .inl x_behind)), (a 8, .inl (V.2 0, 732, .inl x_slot)), (a 16, .inl (V.2 0, 1024, .inl x_way)), (a 17, .inl (V.2 0, 1024, .inl x_at_1)), (a 20, .inl (V.2 0, 6144, .inl x_on))] 22 [(0, .ref (a 0))] []
    refine ga_aload_n hR (pc := 22) 0 rfl rfl dX10_allWays_22 ?_
    refine ga_iconst hR (pc := 23) (v := nI 0) (by decide) dX10_allWays_23 ?_
    refine ga_putf hR (pc := 24) (ws' := [(a 0, .inr (10, [.int x_rules, .int x_places, .ref (a 1), .ref (a 2), .ref (a 3), .int x_newRules, .int x_newPlaces, .ref (a 4), .ref (a 5), .ref (a 6), .ref (a 7), .ref (a 8), .int x_acts, .int x_kept, .int x_length, .ref (a 9), .int x_next, .int x_place, .int x_isWrong, .ref (a 10), .ref (a 11), .ref (a 12), .int x_parts, .int x_without, .ref (a 13), .ref (a 14), .ref (a 15), .ref (a 16), .int (nI 0), .ref (a 17), .ref (a 18), .ref (a 19), .ref (a 20)])), (a 1, .inl (V.2 0, 12, .inl x_rule)), (a 2, .inl (V.2 0, 10, .inl x_takes)), (a 3, .inl (V.2 0, 10, .inl x_behind)), (a 8, .inl (V.2 0, 732, .inl x_slot)), (a 16, .inl (V.2 0, 1024, .inl x_way)), (a 17, .inl (V.2 0, 1024, .inl x_at_1)), (a 20, .inl (V.2 0, 6144, .inl x_on))]) 0 rfl rfl hinX10 28 (by decide) f251 tyX10_ok nmX10 rfl rfl rfl (Nat.le_of_ble_eq_true rfl) rfl dX10_allWays_24 ?_
    refine ga_iconst hR (pc := 27) (v := nI 0) (by decide) dX10_allWays_27 ?_
    refine ga_istore_n hR (pc := 28) (lv' := [(1, .int (nI 0)), (0, .ref (a 0))]) rfl (by decide) rfl dX10_allWays_28 ?_
    have hJ := h (fun (x_ways_3 : Int32) (x_way_4 : Nat → Int32) (x_at_5 : Nat → Int32) => G 0 0 [(a 0, .inr (10, [.int x_rules, .int x_places, .ref (a 1), .ref (a 2), .ref (a 3), .int x_newRules, .int x_newPlaces, .ref (a 4), .ref (a 5), .ref (a 6), .ref (a 7), .ref (a 8), .int x_acts, .int x_kept, .int x_length, .ref (a 9), .int x_next, .int x_place, .int x_isWrong, .ref (a 10), .ref (a 11), .ref (a 12), .int x_parts, .int x_without, .ref (a 13), .ref (a 14), .ref (a 15), .ref (a 16), .int x_ways_3, .ref (a 17), .ref (a 18), .ref (a 19), .ref (a 20)])), (a 1, .inl (V.2 0, 12, .inl x_rule)), (a 2, .inl (V.2 0, 10, .inl x_takes)), (a 3, .inl (V.2 0, 10, .inl x_behind)), (a 8, .inl (V.2 0, 732, .inl x_slot)), (a 16, .inl (V.2 0, 1024, .inl x_way_4)), (a 17, .inl (V.2 0, 1024, .inl x_at_5)), (a 20, .inl (V.2 0, 6144, .inl x_on))] 50 [(0, .ref (a 0))] [])
    refine ga_bind hJ ?_ ?_
    · intro x_ways_3 x_way_4 x_at_5 h
      show G 0 0 [(a 0, .inr (10, [.int x_rules, .int x_places, .ref (a 1), .ref (a 2), .ref (a 3), .int x_newRules, .int x_newPlaces, .ref (a 4), .ref (a 5), .ref (a 6), .ref (a 7), .ref (a 8), .int x_acts, .int x_kept, .int x_length, .ref (a 9), .int x_next, .int x_place, .int x_isWrong, .ref (a 10), .ref (a 11), .ref (a 12), .int x_parts, .int x_without, .ref (a 13), .ref (a 14), .ref (a 15), .ref (a 16), .int x_ways_3, .ref (a 17), .ref (a 18), .ref (a 19), .ref (a 20)])), (a 1, .inl (V.2 0, 12, .inl x_rule)), (a 2, .inl (V.2 0, 10, .inl x_takes)), (a 3, .inl (V.2 0, 10, .inl x_behind)), (a 8, .inl (V.2 0, 732, .inl x_slot)), (a 16, .inl (V.2 0, 1024, .inl x_way_4)), (a 17, .inl (V.2 0, 1024, .inl x_at_5)), (a 20, .inl (V.2 0, 6144, .inl x_on))] 50 [(0, .ref (a 0))] []
      refine ga_iconst hR (pc := 50) (v := nI 0) (by decide) dX10_allWays_50 ?_
      refine ga_istore_n hR (pc := 51) (lv' := [(1, .int (nI 0)), (0, .ref (a 0))]) rfl (by decide) rfl dX10_allWays_51 ?_
      have hJ := h (fun (x_ways_7 : Int32) (x_way_8 : Nat → Int32) (x_at_9 : Nat → Int32) (x_on_10 : Nat → Int32) => G 0 0 [(a 0, .inr (10, [.int x_rules, .int x_places, .ref (a 1), .ref (a 2), .ref (a 3), .int x_newRules, .int x_newPlaces, .ref (a 4), .ref (a 5), .ref (a 6), .ref (a 7), .ref (a 8), .int x_acts, .int x_kept, .int x_length, .ref (a 9), .int x_next, .int x_place, .int x_isWrong, .ref (a 10), .ref (a 11), .ref (a 12), .int x_parts, .int x_without, .ref (a 13), .ref (a 14), .ref (a 15), .ref (a 16), .int x_ways_7, .ref (a 17), .ref (a 18), .ref (a 19), .ref (a 20)])), (a 1, .inl (V.2 0, 12, .inl x_rule)), (a 2, .inl (V.2 0, 10, .inl x_takes)), (a 3, .inl (V.2 0, 10, .inl x_behind)), (a 8, .inl (V.2 0, 732, .inl x_slot)), (a 16, .inl (V.2 0, 1024, .inl x_way_8)), (a 17, .inl (V.2 0, 1024, .inl x_at_9)), (a 20, .inl (V.2 0, 6144, .inl x_on_10))] 139 [] [])
      refine ga_bind hJ ?_ ?_
      · intro x_ways_7 x_way_8 x_at_9 x_on_10 h
        show G 0 0 [(a 0, .inr (10, [.int x_rules, .int x_places, .ref (a 1), .ref (a 2), .ref (a 3), .int x_newRules, .int x_newPlaces, .ref (a 4), .ref (a 5), .ref (a 6), .ref (a 7), .ref (a 8), .int x_acts, .int x_kept, .int x_length, .ref (a 9), .int x_next, .int x_place, .int x_isWrong, .ref (a 10), .ref (a 11), .ref (a 12), .int x_parts, .int x_without, .ref (a 13), .ref (a 14), .ref (a 15), .ref (a 16), .int x_ways_7, .ref (a 17), .ref (a 18), .ref (a 19), .ref (a 20)])), (a 1, .inl (V.2 0, 12, .inl x_rule)), (a 2, .inl (V.2 0, 10, .inl x_takes)), (a 3, .inl (V.2 0, 10, .inl x_behind)), (a 8, .inl (V.2 0, 732, .inl x_slot)), (a 16, .inl (V.2 0, 1024, .inl x_way_8)), (a 17, .inl (V.2 0, 1024, .inl x_at_9)), (a 20, .inl (V.2 0, 6144, .inl x_on_10))] 139 [] []
        exact ga_vret hE dX10_allWays_139 (ga_rv (x_ways_7, x_way_8, x_at_9, x_on_10) rfl h)
      · intro h
        obtain ⟨n, h⟩ := h
        have L52 : ∀ (n : Nat) (v1_53 : Int32) (x_ways_54 : Int32) (x_way_55 : Nat → Int32) (x_at_56 : Nat → Int32) (x_on_57 : Nat → Int32), lp_X10_allWays_52 x_rules x_places x_without x_rule x_takes x_behind x_slot (fun (x_ways_7 : Int32) (x_way_8 : Nat → Int32) (x_at_9 : Nat → Int32) (x_on_10 : Nat → Int32) => G 0 0 [(a 0, .inr (10, [.int x_rules, .int x_places, .ref (a 1), .ref (a 2), .ref (a 3), .int x_newRules, .int x_newPlaces, .ref (a 4), .ref (a 5), .ref (a 6), .ref (a 7), .ref (a 8), .int x_acts, .int x_kept, .int x_length, .ref (a 9), .int x_next, .int x_place, .int x_isWrong, .ref (a 10), .ref (a 11), .ref (a 12), .int x_parts, .int x_without, .ref (a 13), .ref (a 14), .ref (a 15), .ref (a 16), .int x_ways_7, .ref (a 17), .ref (a 18), .ref (a 19), .ref (a 20)])), (a 1, .inl (V.2 0, 12, .inl x_rule)), (a 2, .inl (V.2 0, 10, .inl x_takes)), (a 3, .inl (V.2 0, 10, .inl x_behind)), (a 8, .inl (V.2 0, 732, .inl x_slot)), (a 16, .inl (V.2 0, 1024, .inl x_way_8)), (a 17, .inl (V.2 0, 1024, .inl x_at_9)), (a 20, .inl (V.2 0, 6144, .inl x_on_10))] 139 [] []) n v1_53 x_ways_54 x_way_55 x_at_56 x_on_57 → G 0 0 [(a 0, .inr (10, [.int x_rules, .int x_places, .ref (a 1), .ref (a 2), .ref (a 3), .int x_newRules, .int x_newPlaces, .ref (a 4), .ref (a 5), .ref (a 6), .ref (a 7), .ref (a 8), .int x_acts, .int x_kept, .int x_length, .ref (a 9), .int x_next, .int x_place, .int x_isWrong, .ref (a 10), .ref (a 11), .ref (a 12), .int x_parts, .int x_without, .ref (a 13), .ref (a 14), .ref (a 15), .ref (a 16), .int x_ways_54, .ref (a 17), .ref (a 18), .ref (a 19), .ref (a 20)])), (a 1, .inl (V.2 0, 12, .inl x_rule)), (a 2, .inl (V.2 0, 10, .inl x_takes)), (a 3, .inl (V.2 0, 10, .inl x_behind)), (a 8, .inl (V.2 0, 732, .inl x_slot)), (a 16, .inl (V.2 0, 1024, .inl x_way_55)), (a 17, .inl (V.2 0, 1024, .inl x_at_56)), (a 20, .inl (V.2 0, 6144, .inl x_on_57))] 52 [(0, .ref (a 0)), (1, .int v1_53)] [] := by
          intro n
          induction n with
          | zero => exact fun _ _ _ _ _ h => False.elim h
          | succ n ih =>
            intro v1_53 x_ways_54 x_way_55 x_at_56 x_on_57 h
            rw [lp_X10_allWays_52] at h
            refine ga_iload_n hR (pc := 52) 1 rfl rfl dX10_allWays_52 ?_
            refine ga_aload_n hR (pc := 53) 0 rfl rfl dX10_allWays_53 ?_
            refine ga_get hR (pc := 54) 0 rfl rfl hinX10 28 (by decide) f251 rfl dX10_allWays_54 ?_
            refine ga_icmp_ge hR (pc := 57) 139 (by decide) dX10_allWays_57 (fun c57 => ?_) (fun c57 => ?_)
            · replace h := h.1 c57
              exact ga_lv hR [] rfl h
            · replace h := h.2 c57
              refine ga_iconst hR (pc := 60) (v := nI 0) (by decide) dX10_allWays_60 ?_
              refine ga_istore_n hR (pc := 61) (lv' := [(2, .int (nI 0)), (0, .ref (a 0)), (1, .int v1_53)]) rfl (by decide) rfl dX10_allWays_61 ?_
              have hJ := h (fun (x_ways_58 : Int32) (x_way_59 : Nat → Int32) (x_at_60 : Nat → Int32) (x_on_61 : Nat → Int32) => G 0 0 [(a 0, .inr (10, [.int x_rules, .int x_places, .ref (a 1), .ref (a 2), .ref (a 3), .int x_newRules, .int x_newPlaces, .ref (a 4), .ref (a 5), .ref (a 6), .ref (a 7), .ref (a 8), .int x_acts, .int x_kept, .int x_length, .ref (a 9), .int x_next, .int x_place, .int x_isWrong, .ref (a 10), .ref (a 11), .ref (a 12), .int x_parts, .int x_without, .ref (a 13), .ref (a 14), .ref (a 15), .ref (a 16), .int x_ways_58, .ref (a 17), .ref (a 18), .ref (a 19), .ref (a 20)])), (a 1, .inl (V.2 0, 12, .inl x_rule)), (a 2, .inl (V.2 0, 10, .inl x_takes)), (a 3, .inl (V.2 0, 10, .inl x_behind)), (a 8, .inl (V.2 0, 732, .inl x_slot)), (a 16, .inl (V.2 0, 1024, .inl x_way_59)), (a 17, .inl (V.2 0, 1024, .inl x_at_60)), (a 20, .inl (V.2 0, 6144, .inl x_on_61))] 133 [(0, .ref (a 0)), (1, .int v1_53)] [])
              refine ga_bind hJ ?_ ?_
              · intro x_ways_58 x_way_59 x_at_60 x_on_61 h
                show G 0 0 [(a 0, .inr (10, [.int x_rules, .int x_places, .ref (a 1), .ref (a 2), .ref (a 3), .int x_newRules, .int x_newPlaces, .ref (a 4), .ref (a 5), .ref (a 6), .ref (a 7), .ref (a 8), .int x_acts, .int x_kept, .int x_length, .ref (a 9), .int x_next, .int x_place, .int x_isWrong, .ref (a 10), .ref (a 11), .ref (a 12), .int x_parts, .int x_without, .ref (a 13), .ref (a 14), .ref (a 15), .ref (a 16), .int x_ways_58, .ref (a 17), .ref (a 18), .ref (a 19), .ref (a 20)])), (a 1, .inl (V.2 0, 12, .inl x_rule)), (a 2, .inl (V.2 0, 10, .inl x_takes)), (a 3, .inl (V.2 0, 10, .inl x_behind)), (a 8, .inl (V.2 0, 732, .inl x_slot)), (a 16, .inl (V.2 0, 1024, .inl x_way_59)), (a 17, .inl (V.2 0, 1024, .inl x_at_60)), (a 20, .inl (V.2 0, 6144, .inl x_on_61))] 133 [(0, .ref (a 0)), (1, .int v1_53)] []
                obtain ⟨v1_63, ev1_63⟩ : ∃ v : Int32, v = v1_53 + (nI 1) := ⟨_, rfl⟩
                replace h := h v1_63 ev1_63
                refine ga_iinc hR (pc := 133) (lv' := [(1, .int v1_63), (0, .ref (a 0))]) 1 (by decide) rfl ev1_63 (by decide) rfl dX10_allWays_133 ?_
                refine ga_goto hR (pc := 136) 52 (by decide) dX10_allWays_136 ?_
                exact ga_lv hR [1, 0] rfl (ih _ _ _ _ _ h)
              · intro h
                obtain ⟨n, h⟩ := h
                have L62 : ∀ (n : Nat) (v2_64 : Int32) (x_ways_65 : Int32) (x_way_66 : Nat → Int32) (x_at_67 : Nat → Int32) (x_on_68 : Nat → Int32), lp_X10_allWays_62 x_rules x_places x_without x_rule x_takes x_behind x_slot v1_53 (fun (x_ways_58 : Int32) (x_way_59 : Nat → Int32) (x_at_60 : Nat → Int32) (x_on_61 : Nat → Int32) => G 0 0 [(a 0, .inr (10, [.int x_rules, .int x_places, .ref (a 1), .ref (a 2), .ref (a 3), .int x_newRules, .int x_newPlaces, .ref (a 4), .ref (a 5), .ref (a 6), .ref (a 7), .ref (a 8), .int x_acts, .int x_kept, .int x_length, .ref (a 9), .int x_next, .int x_place, .int x_isWrong, .ref (a 10), .ref (a 11), .ref (a 12), .int x_parts, .int x_without, .ref (a 13), .ref (a 14), .ref (a 15), .ref (a 16), .int x_ways_58, .ref (a 17), .ref (a 18), .ref (a 19), .ref (a 20)])), (a 1, .inl (V.2 0, 12, .inl x_rule)), (a 2, .inl (V.2 0, 10, .inl x_takes)), (a 3, .inl (V.2 0, 10, .inl x_behind)), (a 8, .inl (V.2 0, 732, .inl x_slot)), (a 16, .inl (V.2 0, 1024, .inl x_way_59)), (a 17, .inl (V.2 0, 1024, .inl x_at_60)), (a 20, .inl (V.2 0, 6144, .inl x_on_61))] 133 [(0, .ref (a 0)), (1, .int v1_53)] []) n v2_64 x_ways_65 x_way_66 x_at_67 x_on_68 → G 0 0 [(a 0, .inr (10, [.int x_rules, .int x_places, .ref (a 1), .ref (a 2), .ref (a 3), .int x_newRules, .int x_newPlaces, .ref (a 4), .ref (a 5), .ref (a 6), .ref (a 7), .ref (a 8), .int x_acts, .int x_kept, .int x_length, .ref (a 9), .int x_next, .int x_place, .int x_isWrong, .ref (a 10), .ref (a 11), .ref (a 12), .int x_parts, .int x_without, .ref (a 13), .ref (a 14), .ref (a 15), .ref (a 16), .int x_ways_65, .ref (a 17), .ref (a 18), .ref (a 19), .ref (a 20)])), (a 1, .inl (V.2 0, 12, .inl x_rule)), (a 2, .inl (V.2 0, 10, .inl x_takes)), (a 3, .inl (V.2 0, 10, .inl x_behind)), (a 8, .inl (V.2 0, 732, .inl x_slot)), (a 16, .inl (V.2 0, 1024, .inl x_way_66)), (a 17, .inl (V.2 0, 1024, .inl x_at_67)), (a 20, .inl (V.2 0, 6144, .inl x_on_68))] 62 [(0, .ref (a 0)), (1, .int v1_53), (2, .int v2_64)] [] := by
                  intro n
                  induction n with
                  | zero => exact fun _ _ _ _ _ h => False.elim h
                  | succ n ih =>
                    intro v2_64 x_ways_65 x_way_66 x_at_67 x_on_68 h
                    rw [lp_X10_allWays_62] at h
                    refine ga_iload_n hR (pc := 62) 2 rfl rfl dX10_allWays_62 ?_
                    refine ga_bipush hR (pc := 63) (v := nI 6) (by decide) dX10_allWays_63 ?_
                    refine ga_icmp_ge hR (pc := 65) 133 (by decide) dX10_allWays_65 (fun c65 => ?_) (fun c65 => ?_)
                    · replace h := h.1 c65
                      exact ga_lv hR [0, 1] rfl h
                    · replace h := h.2 c65
                      refine ga_aload_n hR (pc := 68) 0 rfl rfl dX10_allWays_68 ?_
                      refine ga_aload_n hR (pc := 69) 0 rfl rfl dX10_allWays_69 ?_
                      refine ga_get hR (pc := 70) 0 rfl rfl hinX10 27 (by decide) f57 rfl dX10_allWays_70 ?_
                      refine ga_iload_n hR (pc := 73) 1 rfl rfl dX10_allWays_73 ?_
                      refine ga_iald hR (pc := 74) 5 rfl h.1 dX10_allWays_74 ?_
                      replace h := h.2
                      refine ga_iload_n hR (pc := 75) 2 rfl rfl dX10_allWays_75 ?_
                      refine ga_callV hR (pc := 76) (As := [.int (x_way_66 v1_53.toNatClampNeg), .int v2_64]) (rest := []) (st0 := [.int v2_64, .int (x_way_66 v1_53.toNatClampNeg), .ref (a 0)]) (b := (a 0)) 2 (c_X10_goes V a x_newRules x_newPlaces x_acts x_kept x_length x_next x_place x_isWrong x_parts x_without x_ways_65 x_rules x_places x_rule x_takes x_behind x_slot (x_way_66 v1_53.toNatClampNeg) v2_64 _ h) (ga_same_i fun _ => rfl) gX10_allWays_X10_goes rfl rfl rfl hd_X10_goes ⟨Nat.le_of_ble_eq_true rfl, Nat.le_of_ble_eq_true rfl⟩ rfl rfl (Nat.le_of_ble_eq_true rfl) ⟨Nat.zero_le _, Nat.zero_le _⟩ [0, 1, 2, 3, 4] rfl rfl 0 rfl rfl dX10_allWays_76 ?_
                      rintro _ _ ⟨r_69, ⟨⟩, rfl, rfl, h⟩
                      refine ga_to [(a 0, .inr (10, [.int x_rules, .int x_places, .ref (a 1), .ref (a 2), .ref (a 3), .int x_newRules, .int x_newPlaces, .ref (a 4), .ref (a 5), .ref (a 6), .ref (a 7), .ref (a 8), .int x_acts, .int x_kept, .int x_length, .ref (a 9), .int x_next, .int x_place, .int x_isWrong, .ref (a 10), .ref (a 11), .ref (a 12), .int x_parts, .int x_without, .ref (a 13), .ref (a 14), .ref (a 15), .ref (a 16), .int x_ways_65, .ref (a 17), .ref (a 18), .ref (a 19), .ref (a 20)])), (a 1, .inl (V.2 0, 12, .inl x_rule)), (a 2, .inl (V.2 0, 10, .inl x_takes)), (a 3, .inl (V.2 0, 10, .inl x_behind)), (a 8, .inl (V.2 0, 732, .inl x_slot)), (a 16, .inl (V.2 0, 1024, .inl x_way_66)), (a 17, .inl (V.2 0, 1024, .inl x_at_67)), (a 20, .inl (V.2 0, 6144, .inl x_on_68))] [.int r_69] rfl rfl ?_
                      try dsimp only at h
                      refine ga_istore_n hR (pc := 79) (lv' := [(3, .int r_69), (0, .ref (a 0)), (1, .int v1_53), (2, .int v2_64)]) rfl (by decide) rfl dX10_allWays_79 ?_
                      refine ga_iload_n hR (pc := 80) 0 rfl rfl dX10_allWays_80 ?_
                      have hJ := h (fun (x_ways_70 : Int32) (x_way_71 : Nat → Int32) (x_at_72 : Nat → Int32) => G 0 0 [(a 0, .inr (10, [.int x_rules, .int x_places, .ref (a 1), .ref (a 2), .ref (a 3), .int x_newRules, .int x_newPlaces, .ref (a 4), .ref (a 5), .ref (a 6), .ref (a 7), .ref (a 8), .int x_acts, .int x_kept, .int x_length, .ref (a 9), .int x_next, .int x_place, .int x_isWrong, .ref (a 10), .ref (a 11), .ref (a 12), .int x_parts, .int x_without, .ref (a 13), .ref (a 14), .ref (a 15), .ref (a 16), .int x_ways_70, .ref (a 17), .ref (a 18), .ref (a 19), .ref (a 20)])), (a 1, .inl (V.2 0, 12, .inl x_rule)), (a 2, .inl (V.2 0, 10, .inl x_takes)), (a 3, .inl (V.2 0, 10, .inl x_behind)), (a 8, .inl (V.2 0, 732, .inl x_slot)), (a 16, .inl (V.2 0, 1024, .inl x_way_71)), (a 17, .inl (V.2 0, 1024, .inl x_at_72)), (a 20, .inl (V.2 0, 6144, .inl x_on_68))] 89 [(0, .ref (a 0)), (1, .int v1_53), (2, .int v2_64), (3, .int r_69)] [])
                      refine ga_bind hJ ?_ ?_
                      · intro x_ways_70 x_way_71 x_at_72 h
                        show G 0 0 [(a 0, .inr (10, [.int x_rules, .int x_places, .ref (a 1), .ref (a 2), .ref (a 3), .int x_newRules, .int x_newPlaces, .ref (a 4), .ref (a 5), .ref (a 6), .ref (a 7), .ref (a 8), .int x_acts, .int x_kept, .int x_length, .ref (a 9), .int x_next, .int x_place, .int x_isWrong, .ref (a 10), .ref (a 11), .ref (a 12), .int x_parts, .int x_without, .ref (a 13), .ref (a 14), .ref (a 15), .ref (a 16), .int x_ways_70, .ref (a 17), .ref (a 18), .ref (a 19), .ref (a 20)])), (a 1, .inl (V.2 0, 12, .inl x_rule)), (a 2, .inl (V.2 0, 10, .inl x_takes)), (a 3, .inl (V.2 0, 10, .inl x_behind)), (a 8, .inl (V.2 0, 732, .inl x_slot)), (a 16, .inl (V.2 0, 1024, .inl x_way_71)), (a 17, .inl (V.2 0, 1024, .inl x_at_72)), (a 20, .inl (V.2 0, 6144, .inl x_on_68))] 89 [(0, .ref (a 0)), (1, .int v1_53), (2, .int v2_64), (3, .int r_69)] []
                        refine ga_aload_n hR (pc := 89) 0 rfl rfl dX10_allWays_89 ?_
                        refine ga_get hR (pc := 90) 0 rfl rfl hinX10 32 (by decide) f69 rfl dX10_allWays_90 ?_
                        refine ga_bipush hR (pc := 93) (v := nI 6) (by decide) dX10_allWays_93 ?_
                        refine ga_iload_n hR (pc := 95) 1 rfl rfl dX10_allWays_95 ?_
                        refine ga_imul hR (pc := 96) dX10_allWays_96 ?_
                        refine ga_iload_n hR (pc := 97) 2 rfl rfl dX10_allWays_97 ?_
                        refine ga_iadd hR (pc := 98) dX10_allWays_98 ?_
                        refine ga_iload_n hR (pc := 99) 3 rfl rfl dX10_allWays_99 ?_
                        refine ga_if_ne hR (pc := 100) 120 (by decide) dX10_allWays_100 (fun c100 => ?_) (fun c100 => ?_)
                        · replace h := h.1 c100
                          refine ga_aload_n hR (pc := 120) 0 rfl rfl dX10_allWays_120 ?_
                          refine ga_get hR (pc := 121) 0 rfl rfl hinX10 29 (by decide) f60 rfl dX10_allWays_121 ?_
                          refine ga_iload_n hR (pc := 124) 3 rfl rfl dX10_allWays_124 ?_
                          refine ga_iald hR (pc := 125) 6 rfl h.1 dX10_allWays_125 ?_
                          replace h := h.2
                          refine ga_topi (fun t_74 et_74 => ?_)
                          replace h := h t_74 et_74
                          refine ga_iast hR (pc := 126) (ws' := [(a 0, .inr (10, [.int x_rules, .int x_places, .ref (a 1), .ref (a 2), .ref (a 3), .int x_newRules, .int x_newPlaces, .ref (a 4), .ref (a 5), .ref (a 6), .ref (a 7), .ref (a 8), .int x_acts, .int x_kept, .int x_length, .ref (a 9), .int x_next, .int x_place, .int x_isWrong, .ref (a 10), .ref (a 11), .ref (a 12), .int x_parts, .int x_without, .ref (a 13), .ref (a 14), .ref (a 15), .ref (a 16), .int x_ways_70, .ref (a 17), .ref (a 18), .ref (a 19), .ref (a 20)])), (a 1, .inl (V.2 0, 12, .inl x_rule)), (a 2, .inl (V.2 0, 10, .inl x_takes)), (a 3, .inl (V.2 0, 10, .inl x_behind)), (a 8, .inl (V.2 0, 732, .inl x_slot)), (a 16, .inl (V.2 0, 1024, .inl x_way_71)), (a 17, .inl (V.2 0, 1024, .inl x_at_72)), (a 20, .inl (V.2 0, 6144, .inl ((upd x_on_68 (((nI 6) * v1_53) + v2_64).toNatClampNeg t_74))))]) 7 rfl h.1 rfl dX10_allWays_126 ?_
                          replace h := h.2
                          obtain ⟨x_on_75, ex_on_75⟩ : ∃ f : Nat → Int32, f = upd x_on_68 (((nI 6) * v1_53) + v2_64).toNatClampNeg t_74 := ⟨_, rfl⟩
                          refine ga_cast (ws' := [(a 0, .inr (10, [.int x_rules, .int x_places, .ref (a 1), .ref (a 2), .ref (a 3), .int x_newRules, .int x_newPlaces, .ref (a 4), .ref (a 5), .ref (a 6), .ref (a 7), .ref (a 8), .int x_acts, .int x_kept, .int x_length, .ref (a 9), .int x_next, .int x_place, .int x_isWrong, .ref (a 10), .ref (a 11), .ref (a 12), .int x_parts, .int x_without, .ref (a 13), .ref (a 14), .ref (a 15), .ref (a 16), .int x_ways_70, .ref (a 17), .ref (a 18), .ref (a 19), .ref (a 20)])), (a 1, .inl (V.2 0, 12, .inl x_rule)), (a 2, .inl (V.2 0, 10, .inl x_takes)), (a 3, .inl (V.2 0, 10, .inl x_behind)), (a 8, .inl (V.2 0, 732, .inl x_slot)), (a 16, .inl (V.2 0, 1024, .inl x_way_71)), (a 17, .inl (V.2 0, 1024, .inl x_at_72)), (a 20, .inl (V.2 0, 6144, .inl x_on_75))]) (by rw [ex_on_75]) rfl ?_
                          replace h := h x_on_75 ex_on_75
                          obtain ⟨v2_76, ev2_76⟩ : ∃ v : Int32, v = v2_64 + (nI 1) := ⟨_, rfl⟩
                          replace h := h v2_76 ev2_76
                          refine ga_iinc hR (pc := 127) (lv' := [(2, .int v2_76), (0, .ref (a 0)), (1, .int v1_53), (3, .int r_69)]) 2 (by decide) rfl ev2_76 (by decide) rfl dX10_allWays_127 ?_
                          refine ga_goto hR (pc := 130) 62 (by decide) dX10_allWays_130 ?_
                          exact ga_lv hR [1, 2, 0] rfl (ih _ _ _ _ _ h)
                        · replace h := h.2 c100
                          refine ga_sipush hR (pc := 103) (v := nI 1024) (by decide) dX10_allWays_103 ?_
                          refine ga_aload_n hR (pc := 106) 0 rfl rfl dX10_allWays_106 ?_
                          refine ga_get hR (pc := 107) 0 rfl rfl hinX10 29 (by decide) f60 rfl dX10_allWays_107 ?_
                          refine ga_aload_n hR (pc := 110) 0 rfl rfl dX10_allWays_110 ?_
                          refine ga_iload_n hR (pc := 111) 2 rfl rfl dX10_allWays_111 ?_
                          refine ga_callV hR (pc := 112) (As := [.int v2_64]) (rest := [.ref (a 17), .int (nI 1024), .int (((nI 6) * v1_53) + v2_64), .ref (a 20)]) (st0 := [.int v2_64, .ref (a 0), .ref (a 17), .int (nI 1024), .int (((nI 6) * v1_53) + v2_64), .ref (a 20)]) (b := (a 0)) 1 (c_X10_begun V a x_newRules x_newPlaces x_acts x_kept x_length x_next x_place x_isWrong x_parts x_ways_70 x_rules x_places x_without x_rule x_takes v2_64 _ h) (ga_same_i fun _ => rfl) gX10_allWays_X10_begun rfl rfl rfl hd_X10_begun ⟨Nat.le_of_ble_eq_true rfl, Nat.le_of_ble_eq_true rfl⟩ rfl rfl (Nat.le_of_ble_eq_true rfl) ⟨Nat.zero_le _, Nat.zero_le _⟩ [0, 1, 2] rfl rfl 0 rfl rfl dX10_allWays_112 ?_
                          rintro _ _ ⟨r_77, ⟨⟩, rfl, rfl, h⟩
                          refine ga_to [(a 0, .inr (10, [.int x_rules, .int x_places, .ref (a 1), .ref (a 2), .ref (a 3), .int x_newRules, .int x_newPlaces, .ref (a 4), .ref (a 5), .ref (a 6), .ref (a 7), .ref (a 8), .int x_acts, .int x_kept, .int x_length, .ref (a 9), .int x_next, .int x_place, .int x_isWrong, .ref (a 10), .ref (a 11), .ref (a 12), .int x_parts, .int x_without, .ref (a 13), .ref (a 14), .ref (a 15), .ref (a 16), .int x_ways_70, .ref (a 17), .ref (a 18), .ref (a 19), .ref (a 20)])), (a 1, .inl (V.2 0, 12, .inl x_rule)), (a 2, .inl (V.2 0, 10, .inl x_takes)), (a 3, .inl (V.2 0, 10, .inl x_behind)), (a 8, .inl (V.2 0, 732, .inl x_slot)), (a 16, .inl (V.2 0, 1024, .inl x_way_71)), (a 17, .inl (V.2 0, 1024, .inl x_at_72)), (a 20, .inl (V.2 0, 6144, .inl x_on_68))] [.int r_77, .ref (a 17), .int (nI 1024), .int (((nI 6) * v1_53) + v2_64), .ref (a 20)] rfl rfl ?_
                          try dsimp only at h
                          refine ga_iald hR (pc := 115) 6 rfl h.1 dX10_allWays_115 ?_
                          replace h := h.2
                          refine ga_iadd hR (pc := 116) dX10_allWays_116 ?_
                          refine ga_goto hR (pc := 117) 126 (by decide) dX10_allWays_117 ?_
                          refine ga_topi (fun t_78 et_78 => ?_)
                          replace h := h t_78 et_78
                          refine ga_iast hR (pc := 126) (ws' := [(a 0, .inr (10, [.int x_rules, .int x_places, .ref (a 1), .ref (a 2), .ref (a 3), .int x_newRules, .int x_newPlaces, .ref (a 4), .ref (a 5), .ref (a 6), .ref (a 7), .ref (a 8), .int x_acts, .int x_kept, .int x_length, .ref (a 9), .int x_next, .int x_place, .int x_isWrong, .ref (a 10), .ref (a 11), .ref (a 12), .int x_parts, .int x_without, .ref (a 13), .ref (a 14), .ref (a 15), .ref (a 16), .int x_ways_70, .ref (a 17), .ref (a 18), .ref (a 19), .ref (a 20)])), (a 1, .inl (V.2 0, 12, .inl x_rule)), (a 2, .inl (V.2 0, 10, .inl x_takes)), (a 3, .inl (V.2 0, 10, .inl x_behind)), (a 8, .inl (V.2 0, 732, .inl x_slot)), (a 16, .inl (V.2 0, 1024, .inl x_way_71)), (a 17, .inl (V.2 0, 1024, .inl x_at_72)), (a 20, .inl (V.2 0, 6144, .inl ((upd x_on_68 (((nI 6) * v1_53) + v2_64).toNatClampNeg t_78))))]) 7 rfl h.1 rfl dX10_allWays_126 ?_
                          replace h := h.2
                          obtain ⟨x_on_79, ex_on_79⟩ : ∃ f : Nat → Int32, f = upd x_on_68 (((nI 6) * v1_53) + v2_64).toNatClampNeg t_78 := ⟨_, rfl⟩
                          refine ga_cast (ws' := [(a 0, .inr (10, [.int x_rules, .int x_places, .ref (a 1), .ref (a 2), .ref (a 3), .int x_newRules, .int x_newPlaces, .ref (a 4), .ref (a 5), .ref (a 6), .ref (a 7), .ref (a 8), .int x_acts, .int x_kept, .int x_length, .ref (a 9), .int x_next, .int x_place, .int x_isWrong, .ref (a 10), .ref (a 11), .ref (a 12), .int x_parts, .int x_without, .ref (a 13), .ref (a 14), .ref (a 15), .ref (a 16), .int x_ways_70, .ref (a 17), .ref (a 18), .ref (a 19), .ref (a 20)])), (a 1, .inl (V.2 0, 12, .inl x_rule)), (a 2, .inl (V.2 0, 10, .inl x_takes)), (a 3, .inl (V.2 0, 10, .inl x_behind)), (a 8, .inl (V.2 0, 732, .inl x_slot)), (a 16, .inl (V.2 0, 1024, .inl x_way_71)), (a 17, .inl (V.2 0, 1024, .inl x_at_72)), (a 20, .inl (V.2 0, 6144, .inl x_on_79))]) (by rw [ex_on_79]) rfl ?_
                          replace h := h x_on_79 ex_on_79
                          obtain ⟨v2_80, ev2_80⟩ : ∃ v : Int32, v = v2_64 + (nI 1) := ⟨_, rfl⟩
                          replace h := h v2_80 ev2_80
                          refine ga_iinc hR (pc := 127) (lv' := [(2, .int v2_80), (0, .ref (a 0)), (1, .int v1_53), (3, .int r_69)]) 2 (by decide) rfl ev2_80 (by decide) rfl dX10_allWays_127 ?_
                          refine ga_goto hR (pc := 130) 62 (by decide) dX10_allWays_130 ?_
                          exact ga_lv hR [1, 2, 0] rfl (ih _ _ _ _ _ h)
                      · intro h
                        refine ga_if_eq hR (pc := 81) 89 (by decide) dX10_allWays_81 (fun c81 => ?_) (fun c81 => ?_)
                        · replace h := h.1 c81
                          exact ga_lv hR [1, 2, 3, 0] rfl h
                        · replace h := h.2 c81
                          refine ga_aload_n hR (pc := 84) 1 rfl rfl dX10_allWays_84 ?_
                          refine ga_iload_n hR (pc := 85) 0 rfl rfl dX10_allWays_85 ?_
                          refine ga_callV hR (pc := 86) (As := [.int r_69]) (rest := []) (st0 := [.int r_69, .ref (a 0)]) (b := (a 0)) 1 (c_X10_meets V a x_rules x_places x_newRules x_newPlaces x_acts x_kept x_length x_next x_place x_isWrong x_parts x_without x_ways_65 x_way_66 x_at_67 r_69 _ h) (ga_same_v fun _ => rfl) gX10_allWays_X10_meets rfl rfl rfl hd_X10_meets ⟨Nat.le_of_ble_eq_true rfl, Nat.le_of_ble_eq_true rfl⟩ rfl rfl (Nat.le_of_ble_eq_true rfl) ⟨Nat.zero_le _, Nat.zero_le _⟩ [0, 5, 6] rfl rfl 0 rfl rfl dX10_allWays_86 ?_
                          rintro _ _ ⟨⟨x_ways_81, x_way_82, x_at_83⟩, rfl, rfl, h⟩
                          refine ga_to [(a 0, .inr (10, [.int x_rules, .int x_places, .ref (a 1), .ref (a 2), .ref (a 3), .int x_newRules, .int x_newPlaces, .ref (a 4), .ref (a 5), .ref (a 6), .ref (a 7), .ref (a 8), .int x_acts, .int x_kept, .int x_length, .ref (a 9), .int x_next, .int x_place, .int x_isWrong, .ref (a 10), .ref (a 11), .ref (a 12), .int x_parts, .int x_without, .ref (a 13), .ref (a 14), .ref (a 15), .ref (a 16), .int x_ways_81, .ref (a 17), .ref (a 18), .ref (a 19), .ref (a 20)])), (a 1, .inl (V.2 0, 12, .inl x_rule)), (a 2, .inl (V.2 0, 10, .inl x_takes)), (a 3, .inl (V.2 0, 10, .inl x_behind)), (a 8, .inl (V.2 0, 732, .inl x_slot)), (a 16, .inl (V.2 0, 1024, .inl x_way_82)), (a 17, .inl (V.2 0, 1024, .inl x_at_83)), (a 20, .inl (V.2 0, 6144, .inl x_on_68))] [] rfl rfl ?_
                          try dsimp only at h
                          exact ga_lv hR [1, 2, 3, 0] rfl h
                exact ga_lv hR [1, 2, 0] rfl (L62 n _ _ _ _ _ h)
        exact ga_lv hR [1, 0] rfl (L52 n _ _ _ _ _ h)
    · intro h
      obtain ⟨n, h⟩ := h
      have L29 : ∀ (n : Nat) (v1_89 : Int32) (x_ways_90 : Int32) (x_way_91 : Nat → Int32) (x_at_92 : Nat → Int32), lp_X10_allWays_29 x_rules x_places x_without x_rule x_takes (fun (x_ways_3 : Int32) (x_way_4 : Nat → Int32) (x_at_5 : Nat → Int32) => G 0 0 [(a 0, .inr (10, [.int x_rules, .int x_places, .ref (a 1), .ref (a 2), .ref (a 3), .int x_newRules, .int x_newPlaces, .ref (a 4), .ref (a 5), .ref (a 6), .ref (a 7), .ref (a 8), .int x_acts, .int x_kept, .int x_length, .ref (a 9), .int x_next, .int x_place, .int x_isWrong, .ref (a 10), .ref (a 11), .ref (a 12), .int x_parts, .int x_without, .ref (a 13), .ref (a 14), .ref (a 15), .ref (a 16), .int x_ways_3, .ref (a 17), .ref (a 18), .ref (a 19), .ref (a 20)])), (a 1, .inl (V.2 0, 12, .inl x_rule)), (a 2, .inl (V.2 0, 10, .inl x_takes)), (a 3, .inl (V.2 0, 10, .inl x_behind)), (a 8, .inl (V.2 0, 732, .inl x_slot)), (a 16, .inl (V.2 0, 1024, .inl x_way_4)), (a 17, .inl (V.2 0, 1024, .inl x_at_5)), (a 20, .inl (V.2 0, 6144, .inl x_on))] 50 [(0, .ref (a 0))] []) n v1_89 x_ways_90 x_way_91 x_at_92 → G 0 0 [(a 0, .inr (10, [.int x_rules, .int x_places, .ref (a 1), .ref (a 2), .ref (a 3), .int x_newRules, .int x_newPlaces, .ref (a 4), .ref (a 5), .ref (a 6), .ref (a 7), .ref (a 8), .int x_acts, .int x_kept, .int x_length, .ref (a 9), .int x_next, .int x_place, .int x_isWrong, .ref (a 10), .ref (a 11), .ref (a 12), .int x_parts, .int x_without, .ref (a 13), .ref (a 14), .ref (a 15), .ref (a 16), .int x_ways_90, .ref (a 17), .ref (a 18), .ref (a 19), .ref (a 20)])), (a 1, .inl (V.2 0, 12, .inl x_rule)), (a 2, .inl (V.2 0, 10, .inl x_takes)), (a 3, .inl (V.2 0, 10, .inl x_behind)), (a 8, .inl (V.2 0, 732, .inl x_slot)), (a 16, .inl (V.2 0, 1024, .inl x_way_91)), (a 17, .inl (V.2 0, 1024, .inl x_at_92)), (a 20, .inl (V.2 0, 6144, .inl x_on))] 29 [(0, .ref (a 0)), (1, .int v1_89)] [] := by
        intro n
        induction n with
        | zero => exact fun _ _ _ _ h => False.elim h
        | succ n ih =>
          intro v1_89 x_ways_90 x_way_91 x_at_92 h
          rw [lp_X10_allWays_29] at h
          refine ga_iload_n hR (pc := 29) 1 rfl rfl dX10_allWays_29 ?_
          refine ga_bipush hR (pc := 30) (v := nI 6) (by decide) dX10_allWays_30 ?_
          refine ga_icmp_ge hR (pc := 32) 50 (by decide) dX10_allWays_32 (fun c32 => ?_) (fun c32 => ?_)
          · replace h := h.1 c32
            exact ga_lv hR [0] rfl h
          · replace h := h.2 c32
            refine ga_aload_n hR (pc := 35) 0 rfl rfl dX10_allWays_35 ?_
            refine ga_aload_n hR (pc := 36) 0 rfl rfl dX10_allWays_36 ?_
            refine ga_iload_n hR (pc := 37) 1 rfl rfl dX10_allWays_37 ?_
            refine ga_callV hR (pc := 38) (As := [.int v1_89]) (rest := [.ref (a 0)]) (st0 := [.int v1_89, .ref (a 0), .ref (a 0)]) (b := (a 0)) 1 (c_X10_begun V a x_newRules x_newPlaces x_acts x_kept x_length x_next x_place x_isWrong x_parts x_ways_90 x_rules x_places x_without x_rule x_takes v1_89 _ h) (ga_same_i fun _ => rfl) gX10_allWays_X10_begun rfl rfl rfl hd_X10_begun ⟨Nat.le_of_ble_eq_true rfl, Nat.le_of_ble_eq_true rfl⟩ rfl rfl (Nat.le_of_ble_eq_true rfl) ⟨Nat.zero_le _, Nat.zero_le _⟩ [0, 1, 2] rfl rfl 0 rfl rfl dX10_allWays_38 ?_
            rintro _ _ ⟨r_93, ⟨⟩, rfl, rfl, h⟩
            refine ga_to [(a 0, .inr (10, [.int x_rules, .int x_places, .ref (a 1), .ref (a 2), .ref (a 3), .int x_newRules, .int x_newPlaces, .ref (a 4), .ref (a 5), .ref (a 6), .ref (a 7), .ref (a 8), .int x_acts, .int x_kept, .int x_length, .ref (a 9), .int x_next, .int x_place, .int x_isWrong, .ref (a 10), .ref (a 11), .ref (a 12), .int x_parts, .int x_without, .ref (a 13), .ref (a 14), .ref (a 15), .ref (a 16), .int x_ways_90, .ref (a 17), .ref (a 18), .ref (a 19), .ref (a 20)])), (a 1, .inl (V.2 0, 12, .inl x_rule)), (a 2, .inl (V.2 0, 10, .inl x_takes)), (a 3, .inl (V.2 0, 10, .inl x_behind)), (a 8, .inl (V.2 0, 732, .inl x_slot)), (a 16, .inl (V.2 0, 1024, .inl x_way_91)), (a 17, .inl (V.2 0, 1024, .inl x_at_92)), (a 20, .inl (V.2 0, 6144, .inl x_on))] [.int r_93, .ref (a 0)] rfl rfl ?_
            try dsimp only at h
            refine ga_callV hR (pc := 41) (As := [.int r_93]) (rest := []) (st0 := [.int r_93, .ref (a 0)]) (b := (a 0)) 1 (c_X10_meets V a x_rules x_places x_newRules x_newPlaces x_acts x_kept x_length x_next x_place x_isWrong x_parts x_without x_ways_90 x_way_91 x_at_92 r_93 _ h) (ga_same_v fun _ => rfl) gX10_allWays_X10_meets rfl rfl rfl hd_X10_meets ⟨Nat.le_of_ble_eq_true rfl, Nat.le_of_ble_eq_true rfl⟩ rfl rfl (Nat.le_of_ble_eq_true rfl) ⟨Nat.zero_le _, Nat.zero_le _⟩ [0, 5, 6] rfl rfl 0 rfl rfl dX10_allWays_41 ?_
            rintro _ _ ⟨⟨x_ways_94, x_way_95, x_at_96⟩, rfl, rfl, h⟩
            refine ga_to [(a 0, .inr (10, [.int x_rules, .int x_places, .ref (a 1), .ref (a 2), .ref (a 3), .int x_newRules, .int x_newPlaces, .ref (a 4), .ref (a 5), .ref (a 6), .ref (a 7), .ref (a 8), .int x_acts, .int x_kept, .int x_length, .ref (a 9), .int x_next, .int x_place, .int x_isWrong, .ref (a 10), .ref (a 11), .ref (a 12), .int x_parts, .int x_without, .ref (a 13), .ref (a 14), .ref (a 15), .ref (a 16), .int x_ways_94, .ref (a 17), .ref (a 18), .ref (a 19), .ref (a 20)])), (a 1, .inl (V.2 0, 12, .inl x_rule)), (a 2, .inl (V.2 0, 10, .inl x_takes)), (a 3, .inl (V.2 0, 10, .inl x_behind)), (a 8, .inl (V.2 0, 732, .inl x_slot)), (a 16, .inl (V.2 0, 1024, .inl x_way_95)), (a 17, .inl (V.2 0, 1024, .inl x_at_96)), (a 20, .inl (V.2 0, 6144, .inl x_on))] [] rfl rfl ?_
            try dsimp only at h
            obtain ⟨v1_97, ev1_97⟩ : ∃ v : Int32, v = v1_89 + (nI 1) := ⟨_, rfl⟩
            replace h := h v1_97 ev1_97
            refine ga_iinc hR (pc := 44) (lv' := [(1, .int v1_97), (0, .ref (a 0))]) 1 (by decide) rfl ev1_97 (by decide) rfl dX10_allWays_44 ?_
            refine ga_goto hR (pc := 47) 29 (by decide) dX10_allWays_47 ?_
            exact ga_lv hR [1, 0] rfl (ih _ _ _ _ h)
      exact ga_lv hR [1, 0] rfl (L29 n _ _ _ _ h)
  · intro h
    obtain ⟨n, h⟩ := h
    have L2 : ∀ (n : Nat) (v1_100 : Int32) (x_at_101 : Nat → Int32), lp_X10_allWays_2 (fun (x_at_1 : Nat → Int32) => G 0 0 [(a 0, .inr (10, [.int x_rules, .int x_places, .ref (a 1), .ref (a 2), .ref (a 3), .int x_newRules, .int x_newPlaces, .ref (a 4), .ref (a 5), .ref (a 6), .ref (a 7), .ref (a 8), .int x_acts, .int x_kept, .int x_length, .ref (a 9), .int x_next, .int x_place, .int x_isWrong, .ref (a 10), .ref (a 11), .ref (a 12), .int x_parts, .int x_without, .ref (a 13), .ref (a 14), .ref (a 15), .ref (a 16), .int x_ways, .ref (a 17), .ref (a 18), .ref (a 19), .ref (a 20)])), (a 1, .inl (V.2 0, 12, .inl x_rule)), (a 2, .inl (V.2 0, 10, .inl x_takes)), (a 3, .inl (V.2 0, 10, .inl x_behind)), (a 8, .inl (V.2 0, 732, .inl x_slot)), (a 16, .inl (V.2 0, 1024, .inl x_way)), (a 17, .inl (V.2 0, 1024, .inl x_at_1)), (a 20, .inl (V.2 0, 6144, .inl x_on))] 22 [(0, .ref (a 0))] []) n v1_100 x_at_101 → G 0 0 [(a 0, .inr (10, [.int x_rules, .int x_places, .ref (a 1), .ref (a 2), .ref (a 3), .int x_newRules, .int x_newPlaces, .ref (a 4), .ref (a 5), .ref (a 6), .ref (a 7), .ref (a 8), .int x_acts, .int x_kept, .int x_length, .ref (a 9), .int x_next, .int x_place, .int x_isWrong, .ref (a 10), .ref (a 11), .ref (a 12), .int x_parts, .int x_without, .ref (a 13), .ref (a 14), .ref (a 15), .ref (a 16), .int x_ways, .ref (a 17), .ref (a 18), .ref (a 19), .ref (a 20)])), (a 1, .inl (V.2 0, 12, .inl x_rule)), (a 2, .inl (V.2 0, 10, .inl x_takes)), (a 3, .inl (V.2 0, 10, .inl x_behind)), (a 8, .inl (V.2 0, 732, .inl x_slot)), (a 16, .inl (V.2 0, 1024, .inl x_way)), (a 17, .inl (V.2 0, 1024, .inl x_at_101)), (a 20, .inl (V.2 0, 6144, .inl x_on))] 2 [(0, .ref (a 0)), (1, .int v1_100)] [] := by
      intro n
      induction n with
      | zero => exact fun _ _ h => False.elim h
      | succ n ih =>
        intro v1_100 x_at_101 h
        rw [lp_X10_allWays_2] at h
        refine ga_iload_n hR (pc := 2) 1 rfl rfl dX10_allWays_2 ?_
        refine ga_sipush hR (pc := 3) (v := nI 1024) (by decide) dX10_allWays_3 ?_
        refine ga_icmp_ge hR (pc := 6) 22 (by decide) dX10_allWays_6 (fun c6 => ?_) (fun c6 => ?_)
        · replace h := h.1 c6
          exact ga_lv hR [0] rfl h
        · replace h := h.2 c6
          refine ga_aload_n hR (pc := 9) 0 rfl rfl dX10_allWays_9 ?_
          refine ga_get hR (pc := 10) 0 rfl rfl hinX10 29 (by decide) f60 rfl dX10_allWays_10 ?_
          refine ga_iload_n hR (pc := 13) 1 rfl rfl dX10_allWays_13 ?_
          refine ga_iconst hR (pc := 14) (v := -1) (by decide) dX10_allWays_14 ?_
          refine ga_iast hR (pc := 15) (ws' := [(a 0, .inr (10, [.int x_rules, .int x_places, .ref (a 1), .ref (a 2), .ref (a 3), .int x_newRules, .int x_newPlaces, .ref (a 4), .ref (a 5), .ref (a 6), .ref (a 7), .ref (a 8), .int x_acts, .int x_kept, .int x_length, .ref (a 9), .int x_next, .int x_place, .int x_isWrong, .ref (a 10), .ref (a 11), .ref (a 12), .int x_parts, .int x_without, .ref (a 13), .ref (a 14), .ref (a 15), .ref (a 16), .int x_ways, .ref (a 17), .ref (a 18), .ref (a 19), .ref (a 20)])), (a 1, .inl (V.2 0, 12, .inl x_rule)), (a 2, .inl (V.2 0, 10, .inl x_takes)), (a 3, .inl (V.2 0, 10, .inl x_behind)), (a 8, .inl (V.2 0, 732, .inl x_slot)), (a 16, .inl (V.2 0, 1024, .inl x_way)), (a 17, .inl (V.2 0, 1024, .inl ((upd x_at_101 v1_100.toNatClampNeg (-1))))), (a 20, .inl (V.2 0, 6144, .inl x_on))]) 6 rfl h.1 rfl dX10_allWays_15 ?_
          replace h := h.2
          obtain ⟨x_at_102, ex_at_102⟩ : ∃ f : Nat → Int32, f = upd x_at_101 v1_100.toNatClampNeg (-1) := ⟨_, rfl⟩
          refine ga_cast (ws' := [(a 0, .inr (10, [.int x_rules, .int x_places, .ref (a 1), .ref (a 2), .ref (a 3), .int x_newRules, .int x_newPlaces, .ref (a 4), .ref (a 5), .ref (a 6), .ref (a 7), .ref (a 8), .int x_acts, .int x_kept, .int x_length, .ref (a 9), .int x_next, .int x_place, .int x_isWrong, .ref (a 10), .ref (a 11), .ref (a 12), .int x_parts, .int x_without, .ref (a 13), .ref (a 14), .ref (a 15), .ref (a 16), .int x_ways, .ref (a 17), .ref (a 18), .ref (a 19), .ref (a 20)])), (a 1, .inl (V.2 0, 12, .inl x_rule)), (a 2, .inl (V.2 0, 10, .inl x_takes)), (a 3, .inl (V.2 0, 10, .inl x_behind)), (a 8, .inl (V.2 0, 732, .inl x_slot)), (a 16, .inl (V.2 0, 1024, .inl x_way)), (a 17, .inl (V.2 0, 1024, .inl x_at_102)), (a 20, .inl (V.2 0, 6144, .inl x_on))]) (by rw [ex_at_102]) rfl ?_
          replace h := h x_at_102 ex_at_102
          obtain ⟨v1_103, ev1_103⟩ : ∃ v : Int32, v = v1_100 + (nI 1) := ⟨_, rfl⟩
          replace h := h v1_103 ev1_103
          refine ga_iinc hR (pc := 16) (lv' := [(1, .int v1_103), (0, .ref (a 0))]) 1 (by decide) rfl ev1_103 (by decide) rfl dX10_allWays_16 ?_
          refine ga_goto hR (pc := 19) 2 (by decide) dX10_allWays_19 ?_
          exact ga_lv hR [1, 0] rfl (ih _ _ h)
    exact ga_lv hR [1, 0] rfl (L2 n _ _ h)

def rm_X10_isFiner : Room := { frames := 0, cells := 0, slots := 0, locals := 0 }
theorem hd_X10_isFinerS : yX10_isFiner.cls ≠ "java/lang/invoke/MethodHandle" ∧ yX10_isFiner.cls ≠ "java/lang/invoke/VarHandle" ∧ (parseMethodDescriptor yX10_isFiner.desc).map (fun d => d.parameters.length) = some 2 := by decide +kernel
theorem hd_X10_isFiner : yX10_isFiner.cls = RX10 ∧ yX10_isFiner.cls ≠ "java/lang/invoke/MethodHandle" ∧ yX10_isFiner.cls ≠ "java/lang/invoke/VarHandle" ∧ (parseMethodDescriptor yX10_isFiner.desc).map (fun d => d.parameters.length) = some 2 := ⟨rfl, hd_X10_isFinerS⟩
set_option maxHeartbeats 4000000 in
set_option maxRecDepth 100000 in
theorem c_X10_isFiner (V : ga_V) (a : Nat → Nat) (x_rules : Int32) (x_places : Int32) (x_newRules : Int32) (x_newPlaces : Int32) (x_acts : Int32) (x_kept : Int32) (x_length : Int32) (x_next : Int32) (x_place : Int32) (x_isWrong : Int32) (x_parts : Int32) (x_without : Int32) (x_ways : Int32) (x_alike : Nat → Int32) (x_on : Nat → Int32) (p1 : Int32) (p2 : Int32) (K : Int32 → Prop) (h : wp_X10_isFiner x_alike x_on p1 p2 K) : ga_C V yX10_isFiner wsX10_isFiner rm_X10_isFiner [.ref (a 0), .int p1, .int p2] [(a 0, .inr (10, [.int x_rules, .int x_places, .ref (a 1), .ref (a 2), .ref (a 3), .int x_newRules, .int x_newPlaces, .ref (a 4), .ref (a 5), .ref (a 6), .ref (a 7), .ref (a 8), .int x_acts, .int x_kept, .int x_length, .ref (a 9), .int x_next, .int x_place, .int x_isWrong, .ref (a 10), .ref (a 11), .ref (a 12), .int x_parts, .int x_without, .ref (a 13), .ref (a 14), .ref (a 15), .ref (a 16), .int x_ways, .ref (a 17), .ref (a 18), .ref (a 19), .ref (a 20)])), (a 18, .inl (V.2 0, 1024, .inl x_alike)), (a 20, .inl (V.2 0, 6144, .inl x_on))] 0 0 (ga_Fi (fun (u : Unit) => [(a 0, .inr (10, [.int x_rules, .int x_places, .ref (a 1), .ref (a 2), .ref (a 3), .int x_newRules, .int x_newPlaces, .ref (a 4), .ref (a 5), .ref (a 6), .ref (a 7), .ref (a 8), .int x_acts, .int x_kept, .int x_length, .ref (a 9), .int x_next, .int x_place, .int x_isWrong, .ref (a 10), .ref (a 11), .ref (a 12), .int x_parts, .int x_without, .ref (a 13), .ref (a 14), .ref (a 15), .ref (a 16), .int x_ways, .ref (a 17), .ref (a 18), .ref (a 19), .ref (a 20)])), (a 18, .inl (V.2 0, 1024, .inl x_alike)), (a 20, .inl (V.2 0, 6144, .inl x_on))]) (fun r u => K r)) := by
  refine ga_met (cc := cX10_isFiner) (maxL := 7) (rt := (some .boolean)) (by decide) rfl [(0, .ref (a 0)), (1, .int p1), (2, .int p2)] rfl (Nat.le_of_ble_eq_true rfl) ?_
  intro G hR hE
  have hinX10 : ∀ w ∈ u_ws RX10 TX10 33, w ∈ wsX10_isFiner := by decide +kernel
  have f63 : Cond.fieldLink RX10 63 "BoundaryRulesModel" "alike" "[I" ∈ wsX10_isFiner := by decide +kernel
  have f69 : Cond.fieldLink RX10 69 "BoundaryRulesModel" "on" "[I" ∈ wsX10_isFiner := by decide +kernel
  unfold wp_X10_isFiner at h
  refine ga_aload_n hR (pc := 0) 0 rfl rfl dX10_isFiner_0 ?_
  refine ga_get hR (pc := 1) 0 rfl rfl hinX10 30 (by decide) f63 rfl dX10_isFiner_1 ?_
  refine ga_iload_n hR (pc := 4) 1 rfl rfl dX10_isFiner_4 ?_
  refine ga_iald hR (pc := 5) 1 rfl h.1 dX10_isFiner_5 ?_
  replace h := h.2
  refine ga_aload_n hR (pc := 6) 0 rfl rfl dX10_isFiner_6 ?_
  refine ga_get hR (pc := 7) 0 rfl rfl hinX10 30 (by decide) f63 rfl dX10_isFiner_7 ?_
  refine ga_iload_n hR (pc := 10) 2 rfl rfl dX10_isFiner_10 ?_
  refine ga_iald hR (pc := 11) 1 rfl h.1 dX10_isFiner_11 ?_
  replace h := h.2
  have hJ := h (fun (s0_1 : Int32) => G 0 0 [(a 0, .inr (10, [.int x_rules, .int x_places, .ref (a 1), .ref (a 2), .ref (a 3), .int x_newRules, .int x_newPlaces, .ref (a 4), .ref (a 5), .ref (a 6), .ref (a 7), .ref (a 8), .int x_acts, .int x_kept, .int x_length, .ref (a 9), .int x_next, .int x_place, .int x_isWrong, .ref (a 10), .ref (a 11), .ref (a 12), .int x_parts, .int x_without, .ref (a 13), .ref (a 14), .ref (a 15), .ref (a 16), .int x_ways, .ref (a 17), .ref (a 18), .ref (a 19), .ref (a 20)])), (a 18, .inl (V.2 0, 1024, .inl x_alike)), (a 20, .inl (V.2 0, 6144, .inl x_on))] 20 [(0, .ref (a 0)), (1, .int p1), (2, .int p2)] [.int s0_1])
  refine ga_bind hJ ?_ ?_
  · intro s0_1 h
    show G 0 0 [(a 0, .inr (10, [.int x_rules, .int x_places, .ref (a 1), .ref (a 2), .ref (a 3), .int x_newRules, .int x_newPlaces, .ref (a 4), .ref (a 5), .ref (a 6), .ref (a 7), .ref (a 8), .int x_acts, .int x_kept, .int x_length, .ref (a 9), .int x_next, .int x_place, .int x_isWrong, .ref (a 10), .ref (a 11), .ref (a 12), .int x_parts, .int x_without, .ref (a 13), .ref (a 14), .ref (a 15), .ref (a 16), .int x_ways, .ref (a 17), .ref (a 18), .ref (a 19), .ref (a 20)])), (a 18, .inl (V.2 0, 1024, .inl x_alike)), (a 20, .inl (V.2 0, 6144, .inl x_on))] 20 [(0, .ref (a 0)), (1, .int p1), (2, .int p2)] [.int s0_1]
    refine ga_istore_n hR (pc := 20) (lv' := [(3, .int s0_1), (0, .ref (a 0)), (1, .int p1), (2, .int p2)]) rfl (by decide) rfl dX10_isFiner_20 ?_
    refine ga_iconst hR (pc := 21) (v := nI 0) (by decide) dX10_isFiner_21 ?_
    refine ga_istore hR (pc := 22) (lv' := [(4, .int (nI 0)), (3, .int s0_1), (0, .ref (a 0)), (1, .int p1), (2, .int p2)]) (by decide) rfl dX10_isFiner_22 ?_
    have hJ := h (fun (v3_3 : Int32) => G 0 0 [(a 0, .inr (10, [.int x_rules, .int x_places, .ref (a 1), .ref (a 2), .ref (a 3), .int x_newRules, .int x_newPlaces, .ref (a 4), .ref (a 5), .ref (a 6), .ref (a 7), .ref (a 8), .int x_acts, .int x_kept, .int x_length, .ref (a 9), .int x_next, .int x_place, .int x_isWrong, .ref (a 10), .ref (a 11), .ref (a 12), .int x_parts, .int x_without, .ref (a 13), .ref (a 14), .ref (a 15), .ref (a 16), .int x_ways, .ref (a 17), .ref (a 18), .ref (a 19), .ref (a 20)])), (a 18, .inl (V.2 0, 1024, .inl x_alike)), (a 20, .inl (V.2 0, 6144, .inl x_on))] 115 [(3, .int v3_3)] [])
    refine ga_bind hJ ?_ ?_
    · intro v3_3 h
      show G 0 0 [(a 0, .inr (10, [.int x_rules, .int x_places, .ref (a 1), .ref (a 2), .ref (a 3), .int x_newRules, .int x_newPlaces, .ref (a 4), .ref (a 5), .ref (a 6), .ref (a 7), .ref (a 8), .int x_acts, .int x_kept, .int x_length, .ref (a 9), .int x_next, .int x_place, .int x_isWrong, .ref (a 10), .ref (a 11), .ref (a 12), .int x_parts, .int x_without, .ref (a 13), .ref (a 14), .ref (a 15), .ref (a 16), .int x_ways, .ref (a 17), .ref (a 18), .ref (a 19), .ref (a 20)])), (a 18, .inl (V.2 0, 1024, .inl x_alike)), (a 20, .inl (V.2 0, 6144, .inl x_on))] 115 [(3, .int v3_3)] []
      refine ga_iload_n hR (pc := 115) 0 rfl rfl dX10_isFiner_115 ?_
      exact ga_iret hE dX10_isFiner_116 h.1 (ga_ri () rfl h.2)
    · intro h
      obtain ⟨n, h⟩ := h
      have L24 : ∀ (n : Nat) (v3_10 : Int32) (v4_11 : Int32), lp_X10_isFiner_24 x_alike x_on p1 p2 (fun (v3_3 : Int32) => G 0 0 [(a 0, .inr (10, [.int x_rules, .int x_places, .ref (a 1), .ref (a 2), .ref (a 3), .int x_newRules, .int x_newPlaces, .ref (a 4), .ref (a 5), .ref (a 6), .ref (a 7), .ref (a 8), .int x_acts, .int x_kept, .int x_length, .ref (a 9), .int x_next, .int x_place, .int x_isWrong, .ref (a 10), .ref (a 11), .ref (a 12), .int x_parts, .int x_without, .ref (a 13), .ref (a 14), .ref (a 15), .ref (a 16), .int x_ways, .ref (a 17), .ref (a 18), .ref (a 19), .ref (a 20)])), (a 18, .inl (V.2 0, 1024, .inl x_alike)), (a 20, .inl (V.2 0, 6144, .inl x_on))] 115 [(3, .int v3_3)] []) n v3_10 v4_11 → G 0 0 [(a 0, .inr (10, [.int x_rules, .int x_places, .ref (a 1), .ref (a 2), .ref (a 3), .int x_newRules, .int x_newPlaces, .ref (a 4), .ref (a 5), .ref (a 6), .ref (a 7), .ref (a 8), .int x_acts, .int x_kept, .int x_length, .ref (a 9), .int x_next, .int x_place, .int x_isWrong, .ref (a 10), .ref (a 11), .ref (a 12), .int x_parts, .int x_without, .ref (a 13), .ref (a 14), .ref (a 15), .ref (a 16), .int x_ways, .ref (a 17), .ref (a 18), .ref (a 19), .ref (a 20)])), (a 18, .inl (V.2 0, 1024, .inl x_alike)), (a 20, .inl (V.2 0, 6144, .inl x_on))] 24 [(0, .ref (a 0)), (1, .int p1), (2, .int p2), (3, .int v3_10), (4, .int v4_11)] [] := by
        intro n
        induction n with
        | zero => exact fun _ _ h => False.elim h
        | succ n ih =>
          intro v3_10 v4_11 h
          rw [lp_X10_isFiner_24] at h
          refine ga_iload hR (pc := 24) 4 rfl dX10_isFiner_24 ?_
          refine ga_bipush hR (pc := 26) (v := nI 6) (by decide) dX10_isFiner_26 ?_
          refine ga_icmp_ge hR (pc := 28) 115 (by decide) dX10_isFiner_28 (fun c28 => ?_) (fun c28 => ?_)
          · replace h := h.1 c28
            exact ga_lv hR [3] rfl h
          · replace h := h.2 c28
            refine ga_iload_n hR (pc := 31) 3 rfl rfl dX10_isFiner_31 ?_
            refine ga_if_eq hR (pc := 32) 115 (by decide) dX10_isFiner_32 (fun c32 => ?_) (fun c32 => ?_)
            · replace h := h.1 c32
              exact ga_lv hR [3] rfl h
            · replace h := h.2 c32
              refine ga_aload_n hR (pc := 35) 0 rfl rfl dX10_isFiner_35 ?_
              refine ga_get hR (pc := 36) 0 rfl rfl hinX10 32 (by decide) f69 rfl dX10_isFiner_36 ?_
              refine ga_bipush hR (pc := 39) (v := nI 6) (by decide) dX10_isFiner_39 ?_
              refine ga_iload_n hR (pc := 41) 1 rfl rfl dX10_isFiner_41 ?_
              refine ga_imul hR (pc := 42) dX10_isFiner_42 ?_
              refine ga_iload hR (pc := 43) 4 rfl dX10_isFiner_43 ?_
              refine ga_iadd hR (pc := 45) dX10_isFiner_45 ?_
              refine ga_iald hR (pc := 46) 2 rfl h.1 dX10_isFiner_46 ?_
              replace h := h.2
              refine ga_topi (fun v5_12 ev5_12 => ?_)
              replace h := h v5_12 ev5_12
              refine ga_istore hR (pc := 47) (lv' := [(5, .int v5_12), (0, .ref (a 0)), (1, .int p1), (2, .int p2), (3, .int v3_10), (4, .int v4_11)]) (by decide) rfl dX10_isFiner_47 ?_
              refine ga_aload_n hR (pc := 49) 1 rfl rfl dX10_isFiner_49 ?_
              refine ga_get hR (pc := 50) 0 rfl rfl hinX10 32 (by decide) f69 rfl dX10_isFiner_50 ?_
              refine ga_bipush hR (pc := 53) (v := nI 6) (by decide) dX10_isFiner_53 ?_
              refine ga_iload_n hR (pc := 55) 3 rfl rfl dX10_isFiner_55 ?_
              refine ga_imul hR (pc := 56) dX10_isFiner_56 ?_
              refine ga_iload hR (pc := 57) 5 rfl dX10_isFiner_57 ?_
              refine ga_iadd hR (pc := 59) dX10_isFiner_59 ?_
              refine ga_iald hR (pc := 60) 2 rfl h.1 dX10_isFiner_60 ?_
              replace h := h.2
              refine ga_topi (fun v6_13 ev6_13 => ?_)
              replace h := h v6_13 ev6_13
              refine ga_istore hR (pc := 61) (lv' := [(6, .int v6_13), (5, .int v5_12), (0, .ref (a 0)), (1, .int p1), (2, .int p2), (3, .int v3_10), (4, .int v4_11)]) (by decide) rfl dX10_isFiner_61 ?_
              refine ga_iload hR (pc := 63) 1 rfl dX10_isFiner_63 ?_
              refine ga_sipush hR (pc := 65) (v := nI 1024) (by decide) dX10_isFiner_65 ?_
              refine ga_idiv hR (pc := 68) (by decide) dX10_isFiner_68 ?_
              refine ga_iload hR (pc := 69) 0 rfl dX10_isFiner_69 ?_
              refine ga_sipush hR (pc := 71) (v := nI 1024) (by decide) dX10_isFiner_71 ?_
              refine ga_idiv hR (pc := 74) (by decide) dX10_isFiner_74 ?_
              refine ga_icmp_ne hR (pc := 75) 107 (by decide) dX10_isFiner_75 (fun c75 => ?_) (fun c75 => ?_)
              · replace h := h.1 c75
                refine ga_iconst hR (pc := 107) (v := nI 0) (by decide) dX10_isFiner_107 ?_
                refine ga_istore_n hR (pc := 108) (lv' := [(3, .int (nI 0)), (6, .int v6_13), (5, .int v5_12), (0, .ref (a 0)), (1, .int p1), (2, .int p2), (4, .int v4_11)]) rfl (by decide) rfl dX10_isFiner_108 ?_
                obtain ⟨v4_14, ev4_14⟩ : ∃ v : Int32, v = v4_11 + (nI 1) := ⟨_, rfl⟩
                replace h := h v4_14 ev4_14
                refine ga_iinc hR (pc := 109) (lv' := [(4, .int v4_14), (3, .int (nI 0)), (6, .int v6_13), (5, .int v5_12), (0, .ref (a 0)), (1, .int p1), (2, .int p2)]) 6 (by decide) rfl ev4_14 (by decide) rfl dX10_isFiner_109 ?_
                refine ga_goto hR (pc := 112) 24 (by decide) dX10_isFiner_112 ?_
                exact ga_lv hR [4, 5, 6, 1, 0] rfl (ih _ _ h)
              · replace h := h.2 c75
                refine ga_aload_n hR (pc := 78) 2 rfl rfl dX10_isFiner_78 ?_
                refine ga_get hR (pc := 79) 0 rfl rfl hinX10 30 (by decide) f63 rfl dX10_isFiner_79 ?_
                refine ga_iload hR (pc := 82) 1 rfl dX10_isFiner_82 ?_
                refine ga_sipush hR (pc := 84) (v := nI 1024) (by decide) dX10_isFiner_84 ?_
                refine ga_irem hR (pc := 87) (by decide) dX10_isFiner_87 ?_
                refine ga_iald hR (pc := 88) 1 rfl h.1 dX10_isFiner_88 ?_
                replace h := h.2
                refine ga_aload_n hR (pc := 89) 2 rfl rfl dX10_isFiner_89 ?_
                refine ga_get hR (pc := 90) 0 rfl rfl hinX10 30 (by decide) f63 rfl dX10_isFiner_90 ?_
                refine ga_iload hR (pc := 93) 0 rfl dX10_isFiner_93 ?_
                refine ga_sipush hR (pc := 95) (v := nI 1024) (by decide) dX10_isFiner_95 ?_
                refine ga_irem hR (pc := 98) (by decide) dX10_isFiner_98 ?_
                refine ga_iald hR (pc := 99) 1 rfl h.1 dX10_isFiner_99 ?_
                replace h := h.2
                refine ga_icmp_ne hR (pc := 100) 107 (by decide) dX10_isFiner_100 (fun c100 => ?_) (fun c100 => ?_)
                · replace h := h.1 c100
                  refine ga_iconst hR (pc := 107) (v := nI 0) (by decide) dX10_isFiner_107 ?_
                  refine ga_istore_n hR (pc := 108) (lv' := [(3, .int (nI 0)), (6, .int v6_13), (5, .int v5_12), (0, .ref (a 0)), (1, .int p1), (2, .int p2), (4, .int v4_11)]) rfl (by decide) rfl dX10_isFiner_108 ?_
                  obtain ⟨v4_15, ev4_15⟩ : ∃ v : Int32, v = v4_11 + (nI 1) := ⟨_, rfl⟩
                  replace h := h v4_15 ev4_15
                  refine ga_iinc hR (pc := 109) (lv' := [(4, .int v4_15), (3, .int (nI 0)), (6, .int v6_13), (5, .int v5_12), (0, .ref (a 0)), (1, .int p1), (2, .int p2)]) 6 (by decide) rfl ev4_15 (by decide) rfl dX10_isFiner_109 ?_
                  refine ga_goto hR (pc := 112) 24 (by decide) dX10_isFiner_112 ?_
                  exact ga_lv hR [4, 5, 6, 1, 0] rfl (ih _ _ h)
                · replace h := h.2 c100
                  refine ga_iconst hR (pc := 103) (v := nI 1) (by decide) dX10_isFiner_103 ?_
                  refine ga_goto hR (pc := 104) 108 (by decide) dX10_isFiner_104 ?_
                  refine ga_istore_n hR (pc := 108) (lv' := [(3, .int (nI 1)), (6, .int v6_13), (5, .int v5_12), (0, .ref (a 0)), (1, .int p1), (2, .int p2), (4, .int v4_11)]) rfl (by decide) rfl dX10_isFiner_108 ?_
                  obtain ⟨v4_16, ev4_16⟩ : ∃ v : Int32, v = v4_11 + (nI 1) := ⟨_, rfl⟩
                  replace h := h v4_16 ev4_16
                  refine ga_iinc hR (pc := 109) (lv' := [(4, .int v4_16), (3, .int (nI 1)), (6, .int v6_13), (5, .int v5_12), (0, .ref (a 0)), (1, .int p1), (2, .int p2)]) 6 (by decide) rfl ev4_16 (by decide) rfl dX10_isFiner_109 ?_
                  refine ga_goto hR (pc := 112) 24 (by decide) dX10_isFiner_112 ?_
                  exact ga_lv hR [4, 5, 6, 1, 0] rfl (ih _ _ h)
      exact ga_lv hR [2, 3, 4, 1, 0] rfl (L24 n _ _ h)
  · intro h
    refine ga_icmp_ne hR (pc := 12) 19 (by decide) dX10_isFiner_12 (fun c12 => ?_) (fun c12 => ?_)
    · replace h := h.1 c12
      refine ga_iconst hR (pc := 19) (v := nI 0) (by decide) dX10_isFiner_19 ?_
      exact ga_lv hR [0, 1, 2] rfl h
    · replace h := h.2 c12
      refine ga_iconst hR (pc := 15) (v := nI 1) (by decide) dX10_isFiner_15 ?_
      refine ga_goto hR (pc := 16) 20 (by decide) dX10_isFiner_16 ?_
      exact ga_lv hR [0, 1, 2] rfl h

def rm_X10_unlikeWays : Room := { frames := 1, cells := 0, slots := 0, locals := 26 }
theorem hd_X10_unlikeWaysS : yX10_unlikeWays.cls ≠ "java/lang/invoke/MethodHandle" ∧ yX10_unlikeWays.cls ≠ "java/lang/invoke/VarHandle" ∧ (parseMethodDescriptor yX10_unlikeWays.desc).map (fun d => d.parameters.length) = some 0 := by decide +kernel
theorem hd_X10_unlikeWays : yX10_unlikeWays.cls = RX10 ∧ yX10_unlikeWays.cls ≠ "java/lang/invoke/MethodHandle" ∧ yX10_unlikeWays.cls ≠ "java/lang/invoke/VarHandle" ∧ (parseMethodDescriptor yX10_unlikeWays.desc).map (fun d => d.parameters.length) = some 0 := ⟨rfl, hd_X10_unlikeWaysS⟩
set_option maxHeartbeats 4000000 in
set_option maxRecDepth 100000 in
theorem c_X10_unlikeWays (V : ga_V) (a : Nat → Nat) (x_rules : Int32) (x_places : Int32) (x_newRules : Int32) (x_newPlaces : Int32) (x_acts : Int32) (x_kept : Int32) (x_length : Int32) (x_next : Int32) (x_place : Int32) (x_isWrong : Int32) (x_parts : Int32) (x_without : Int32) (x_ways : Int32) (x_alike : Nat → Int32) (x_finer : Nat → Int32) (x_on : Nat → Int32) (K : Int32 → (Nat → Int32) → (Nat → Int32) → Prop) (h : wp_X10_unlikeWays x_ways x_alike x_finer x_on K) : ga_C V yX10_unlikeWays wsX10_unlikeWays rm_X10_unlikeWays [.ref (a 0)] [(a 0, .inr (10, [.int x_rules, .int x_places, .ref (a 1), .ref (a 2), .ref (a 3), .int x_newRules, .int x_newPlaces, .ref (a 4), .ref (a 5), .ref (a 6), .ref (a 7), .ref (a 8), .int x_acts, .int x_kept, .int x_length, .ref (a 9), .int x_next, .int x_place, .int x_isWrong, .ref (a 10), .ref (a 11), .ref (a 12), .int x_parts, .int x_without, .ref (a 13), .ref (a 14), .ref (a 15), .ref (a 16), .int x_ways, .ref (a 17), .ref (a 18), .ref (a 19), .ref (a 20)])), (a 18, .inl (V.2 0, 1024, .inl x_alike)), (a 19, .inl (V.2 0, 1024, .inl x_finer)), (a 20, .inl (V.2 0, 6144, .inl x_on))] 0 0 (ga_Fi (fun (u : (Nat → Int32) × (Nat → Int32)) => [(a 0, .inr (10, [.int x_rules, .int x_places, .ref (a 1), .ref (a 2), .ref (a 3), .int x_newRules, .int x_newPlaces, .ref (a 4), .ref (a 5), .ref (a 6), .ref (a 7), .ref (a 8), .int x_acts, .int x_kept, .int x_length, .ref (a 9), .int x_next, .int x_place, .int x_isWrong, .ref (a 10), .ref (a 11), .ref (a 12), .int x_parts, .int x_without, .ref (a 13), .ref (a 14), .ref (a 15), .ref (a 16), .int x_ways, .ref (a 17), .ref (a 18), .ref (a 19), .ref (a 20)])), (a 18, .inl (V.2 0, 1024, .inl u.1)), (a 19, .inl (V.2 0, 1024, .inl u.2)), (a 20, .inl (V.2 0, 6144, .inl x_on))]) (fun r u => K r u.1 u.2)) := by
  refine ga_met (cc := cX10_unlikeWays) (maxL := 5) (rt := (some .int)) (by decide) rfl [(0, .ref (a 0))] rfl (Nat.le_of_ble_eq_true rfl) ?_
  intro G hR hE
  have hinX10 : ∀ w ∈ u_ws RX10 TX10 33, w ∈ wsX10_unlikeWays := by decide +kernel
  have f251 : Cond.fieldLink RX10 251 "BoundaryRulesModel" "ways" "I" ∈ wsX10_unlikeWays := by decide +kernel
  have f63 : Cond.fieldLink RX10 63 "BoundaryRulesModel" "alike" "[I" ∈ wsX10_unlikeWays := by decide +kernel
  have f66 : Cond.fieldLink RX10 66 "BoundaryRulesModel" "finer" "[I" ∈ wsX10_unlikeWays := by decide +kernel
  unfold wp_X10_unlikeWays at h
  refine ga_iconst hR (pc := 0) (v := nI 1) (by decide) dX10_unlikeWays_0 ?_
  refine ga_istore_n hR (pc := 1) (lv' := [(1, .int (nI 1)), (0, .ref (a 0))]) rfl (by decide) rfl dX10_unlikeWays_1 ?_
  refine ga_iconst hR (pc := 2) (v := nI 0) (by decide) dX10_unlikeWays_2 ?_
  refine ga_istore_n hR (pc := 3) (lv' := [(2, .int (nI 0)), (1, .int (nI 1)), (0, .ref (a 0))]) rfl (by decide) rfl dX10_unlikeWays_3 ?_
  refine ga_iconst hR (pc := 4) (v := nI 0) (by decide) dX10_unlikeWays_4 ?_
  refine ga_istore_n hR (pc := 5) (lv' := [(3, .int (nI 0)), (2, .int (nI 0)), (1, .int (nI 1)), (0, .ref (a 0))]) rfl (by decide) rfl dX10_unlikeWays_5 ?_
  have hJ := h (fun (x_alike_1 : Nat → Int32) => G 0 0 [(a 0, .inr (10, [.int x_rules, .int x_places, .ref (a 1), .ref (a 2), .ref (a 3), .int x_newRules, .int x_newPlaces, .ref (a 4), .ref (a 5), .ref (a 6), .ref (a 7), .ref (a 8), .int x_acts, .int x_kept, .int x_length, .ref (a 9), .int x_next, .int x_place, .int x_isWrong, .ref (a 10), .ref (a 11), .ref (a 12), .int x_parts, .int x_without, .ref (a 13), .ref (a 14), .ref (a 15), .ref (a 16), .int x_ways, .ref (a 17), .ref (a 18), .ref (a 19), .ref (a 20)])), (a 18, .inl (V.2 0, 1024, .inl x_alike_1)), (a 19, .inl (V.2 0, 1024, .inl x_finer)), (a 20, .inl (V.2 0, 6144, .inl x_on))] 27 [(0, .ref (a 0)), (1, .int (nI 1)), (2, .int (nI 0))] [])
  refine ga_bind hJ ?_ ?_
  · intro x_alike_1 h
    show G 0 0 [(a 0, .inr (10, [.int x_rules, .int x_places, .ref (a 1), .ref (a 2), .ref (a 3), .int x_newRules, .int x_newPlaces, .ref (a 4), .ref (a 5), .ref (a 6), .ref (a 7), .ref (a 8), .int x_acts, .int x_kept, .int x_length, .ref (a 9), .int x_next, .int x_place, .int x_isWrong, .ref (a 10), .ref (a 11), .ref (a 12), .int x_parts, .int x_without, .ref (a 13), .ref (a 14), .ref (a 15), .ref (a 16), .int x_ways, .ref (a 17), .ref (a 18), .ref (a 19), .ref (a 20)])), (a 18, .inl (V.2 0, 1024, .inl x_alike_1)), (a 19, .inl (V.2 0, 1024, .inl x_finer)), (a 20, .inl (V.2 0, 6144, .inl x_on))] 27 [(0, .ref (a 0)), (1, .int (nI 1)), (2, .int (nI 0))] []
    have hJ := h (fun (v1_3 : Int32) (x_alike_4 : Nat → Int32) (x_finer_5 : Nat → Int32) => G 0 0 [(a 0, .inr (10, [.int x_rules, .int x_places, .ref (a 1), .ref (a 2), .ref (a 3), .int x_newRules, .int x_newPlaces, .ref (a 4), .ref (a 5), .ref (a 6), .ref (a 7), .ref (a 8), .int x_acts, .int x_kept, .int x_length, .ref (a 9), .int x_next, .int x_place, .int x_isWrong, .ref (a 10), .ref (a 11), .ref (a 12), .int x_parts, .int x_without, .ref (a 13), .ref (a 14), .ref (a 15), .ref (a 16), .int x_ways, .ref (a 17), .ref (a 18), .ref (a 19), .ref (a 20)])), (a 18, .inl (V.2 0, 1024, .inl x_alike_4)), (a 19, .inl (V.2 0, 1024, .inl x_finer_5)), (a 20, .inl (V.2 0, 6144, .inl x_on))] 145 [(1, .int v1_3)] [])
    refine ga_bind hJ ?_ ?_
    · intro v1_3 x_alike_4 x_finer_5 h
      show G 0 0 [(a 0, .inr (10, [.int x_rules, .int x_places, .ref (a 1), .ref (a 2), .ref (a 3), .int x_newRules, .int x_newPlaces, .ref (a 4), .ref (a 5), .ref (a 6), .ref (a 7), .ref (a 8), .int x_acts, .int x_kept, .int x_length, .ref (a 9), .int x_next, .int x_place, .int x_isWrong, .ref (a 10), .ref (a 11), .ref (a 12), .int x_parts, .int x_without, .ref (a 13), .ref (a 14), .ref (a 15), .ref (a 16), .int x_ways, .ref (a 17), .ref (a 18), .ref (a 19), .ref (a 20)])), (a 18, .inl (V.2 0, 1024, .inl x_alike_4)), (a 19, .inl (V.2 0, 1024, .inl x_finer_5)), (a 20, .inl (V.2 0, 6144, .inl x_on))] 145 [(1, .int v1_3)] []
      refine ga_iload_n hR (pc := 145) 0 rfl rfl dX10_unlikeWays_145 ?_
      exact ga_iret hE dX10_unlikeWays_146 rfl (ga_ri (x_alike_4, x_finer_5) rfl h)
    · intro h
      obtain ⟨n, h⟩ := h
      have L27 : ∀ (n : Nat) (v1_49 : Int32) (v2_50 : Int32) (x_alike_51 : Nat → Int32) (x_finer_52 : Nat → Int32), lp_X10_unlikeWays_27 x_ways x_on (fun (v1_3 : Int32) (x_alike_4 : Nat → Int32) (x_finer_5 : Nat → Int32) => G 0 0 [(a 0, .inr (10, [.int x_rules, .int x_places, .ref (a 1), .ref (a 2), .ref (a 3), .int x_newRules, .int x_newPlaces, .ref (a 4), .ref (a 5), .ref (a 6), .ref (a 7), .ref (a 8), .int x_acts, .int x_kept, .int x_length, .ref (a 9), .int x_next, .int x_place, .int x_isWrong, .ref (a 10), .ref (a 11), .ref (a 12), .int x_parts, .int x_without, .ref (a 13), .ref (a 14), .ref (a 15), .ref (a 16), .int x_ways, .ref (a 17), .ref (a 18), .ref (a 19), .ref (a 20)])), (a 18, .inl (V.2 0, 1024, .inl x_alike_4)), (a 19, .inl (V.2 0, 1024, .inl x_finer_5)), (a 20, .inl (V.2 0, 6144, .inl x_on))] 145 [(1, .int v1_3)] []) n v1_49 v2_50 x_alike_51 x_finer_52 → G 0 0 [(a 0, .inr (10, [.int x_rules, .int x_places, .ref (a 1), .ref (a 2), .ref (a 3), .int x_newRules, .int x_newPlaces, .ref (a 4), .ref (a 5), .ref (a 6), .ref (a 7), .ref (a 8), .int x_acts, .int x_kept, .int x_length, .ref (a 9), .int x_next, .int x_place, .int x_isWrong, .ref (a 10), .ref (a 11), .ref (a 12), .int x_parts, .int x_without, .ref (a 13), .ref (a 14), .ref (a 15), .ref (a 16), .int x_ways, .ref (a 17), .ref (a 18), .ref (a 19), .ref (a 20)])), (a 18, .inl (V.2 0, 1024, .inl x_alike_51)), (a 19, .inl (V.2 0, 1024, .inl x_finer_52)), (a 20, .inl (V.2 0, 6144, .inl x_on))] 27 [(0, .ref (a 0)), (1, .int v1_49), (2, .int v2_50)] [] := by
        intro n
        induction n with
        | zero => exact fun _ _ _ _ h => False.elim h
        | succ n ih =>
          intro v1_49 v2_50 x_alike_51 x_finer_52 h
          rw [lp_X10_unlikeWays_27] at h
          refine ga_iload_n hR (pc := 27) 1 rfl rfl dX10_unlikeWays_27 ?_
          refine ga_iload_n hR (pc := 28) 2 rfl rfl dX10_unlikeWays_28 ?_
          refine ga_icmp_eq hR (pc := 29) 145 (by decide) dX10_unlikeWays_29 (fun c29 => ?_) (fun c29 => ?_)
          · replace h := h.1 c29
            exact ga_lv hR [1] rfl h
          · replace h := h.2 c29
            refine ga_iload_n hR (pc := 32) 1 rfl rfl dX10_unlikeWays_32 ?_
            refine ga_istore_n hR (pc := 33) (lv' := [(2, .int v1_49), (0, .ref (a 0)), (1, .int v1_49)]) rfl (by decide) rfl dX10_unlikeWays_33 ?_
            refine ga_iconst hR (pc := 34) (v := nI 0) (by decide) dX10_unlikeWays_34 ?_
            refine ga_istore_n hR (pc := 35) (lv' := [(1, .int (nI 0)), (2, .int v1_49), (0, .ref (a 0))]) rfl (by decide) rfl dX10_unlikeWays_35 ?_
            refine ga_iconst hR (pc := 36) (v := nI 0) (by decide) dX10_unlikeWays_36 ?_
            refine ga_istore_n hR (pc := 37) (lv' := [(3, .int (nI 0)), (1, .int (nI 0)), (2, .int v1_49), (0, .ref (a 0))]) rfl (by decide) rfl dX10_unlikeWays_37 ?_
            have hJ := h (fun (v1_53 : Int32) (x_finer_54 : Nat → Int32) => G 0 0 [(a 0, .inr (10, [.int x_rules, .int x_places, .ref (a 1), .ref (a 2), .ref (a 3), .int x_newRules, .int x_newPlaces, .ref (a 4), .ref (a 5), .ref (a 6), .ref (a 7), .ref (a 8), .int x_acts, .int x_kept, .int x_length, .ref (a 9), .int x_next, .int x_place, .int x_isWrong, .ref (a 10), .ref (a 11), .ref (a 12), .int x_parts, .int x_without, .ref (a 13), .ref (a 14), .ref (a 15), .ref (a 16), .int x_ways, .ref (a 17), .ref (a 18), .ref (a 19), .ref (a 20)])), (a 18, .inl (V.2 0, 1024, .inl x_alike_51)), (a 19, .inl (V.2 0, 1024, .inl x_finer_54)), (a 20, .inl (V.2 0, 6144, .inl x_on))] 114 [(0, .ref (a 0)), (1, .int v1_53), (2, .int v1_49)] [])
            refine ga_bind hJ ?_ ?_
            · intro v1_53 x_finer_54 h
              show G 0 0 [(a 0, .inr (10, [.int x_rules, .int x_places, .ref (a 1), .ref (a 2), .ref (a 3), .int x_newRules, .int x_newPlaces, .ref (a 4), .ref (a 5), .ref (a 6), .ref (a 7), .ref (a 8), .int x_acts, .int x_kept, .int x_length, .ref (a 9), .int x_next, .int x_place, .int x_isWrong, .ref (a 10), .ref (a 11), .ref (a 12), .int x_parts, .int x_without, .ref (a 13), .ref (a 14), .ref (a 15), .ref (a 16), .int x_ways, .ref (a 17), .ref (a 18), .ref (a 19), .ref (a 20)])), (a 18, .inl (V.2 0, 1024, .inl x_alike_51)), (a 19, .inl (V.2 0, 1024, .inl x_finer_54)), (a 20, .inl (V.2 0, 6144, .inl x_on))] 114 [(0, .ref (a 0)), (1, .int v1_53), (2, .int v1_49)] []
              refine ga_iconst hR (pc := 114) (v := nI 0) (by decide) dX10_unlikeWays_114 ?_
              refine ga_istore_n hR (pc := 115) (lv' := [(3, .int (nI 0)), (0, .ref (a 0)), (1, .int v1_53), (2, .int v1_49)]) rfl (by decide) rfl dX10_unlikeWays_115 ?_
              have hJ := h (fun (x_alike_56 : Nat → Int32) => G 0 0 [(a 0, .inr (10, [.int x_rules, .int x_places, .ref (a 1), .ref (a 2), .ref (a 3), .int x_newRules, .int x_newPlaces, .ref (a 4), .ref (a 5), .ref (a 6), .ref (a 7), .ref (a 8), .int x_acts, .int x_kept, .int x_length, .ref (a 9), .int x_next, .int x_place, .int x_isWrong, .ref (a 10), .ref (a 11), .ref (a 12), .int x_parts, .int x_without, .ref (a 13), .ref (a 14), .ref (a 15), .ref (a 16), .int x_ways, .ref (a 17), .ref (a 18), .ref (a 19), .ref (a 20)])), (a 18, .inl (V.2 0, 1024, .inl x_alike_56)), (a 19, .inl (V.2 0, 1024, .inl x_finer_54)), (a 20, .inl (V.2 0, 6144, .inl x_on))] 142 [(0, .ref (a 0)), (1, .int v1_53), (2, .int v1_49)] [])
              refine ga_bind hJ ?_ ?_
              · intro x_alike_56 h
                show G 0 0 [(a 0, .inr (10, [.int x_rules, .int x_places, .ref (a 1), .ref (a 2), .ref (a 3), .int x_newRules, .int x_newPlaces, .ref (a 4), .ref (a 5), .ref (a 6), .ref (a 7), .ref (a 8), .int x_acts, .int x_kept, .int x_length, .ref (a 9), .int x_next, .int x_place, .int x_isWrong, .ref (a 10), .ref (a 11), .ref (a 12), .int x_parts, .int x_without, .ref (a 13), .ref (a 14), .ref (a 15), .ref (a 16), .int x_ways, .ref (a 17), .ref (a 18), .ref (a 19), .ref (a 20)])), (a 18, .inl (V.2 0, 1024, .inl x_alike_56)), (a 19, .inl (V.2 0, 1024, .inl x_finer_54)), (a 20, .inl (V.2 0, 6144, .inl x_on))] 142 [(0, .ref (a 0)), (1, .int v1_53), (2, .int v1_49)] []
                refine ga_goto hR (pc := 142) 27 (by decide) dX10_unlikeWays_142 ?_
                exact ga_lv hR [0, 1, 2] rfl (ih _ _ _ _ h)
              · intro h
                obtain ⟨n, h⟩ := h
                have L116 : ∀ (n : Nat) (v3_58 : Int32) (x_alike_59 : Nat → Int32), lp_X10_unlikeWays_116 x_ways x_finer_54 (fun (x_alike_56 : Nat → Int32) => G 0 0 [(a 0, .inr (10, [.int x_rules, .int x_places, .ref (a 1), .ref (a 2), .ref (a 3), .int x_newRules, .int x_newPlaces, .ref (a 4), .ref (a 5), .ref (a 6), .ref (a 7), .ref (a 8), .int x_acts, .int x_kept, .int x_length, .ref (a 9), .int x_next, .int x_place, .int x_isWrong, .ref (a 10), .ref (a 11), .ref (a 12), .int x_parts, .int x_without, .ref (a 13), .ref (a 14), .ref (a 15), .ref (a 16), .int x_ways, .ref (a 17), .ref (a 18), .ref (a 19), .ref (a 20)])), (a 18, .inl (V.2 0, 1024, .inl x_alike_56)), (a 19, .inl (V.2 0, 1024, .inl x_finer_54)), (a 20, .inl (V.2 0, 6144, .inl x_on))] 142 [(0, .ref (a 0)), (1, .int v1_53), (2, .int v1_49)] []) n v3_58 x_alike_59 → G 0 0 [(a 0, .inr (10, [.int x_rules, .int x_places, .ref (a 1), .ref (a 2), .ref (a 3), .int x_newRules, .int x_newPlaces, .ref (a 4), .ref (a 5), .ref (a 6), .ref (a 7), .ref (a 8), .int x_acts, .int x_kept, .int x_length, .ref (a 9), .int x_next, .int x_place, .int x_isWrong, .ref (a 10), .ref (a 11), .ref (a 12), .int x_parts, .int x_without, .ref (a 13), .ref (a 14), .ref (a 15), .ref (a 16), .int x_ways, .ref (a 17), .ref (a 18), .ref (a 19), .ref (a 20)])), (a 18, .inl (V.2 0, 1024, .inl x_alike_59)), (a 19, .inl (V.2 0, 1024, .inl x_finer_54)), (a 20, .inl (V.2 0, 6144, .inl x_on))] 116 [(0, .ref (a 0)), (1, .int v1_53), (2, .int v1_49), (3, .int v3_58)] [] := by
                  intro n
                  induction n with
                  | zero => exact fun _ _ h => False.elim h
                  | succ n ih =>
                    intro v3_58 x_alike_59 h
                    rw [lp_X10_unlikeWays_116] at h
                    refine ga_iload_n hR (pc := 116) 3 rfl rfl dX10_unlikeWays_116 ?_
                    refine ga_aload_n hR (pc := 117) 0 rfl rfl dX10_unlikeWays_117 ?_
                    refine ga_get hR (pc := 118) 0 rfl rfl hinX10 28 (by decide) f251 rfl dX10_unlikeWays_118 ?_
                    refine ga_icmp_ge hR (pc := 121) 142 (by decide) dX10_unlikeWays_121 (fun c121 => ?_) (fun c121 => ?_)
                    · replace h := h.1 c121
                      exact ga_lv hR [0, 1, 2] rfl h
                    · replace h := h.2 c121
                      refine ga_aload_n hR (pc := 124) 0 rfl rfl dX10_unlikeWays_124 ?_
                      refine ga_get hR (pc := 125) 0 rfl rfl hinX10 30 (by decide) f63 rfl dX10_unlikeWays_125 ?_
                      refine ga_iload_n hR (pc := 128) 3 rfl rfl dX10_unlikeWays_128 ?_
                      refine ga_aload_n hR (pc := 129) 0 rfl rfl dX10_unlikeWays_129 ?_
                      refine ga_get hR (pc := 130) 0 rfl rfl hinX10 31 (by decide) f66 rfl dX10_unlikeWays_130 ?_
                      refine ga_iload_n hR (pc := 133) 3 rfl rfl dX10_unlikeWays_133 ?_
                      refine ga_iald hR (pc := 134) 2 rfl h.1 dX10_unlikeWays_134 ?_
                      replace h := h.2
                      refine ga_topi (fun t_60 et_60 => ?_)
                      replace h := h t_60 et_60
                      refine ga_iast hR (pc := 135) (ws' := [(a 0, .inr (10, [.int x_rules, .int x_places, .ref (a 1), .ref (a 2), .ref (a 3), .int x_newRules, .int x_newPlaces, .ref (a 4), .ref (a 5), .ref (a 6), .ref (a 7), .ref (a 8), .int x_acts, .int x_kept, .int x_length, .ref (a 9), .int x_next, .int x_place, .int x_isWrong, .ref (a 10), .ref (a 11), .ref (a 12), .int x_parts, .int x_without, .ref (a 13), .ref (a 14), .ref (a 15), .ref (a 16), .int x_ways, .ref (a 17), .ref (a 18), .ref (a 19), .ref (a 20)])), (a 18, .inl (V.2 0, 1024, .inl ((upd x_alike_59 v3_58.toNatClampNeg t_60)))), (a 19, .inl (V.2 0, 1024, .inl x_finer_54)), (a 20, .inl (V.2 0, 6144, .inl x_on))]) 1 rfl h.1 rfl dX10_unlikeWays_135 ?_
                      replace h := h.2
                      obtain ⟨x_alike_61, ex_alike_61⟩ : ∃ f : Nat → Int32, f = upd x_alike_59 v3_58.toNatClampNeg t_60 := ⟨_, rfl⟩
                      refine ga_cast (ws' := [(a 0, .inr (10, [.int x_rules, .int x_places, .ref (a 1), .ref (a 2), .ref (a 3), .int x_newRules, .int x_newPlaces, .ref (a 4), .ref (a 5), .ref (a 6), .ref (a 7), .ref (a 8), .int x_acts, .int x_kept, .int x_length, .ref (a 9), .int x_next, .int x_place, .int x_isWrong, .ref (a 10), .ref (a 11), .ref (a 12), .int x_parts, .int x_without, .ref (a 13), .ref (a 14), .ref (a 15), .ref (a 16), .int x_ways, .ref (a 17), .ref (a 18), .ref (a 19), .ref (a 20)])), (a 18, .inl (V.2 0, 1024, .inl x_alike_61)), (a 19, .inl (V.2 0, 1024, .inl x_finer_54)), (a 20, .inl (V.2 0, 6144, .inl x_on))]) (by rw [ex_alike_61]) rfl ?_
                      replace h := h x_alike_61 ex_alike_61
                      obtain ⟨v3_62, ev3_62⟩ : ∃ v : Int32, v = v3_58 + (nI 1) := ⟨_, rfl⟩
                      replace h := h v3_62 ev3_62
                      refine ga_iinc hR (pc := 136) (lv' := [(3, .int v3_62), (0, .ref (a 0)), (1, .int v1_53), (2, .int v1_49)]) 3 (by decide) rfl ev3_62 (by decide) rfl dX10_unlikeWays_136 ?_
                      refine ga_goto hR (pc := 139) 116 (by decide) dX10_unlikeWays_139 ?_
                      exact ga_lv hR [1, 2, 3, 0] rfl (ih _ _ h)
                exact ga_lv hR [1, 2, 3, 0] rfl (L116 n _ _ h)
            · intro h
              obtain ⟨n, h⟩ := h
              have L38 : ∀ (n : Nat) (v1_63 : Int32) (v3_64 : Int32) (x_finer_65 : Nat → Int32), lp_X10_unlikeWays_38 x_ways x_alike_51 x_on (fun (v1_53 : Int32) (x_finer_54 : Nat → Int32) => G 0 0 [(a 0, .inr (10, [.int x_rules, .int x_places, .ref (a 1), .ref (a 2), .ref (a 3), .int x_newRules, .int x_newPlaces, .ref (a 4), .ref (a 5), .ref (a 6), .ref (a 7), .ref (a 8), .int x_acts, .int x_kept, .int x_length, .ref (a 9), .int x_next, .int x_place, .int x_isWrong, .ref (a 10), .ref (a 11), .ref (a 12), .int x_parts, .int x_without, .ref (a 13), .ref (a 14), .ref (a 15), .ref (a 16), .int x_ways, .ref (a 17), .ref (a 18), .ref (a 19), .ref (a 20)])), (a 18, .inl (V.2 0, 1024, .inl x_alike_51)), (a 19, .inl (V.2 0, 1024, .inl x_finer_54)), (a 20, .inl (V.2 0, 6144, .inl x_on))] 114 [(0, .ref (a 0)), (1, .int v1_53), (2, .int v1_49)] []) n v1_63 v3_64 x_finer_65 → G 0 0 [(a 0, .inr (10, [.int x_rules, .int x_places, .ref (a 1), .ref (a 2), .ref (a 3), .int x_newRules, .int x_newPlaces, .ref (a 4), .ref (a 5), .ref (a 6), .ref (a 7), .ref (a 8), .int x_acts, .int x_kept, .int x_length, .ref (a 9), .int x_next, .int x_place, .int x_isWrong, .ref (a 10), .ref (a 11), .ref (a 12), .int x_parts, .int x_without, .ref (a 13), .ref (a 14), .ref (a 15), .ref (a 16), .int x_ways, .ref (a 17), .ref (a 18), .ref (a 19), .ref (a 20)])), (a 18, .inl (V.2 0, 1024, .inl x_alike_51)), (a 19, .inl (V.2 0, 1024, .inl x_finer_65)), (a 20, .inl (V.2 0, 6144, .inl x_on))] 38 [(0, .ref (a 0)), (1, .int v1_63), (2, .int v1_49), (3, .int v3_64)] [] := by
                intro n
                induction n with
                | zero => exact fun _ _ _ h => False.elim h
                | succ n ih =>
                  intro v1_63 v3_64 x_finer_65 h
                  rw [lp_X10_unlikeWays_38] at h
                  refine ga_iload_n hR (pc := 38) 3 rfl rfl dX10_unlikeWays_38 ?_
                  refine ga_aload_n hR (pc := 39) 0 rfl rfl dX10_unlikeWays_39 ?_
                  refine ga_get hR (pc := 40) 0 rfl rfl hinX10 28 (by decide) f251 rfl dX10_unlikeWays_40 ?_
                  refine ga_icmp_ge hR (pc := 43) 114 (by decide) dX10_unlikeWays_43 (fun c43 => ?_) (fun c43 => ?_)
                  · replace h := h.1 c43
                    exact ga_lv hR [0, 1, 2] rfl h
                  · replace h := h.2 c43
                    refine ga_iconst hR (pc := 46) (v := nI 0) (by decide) dX10_unlikeWays_46 ?_
                    refine ga_istore hR (pc := 47) (lv' := [(4, .int (nI 0)), (0, .ref (a 0)), (1, .int v1_63), (2, .int v1_49), (3, .int v3_64)]) (by decide) rfl dX10_unlikeWays_47 ?_
                    have hJ := h (fun (v4_66 : Int32) => G 0 0 [(a 0, .inr (10, [.int x_rules, .int x_places, .ref (a 1), .ref (a 2), .ref (a 3), .int x_newRules, .int x_newPlaces, .ref (a 4), .ref (a 5), .ref (a 6), .ref (a 7), .ref (a 8), .int x_acts, .int x_kept, .int x_length, .ref (a 9), .int x_next, .int x_place, .int x_isWrong, .ref (a 10), .ref (a 11), .ref (a 12), .int x_parts, .int x_without, .ref (a 13), .ref (a 14), .ref (a 15), .ref (a 16), .int x_ways, .ref (a 17), .ref (a 18), .ref (a 19), .ref (a 20)])), (a 18, .inl (V.2 0, 1024, .inl x_alike_51)), (a 19, .inl (V.2 0, 1024, .inl x_finer_65)), (a 20, .inl (V.2 0, 6144, .inl x_on))] 71 [(0, .ref (a 0)), (1, .int v1_63), (2, .int v1_49), (3, .int v3_64), (4, .int v4_66)] [])
                    refine ga_bind hJ ?_ ?_
                    · intro v4_66 h
                      show G 0 0 [(a 0, .inr (10, [.int x_rules, .int x_places, .ref (a 1), .ref (a 2), .ref (a 3), .int x_newRules, .int x_newPlaces, .ref (a 4), .ref (a 5), .ref (a 6), .ref (a 7), .ref (a 8), .int x_acts, .int x_kept, .int x_length, .ref (a 9), .int x_next, .int x_place, .int x_isWrong, .ref (a 10), .ref (a 11), .ref (a 12), .int x_parts, .int x_without, .ref (a 13), .ref (a 14), .ref (a 15), .ref (a 16), .int x_ways, .ref (a 17), .ref (a 18), .ref (a 19), .ref (a 20)])), (a 18, .inl (V.2 0, 1024, .inl x_alike_51)), (a 19, .inl (V.2 0, 1024, .inl x_finer_65)), (a 20, .inl (V.2 0, 6144, .inl x_on))] 71 [(0, .ref (a 0)), (1, .int v1_63), (2, .int v1_49), (3, .int v3_64), (4, .int v4_66)] []
                      refine ga_aload_n hR (pc := 71) 0 rfl rfl dX10_unlikeWays_71 ?_
                      refine ga_get hR (pc := 72) 0 rfl rfl hinX10 31 (by decide) f66 rfl dX10_unlikeWays_72 ?_
                      refine ga_iload_n hR (pc := 75) 3 rfl rfl dX10_unlikeWays_75 ?_
                      refine ga_iload hR (pc := 76) 4 rfl dX10_unlikeWays_76 ?_
                      refine ga_iload_n hR (pc := 78) 3 rfl rfl dX10_unlikeWays_78 ?_
                      have hJ := h (fun (s2_68 : Int32) => G 0 0 [(a 0, .inr (10, [.int x_rules, .int x_places, .ref (a 1), .ref (a 2), .ref (a 3), .int x_newRules, .int x_newPlaces, .ref (a 4), .ref (a 5), .ref (a 6), .ref (a 7), .ref (a 8), .int x_acts, .int x_kept, .int x_length, .ref (a 9), .int x_next, .int x_place, .int x_isWrong, .ref (a 10), .ref (a 11), .ref (a 12), .int x_parts, .int x_without, .ref (a 13), .ref (a 14), .ref (a 15), .ref (a 16), .int x_ways, .ref (a 17), .ref (a 18), .ref (a 19), .ref (a 20)])), (a 18, .inl (V.2 0, 1024, .inl x_alike_51)), (a 19, .inl (V.2 0, 1024, .inl x_finer_65)), (a 20, .inl (V.2 0, 6144, .inl x_on))] 93 [(0, .ref (a 0)), (1, .int v1_63), (2, .int v1_49), (3, .int v3_64), (4, .int v4_66)] [.int s2_68, .int v3_64, .ref (a 19)])
                      refine ga_bind hJ ?_ ?_
                      · intro s2_68 h
                        show G 0 0 [(a 0, .inr (10, [.int x_rules, .int x_places, .ref (a 1), .ref (a 2), .ref (a 3), .int x_newRules, .int x_newPlaces, .ref (a 4), .ref (a 5), .ref (a 6), .ref (a 7), .ref (a 8), .int x_acts, .int x_kept, .int x_length, .ref (a 9), .int x_next, .int x_place, .int x_isWrong, .ref (a 10), .ref (a 11), .ref (a 12), .int x_parts, .int x_without, .ref (a 13), .ref (a 14), .ref (a 15), .ref (a 16), .int x_ways, .ref (a 17), .ref (a 18), .ref (a 19), .ref (a 20)])), (a 18, .inl (V.2 0, 1024, .inl x_alike_51)), (a 19, .inl (V.2 0, 1024, .inl x_finer_65)), (a 20, .inl (V.2 0, 6144, .inl x_on))] 93 [(0, .ref (a 0)), (1, .int v1_63), (2, .int v1_49), (3, .int v3_64), (4, .int v4_66)] [.int s2_68, .int v3_64, .ref (a 19)]
                        refine ga_iast hR (pc := 93) (ws' := [(a 0, .inr (10, [.int x_rules, .int x_places, .ref (a 1), .ref (a 2), .ref (a 3), .int x_newRules, .int x_newPlaces, .ref (a 4), .ref (a 5), .ref (a 6), .ref (a 7), .ref (a 8), .int x_acts, .int x_kept, .int x_length, .ref (a 9), .int x_next, .int x_place, .int x_isWrong, .ref (a 10), .ref (a 11), .ref (a 12), .int x_parts, .int x_without, .ref (a 13), .ref (a 14), .ref (a 15), .ref (a 16), .int x_ways, .ref (a 17), .ref (a 18), .ref (a 19), .ref (a 20)])), (a 18, .inl (V.2 0, 1024, .inl x_alike_51)), (a 19, .inl (V.2 0, 1024, .inl ((upd x_finer_65 v3_64.toNatClampNeg s2_68)))), (a 20, .inl (V.2 0, 6144, .inl x_on))]) 2 rfl h.1 rfl dX10_unlikeWays_93 ?_
                        replace h := h.2
                        obtain ⟨x_finer_70, ex_finer_70⟩ : ∃ f : Nat → Int32, f = upd x_finer_65 v3_64.toNatClampNeg s2_68 := ⟨_, rfl⟩
                        refine ga_cast (ws' := [(a 0, .inr (10, [.int x_rules, .int x_places, .ref (a 1), .ref (a 2), .ref (a 3), .int x_newRules, .int x_newPlaces, .ref (a 4), .ref (a 5), .ref (a 6), .ref (a 7), .ref (a 8), .int x_acts, .int x_kept, .int x_length, .ref (a 9), .int x_next, .int x_place, .int x_isWrong, .ref (a 10), .ref (a 11), .ref (a 12), .int x_parts, .int x_without, .ref (a 13), .ref (a 14), .ref (a 15), .ref (a 16), .int x_ways, .ref (a 17), .ref (a 18), .ref (a 19), .ref (a 20)])), (a 18, .inl (V.2 0, 1024, .inl x_alike_51)), (a 19, .inl (V.2 0, 1024, .inl x_finer_70)), (a 20, .inl (V.2 0, 6144, .inl x_on))]) (by rw [ex_finer_70]) rfl ?_
                        replace h := h x_finer_70 ex_finer_70
                        refine ga_iload_n hR (pc := 94) 1 rfl rfl dX10_unlikeWays_94 ?_
                        refine ga_iload hR (pc := 95) 4 rfl dX10_unlikeWays_95 ?_
                        refine ga_iload_n hR (pc := 97) 3 rfl rfl dX10_unlikeWays_97 ?_
                        refine ga_icmp_ne hR (pc := 98) 105 (by decide) dX10_unlikeWays_98 (fun c98 => ?_) (fun c98 => ?_)
                        · replace h := h.1 c98
                          refine ga_iconst hR (pc := 105) (v := nI 0) (by decide) dX10_unlikeWays_105 ?_
                          refine ga_iadd hR (pc := 106) dX10_unlikeWays_106 ?_
                          refine ga_topi (fun v1_71 ev1_71 => ?_)
                          replace h := h v1_71 ev1_71
                          refine ga_istore_n hR (pc := 107) (lv' := [(1, .int v1_71), (0, .ref (a 0)), (2, .int v1_49), (3, .int v3_64), (4, .int v4_66)]) rfl (by decide) rfl dX10_unlikeWays_107 ?_
                          obtain ⟨v3_72, ev3_72⟩ : ∃ v : Int32, v = v3_64 + (nI 1) := ⟨_, rfl⟩
                          replace h := h v3_72 ev3_72
                          refine ga_iinc hR (pc := 108) (lv' := [(3, .int v3_72), (1, .int v1_71), (0, .ref (a 0)), (2, .int v1_49), (4, .int v4_66)]) 3 (by decide) rfl ev3_72 (by decide) rfl dX10_unlikeWays_108 ?_
                          refine ga_goto hR (pc := 111) 38 (by decide) dX10_unlikeWays_111 ?_
                          exact ga_lv hR [2, 1, 3, 0] rfl (ih _ _ _ h)
                        · replace h := h.2 c98
                          refine ga_iconst hR (pc := 101) (v := nI 1) (by decide) dX10_unlikeWays_101 ?_
                          refine ga_goto hR (pc := 102) 106 (by decide) dX10_unlikeWays_102 ?_
                          refine ga_iadd hR (pc := 106) dX10_unlikeWays_106 ?_
                          refine ga_topi (fun v1_73 ev1_73 => ?_)
                          replace h := h v1_73 ev1_73
                          refine ga_istore_n hR (pc := 107) (lv' := [(1, .int v1_73), (0, .ref (a 0)), (2, .int v1_49), (3, .int v3_64), (4, .int v4_66)]) rfl (by decide) rfl dX10_unlikeWays_107 ?_
                          obtain ⟨v3_74, ev3_74⟩ : ∃ v : Int32, v = v3_64 + (nI 1) := ⟨_, rfl⟩
                          replace h := h v3_74 ev3_74
                          refine ga_iinc hR (pc := 108) (lv' := [(3, .int v3_74), (1, .int v1_73), (0, .ref (a 0)), (2, .int v1_49), (4, .int v4_66)]) 3 (by decide) rfl ev3_74 (by decide) rfl dX10_unlikeWays_108 ?_
                          refine ga_goto hR (pc := 111) 38 (by decide) dX10_unlikeWays_111 ?_
                          exact ga_lv hR [2, 1, 3, 0] rfl (ih _ _ _ h)
                      · intro h
                        refine ga_icmp_ne hR (pc := 79) 86 (by decide) dX10_unlikeWays_79 (fun c79 => ?_) (fun c79 => ?_)
                        · replace h := h.1 c79
                          refine ga_aload_n hR (pc := 86) 0 rfl rfl dX10_unlikeWays_86 ?_
                          refine ga_get hR (pc := 87) 0 rfl rfl hinX10 31 (by decide) f66 rfl dX10_unlikeWays_87 ?_
                          refine ga_iload hR (pc := 90) 4 rfl dX10_unlikeWays_90 ?_
                          refine ga_iald hR (pc := 92) 2 rfl h.1 dX10_unlikeWays_92 ?_
                          replace h := h.2
                          exact ga_lv hR [0, 1, 2, 3, 4] rfl h
                        · replace h := h.2 c79
                          refine ga_iload_n hR (pc := 82) 1 rfl rfl dX10_unlikeWays_82 ?_
                          refine ga_goto hR (pc := 83) 93 (by decide) dX10_unlikeWays_83 ?_
                          exact ga_lv hR [0, 1, 2, 3, 4] rfl h
                    · intro h
                      obtain ⟨n, h⟩ := h
                      have L49 : ∀ (n : Nat) (v4_75 : Int32), lp_X10_unlikeWays_49 x_alike_51 x_on v3_64 (fun (v4_66 : Int32) => G 0 0 [(a 0, .inr (10, [.int x_rules, .int x_places, .ref (a 1), .ref (a 2), .ref (a 3), .int x_newRules, .int x_newPlaces, .ref (a 4), .ref (a 5), .ref (a 6), .ref (a 7), .ref (a 8), .int x_acts, .int x_kept, .int x_length, .ref (a 9), .int x_next, .int x_place, .int x_isWrong, .ref (a 10), .ref (a 11), .ref (a 12), .int x_parts, .int x_without, .ref (a 13), .ref (a 14), .ref (a 15), .ref (a 16), .int x_ways, .ref (a 17), .ref (a 18), .ref (a 19), .ref (a 20)])), (a 18, .inl (V.2 0, 1024, .inl x_alike_51)), (a 19, .inl (V.2 0, 1024, .inl x_finer_65)), (a 20, .inl (V.2 0, 6144, .inl x_on))] 71 [(0, .ref (a 0)), (1, .int v1_63), (2, .int v1_49), (3, .int v3_64), (4, .int v4_66)] []) n v4_75 → G 0 0 [(a 0, .inr (10, [.int x_rules, .int x_places, .ref (a 1), .ref (a 2), .ref (a 3), .int x_newRules, .int x_newPlaces, .ref (a 4), .ref (a 5), .ref (a 6), .ref (a 7), .ref (a 8), .int x_acts, .int x_kept, .int x_length, .ref (a 9), .int x_next, .int x_place, .int x_isWrong, .ref (a 10), .ref (a 11), .ref (a 12), .int x_parts, .int x_without, .ref (a 13), .ref (a 14), .ref (a 15), .ref (a 16), .int x_ways, .ref (a 17), .ref (a 18), .ref (a 19), .ref (a 20)])), (a 18, .inl (V.2 0, 1024, .inl x_alike_51)), (a 19, .inl (V.2 0, 1024, .inl x_finer_65)), (a 20, .inl (V.2 0, 6144, .inl x_on))] 49 [(0, .ref (a 0)), (1, .int v1_63), (2, .int v1_49), (3, .int v3_64), (4, .int v4_75)] [] := by
                        intro n
                        induction n with
                        | zero => exact fun _ h => False.elim h
                        | succ n ih =>
                          intro v4_75 h
                          rw [lp_X10_unlikeWays_49] at h
                          refine ga_iload hR (pc := 49) 4 rfl dX10_unlikeWays_49 ?_
                          refine ga_iload_n hR (pc := 51) 3 rfl rfl dX10_unlikeWays_51 ?_
                          refine ga_icmp_ge hR (pc := 52) 71 (by decide) dX10_unlikeWays_52 (fun c52 => ?_) (fun c52 => ?_)
                          · replace h := h.1 c52
                            exact ga_lv hR [0, 1, 2, 3, 4] rfl h
                          · replace h := h.2 c52
                            refine ga_aload_n hR (pc := 55) 0 rfl rfl dX10_unlikeWays_55 ?_
                            refine ga_iload hR (pc := 56) 4 rfl dX10_unlikeWays_56 ?_
                            refine ga_iload_n hR (pc := 58) 3 rfl rfl dX10_unlikeWays_58 ?_
                            refine ga_callV hR (pc := 59) (As := [.int v4_75, .int v3_64]) (rest := []) (st0 := [.int v3_64, .int v4_75, .ref (a 0)]) (b := (a 0)) 2 (c_X10_isFiner V a x_rules x_places x_newRules x_newPlaces x_acts x_kept x_length x_next x_place x_isWrong x_parts x_without x_ways x_alike_51 x_on v4_75 v3_64 _ h) (ga_same_i fun _ => rfl) gX10_unlikeWays_X10_isFiner rfl rfl rfl hd_X10_isFiner ⟨Nat.le_of_ble_eq_true rfl, Nat.le_of_ble_eq_true rfl⟩ rfl rfl (Nat.le_of_ble_eq_true rfl) ⟨Nat.zero_le _, Nat.zero_le _⟩ [0, 1, 3] rfl rfl 0 rfl rfl dX10_unlikeWays_59 ?_
                            rintro _ _ ⟨r_76, ⟨⟩, rfl, rfl, h⟩
                            refine ga_to [(a 0, .inr (10, [.int x_rules, .int x_places, .ref (a 1), .ref (a 2), .ref (a 3), .int x_newRules, .int x_newPlaces, .ref (a 4), .ref (a 5), .ref (a 6), .ref (a 7), .ref (a 8), .int x_acts, .int x_kept, .int x_length, .ref (a 9), .int x_next, .int x_place, .int x_isWrong, .ref (a 10), .ref (a 11), .ref (a 12), .int x_parts, .int x_without, .ref (a 13), .ref (a 14), .ref (a 15), .ref (a 16), .int x_ways, .ref (a 17), .ref (a 18), .ref (a 19), .ref (a 20)])), (a 18, .inl (V.2 0, 1024, .inl x_alike_51)), (a 19, .inl (V.2 0, 1024, .inl x_finer_65)), (a 20, .inl (V.2 0, 6144, .inl x_on))] [.int r_76] rfl rfl ?_
                            try dsimp only at h
                            refine ga_if_ne hR (pc := 62) 71 (by decide) dX10_unlikeWays_62 (fun c62 => ?_) (fun c62 => ?_)
                            · replace h := h.1 c62
                              exact ga_lv hR [0, 1, 2, 3, 4] rfl h
                            · replace h := h.2 c62
                              obtain ⟨v4_77, ev4_77⟩ : ∃ v : Int32, v = v4_75 + (nI 1) := ⟨_, rfl⟩
                              replace h := h v4_77 ev4_77
                              refine ga_iinc hR (pc := 65) (lv' := [(4, .int v4_77), (0, .ref (a 0)), (1, .int v1_63), (2, .int v1_49), (3, .int v3_64)]) 4 (by decide) rfl ev4_77 (by decide) rfl dX10_unlikeWays_65 ?_
                              refine ga_goto hR (pc := 68) 49 (by decide) dX10_unlikeWays_68 ?_
                              exact ga_lv hR [1, 2, 3, 4, 0] rfl (ih _ h)
                      exact ga_lv hR [1, 2, 3, 4, 0] rfl (L49 n _ h)
              exact ga_lv hR [3, 1, 2, 0] rfl (L38 n _ _ _ h)
      exact ga_lv hR [0, 1, 2] rfl (L27 n _ _ _ _ h)
  · intro h
    obtain ⟨n, h⟩ := h
    have L6 : ∀ (n : Nat) (v3_80 : Int32) (x_alike_81 : Nat → Int32), lp_X10_unlikeWays_6 x_ways (fun (x_alike_1 : Nat → Int32) => G 0 0 [(a 0, .inr (10, [.int x_rules, .int x_places, .ref (a 1), .ref (a 2), .ref (a 3), .int x_newRules, .int x_newPlaces, .ref (a 4), .ref (a 5), .ref (a 6), .ref (a 7), .ref (a 8), .int x_acts, .int x_kept, .int x_length, .ref (a 9), .int x_next, .int x_place, .int x_isWrong, .ref (a 10), .ref (a 11), .ref (a 12), .int x_parts, .int x_without, .ref (a 13), .ref (a 14), .ref (a 15), .ref (a 16), .int x_ways, .ref (a 17), .ref (a 18), .ref (a 19), .ref (a 20)])), (a 18, .inl (V.2 0, 1024, .inl x_alike_1)), (a 19, .inl (V.2 0, 1024, .inl x_finer)), (a 20, .inl (V.2 0, 6144, .inl x_on))] 27 [(0, .ref (a 0)), (1, .int (nI 1)), (2, .int (nI 0))] []) n v3_80 x_alike_81 → G 0 0 [(a 0, .inr (10, [.int x_rules, .int x_places, .ref (a 1), .ref (a 2), .ref (a 3), .int x_newRules, .int x_newPlaces, .ref (a 4), .ref (a 5), .ref (a 6), .ref (a 7), .ref (a 8), .int x_acts, .int x_kept, .int x_length, .ref (a 9), .int x_next, .int x_place, .int x_isWrong, .ref (a 10), .ref (a 11), .ref (a 12), .int x_parts, .int x_without, .ref (a 13), .ref (a 14), .ref (a 15), .ref (a 16), .int x_ways, .ref (a 17), .ref (a 18), .ref (a 19), .ref (a 20)])), (a 18, .inl (V.2 0, 1024, .inl x_alike_81)), (a 19, .inl (V.2 0, 1024, .inl x_finer)), (a 20, .inl (V.2 0, 6144, .inl x_on))] 6 [(0, .ref (a 0)), (1, .int (nI 1)), (2, .int (nI 0)), (3, .int v3_80)] [] := by
      intro n
      induction n with
      | zero => exact fun _ _ h => False.elim h
      | succ n ih =>
        intro v3_80 x_alike_81 h
        rw [lp_X10_unlikeWays_6] at h
        refine ga_iload_n hR (pc := 6) 3 rfl rfl dX10_unlikeWays_6 ?_
        refine ga_aload_n hR (pc := 7) 0 rfl rfl dX10_unlikeWays_7 ?_
        refine ga_get hR (pc := 8) 0 rfl rfl hinX10 28 (by decide) f251 rfl dX10_unlikeWays_8 ?_
        refine ga_icmp_ge hR (pc := 11) 27 (by decide) dX10_unlikeWays_11 (fun c11 => ?_) (fun c11 => ?_)
        · replace h := h.1 c11
          exact ga_lv hR [0, 1, 2] rfl h
        · replace h := h.2 c11
          refine ga_aload_n hR (pc := 14) 0 rfl rfl dX10_unlikeWays_14 ?_
          refine ga_get hR (pc := 15) 0 rfl rfl hinX10 30 (by decide) f63 rfl dX10_unlikeWays_15 ?_
          refine ga_iload_n hR (pc := 18) 3 rfl rfl dX10_unlikeWays_18 ?_
          refine ga_iconst hR (pc := 19) (v := nI 0) (by decide) dX10_unlikeWays_19 ?_
          refine ga_iast hR (pc := 20) (ws' := [(a 0, .inr (10, [.int x_rules, .int x_places, .ref (a 1), .ref (a 2), .ref (a 3), .int x_newRules, .int x_newPlaces, .ref (a 4), .ref (a 5), .ref (a 6), .ref (a 7), .ref (a 8), .int x_acts, .int x_kept, .int x_length, .ref (a 9), .int x_next, .int x_place, .int x_isWrong, .ref (a 10), .ref (a 11), .ref (a 12), .int x_parts, .int x_without, .ref (a 13), .ref (a 14), .ref (a 15), .ref (a 16), .int x_ways, .ref (a 17), .ref (a 18), .ref (a 19), .ref (a 20)])), (a 18, .inl (V.2 0, 1024, .inl ((upd x_alike_81 v3_80.toNatClampNeg (nI 0))))), (a 19, .inl (V.2 0, 1024, .inl x_finer)), (a 20, .inl (V.2 0, 6144, .inl x_on))]) 1 rfl h.1 rfl dX10_unlikeWays_20 ?_
          replace h := h.2
          obtain ⟨x_alike_82, ex_alike_82⟩ : ∃ f : Nat → Int32, f = upd x_alike_81 v3_80.toNatClampNeg (nI 0) := ⟨_, rfl⟩
          refine ga_cast (ws' := [(a 0, .inr (10, [.int x_rules, .int x_places, .ref (a 1), .ref (a 2), .ref (a 3), .int x_newRules, .int x_newPlaces, .ref (a 4), .ref (a 5), .ref (a 6), .ref (a 7), .ref (a 8), .int x_acts, .int x_kept, .int x_length, .ref (a 9), .int x_next, .int x_place, .int x_isWrong, .ref (a 10), .ref (a 11), .ref (a 12), .int x_parts, .int x_without, .ref (a 13), .ref (a 14), .ref (a 15), .ref (a 16), .int x_ways, .ref (a 17), .ref (a 18), .ref (a 19), .ref (a 20)])), (a 18, .inl (V.2 0, 1024, .inl x_alike_82)), (a 19, .inl (V.2 0, 1024, .inl x_finer)), (a 20, .inl (V.2 0, 6144, .inl x_on))]) (by rw [ex_alike_82]) rfl ?_
          replace h := h x_alike_82 ex_alike_82
          obtain ⟨v3_83, ev3_83⟩ : ∃ v : Int32, v = v3_80 + (nI 1) := ⟨_, rfl⟩
          replace h := h v3_83 ev3_83
          refine ga_iinc hR (pc := 21) (lv' := [(3, .int v3_83), (0, .ref (a 0)), (1, .int (nI 1)), (2, .int (nI 0))]) 3 (by decide) rfl ev3_83 (by decide) rfl dX10_unlikeWays_21 ?_
          refine ga_goto hR (pc := 24) 6 (by decide) dX10_unlikeWays_24 ?_
          exact ga_lv hR [1, 2, 3, 0] rfl (ih _ _ h)
    exact ga_lv hR [3, 2, 1, 0] rfl (L6 n _ _ h)

def rm_X10_behindOne : Room := { frames := 3, cells := 0, slots := 0, locals := 74 }
theorem hd_X10_behindOneS : yX10_behindOne.cls ≠ "java/lang/invoke/MethodHandle" ∧ yX10_behindOne.cls ≠ "java/lang/invoke/VarHandle" ∧ (parseMethodDescriptor yX10_behindOne.desc).map (fun d => d.parameters.length) = some 2 := by decide +kernel
theorem hd_X10_behindOne : yX10_behindOne.cls = RX10 ∧ yX10_behindOne.cls ≠ "java/lang/invoke/MethodHandle" ∧ yX10_behindOne.cls ≠ "java/lang/invoke/VarHandle" ∧ (parseMethodDescriptor yX10_behindOne.desc).map (fun d => d.parameters.length) = some 2 := ⟨rfl, hd_X10_behindOneS⟩
set_option maxHeartbeats 4000000 in
set_option maxRecDepth 100000 in
theorem c_X10_behindOne (V : ga_V) (a : Nat → Nat) (x_newRules : Int32) (x_newPlaces : Int32) (x_acts : Int32) (x_kept : Int32) (x_length : Int32) (x_next : Int32) (x_place : Int32) (x_isWrong : Int32) (x_parts : Int32) (x_ways : Int32) (x_rules : Int32) (x_places : Int32) (x_without : Int32) (x_rule : Nat → Int32) (x_takes : Nat → Int32) (x_behind : Nat → Int32) (x_slot : Nat → Int32) (p1 : Int32) (p2 : Int32) (K : Int32 → Prop) (h : wp_X10_behindOne x_rules x_places x_without x_rule x_takes x_behind x_slot p1 p2 K) : ga_C V yX10_behindOne wsX10_behindOne rm_X10_behindOne [.ref (a 0), .int p1, .int p2] [(a 0, .inr (10, [.int x_rules, .int x_places, .ref (a 1), .ref (a 2), .ref (a 3), .int x_newRules, .int x_newPlaces, .ref (a 4), .ref (a 5), .ref (a 6), .ref (a 7), .ref (a 8), .int x_acts, .int x_kept, .int x_length, .ref (a 9), .int x_next, .int x_place, .int x_isWrong, .ref (a 10), .ref (a 11), .ref (a 12), .int x_parts, .int x_without, .ref (a 13), .ref (a 14), .ref (a 15), .ref (a 16), .int x_ways, .ref (a 17), .ref (a 18), .ref (a 19), .ref (a 20)])), (a 1, .inl (V.2 0, 12, .inl x_rule)), (a 2, .inl (V.2 0, 10, .inl x_takes)), (a 3, .inl (V.2 0, 10, .inl x_behind)), (a 8, .inl (V.2 0, 732, .inl x_slot))] 0 0 (ga_Fi (fun (u : Unit) => [(a 0, .inr (10, [.int x_rules, .int x_places, .ref (a 1), .ref (a 2), .ref (a 3), .int x_newRules, .int x_newPlaces, .ref (a 4), .ref (a 5), .ref (a 6), .ref (a 7), .ref (a 8), .int x_acts, .int x_kept, .int x_length, .ref (a 9), .int x_next, .int x_place, .int x_isWrong, .ref (a 10), .ref (a 11), .ref (a 12), .int x_parts, .int x_without, .ref (a 13), .ref (a 14), .ref (a 15), .ref (a 16), .int x_ways, .ref (a 17), .ref (a 18), .ref (a 19), .ref (a 20)])), (a 1, .inl (V.2 0, 12, .inl x_rule)), (a 2, .inl (V.2 0, 10, .inl x_takes)), (a 3, .inl (V.2 0, 10, .inl x_behind)), (a 8, .inl (V.2 0, 732, .inl x_slot))]) (fun r u => K r)) := by
  refine ga_met (cc := cX10_behindOne) (maxL := 4) (rt := (some .int)) (by decide) rfl [(0, .ref (a 0)), (1, .int p1), (2, .int p2)] rfl (Nat.le_of_ble_eq_true rfl) ?_
  intro G hR hE
  unfold wp_X10_behindOne at h
  refine ga_aload_n hR (pc := 0) 0 rfl rfl dX10_behindOne_0 ?_
  refine ga_iload_n hR (pc := 1) 1 rfl rfl dX10_behindOne_1 ?_
  refine ga_iload_n hR (pc := 2) 2 rfl rfl dX10_behindOne_2 ?_
  refine ga_callV hR (pc := 3) (As := [.int p1, .int p2]) (rest := []) (st0 := [.int p2, .int p1, .ref (a 0)]) (b := (a 0)) 2 (c_X10_goes V a x_newRules x_newPlaces x_acts x_kept x_length x_next x_place x_isWrong x_parts x_without x_ways x_rules x_places x_rule x_takes x_behind x_slot p1 p2 _ h) (ga_same_i fun _ => rfl) gX10_behindOne_X10_goes rfl rfl rfl hd_X10_goes ⟨Nat.le_of_ble_eq_true rfl, Nat.le_of_ble_eq_true rfl⟩ rfl rfl (Nat.le_of_ble_eq_true rfl) ⟨Nat.zero_le _, Nat.zero_le _⟩ [0, 1, 2, 3, 4] rfl rfl 0 rfl rfl dX10_behindOne_3 ?_
  rintro _ _ ⟨r_1, ⟨⟩, rfl, rfl, h⟩
  refine ga_to [(a 0, .inr (10, [.int x_rules, .int x_places, .ref (a 1), .ref (a 2), .ref (a 3), .int x_newRules, .int x_newPlaces, .ref (a 4), .ref (a 5), .ref (a 6), .ref (a 7), .ref (a 8), .int x_acts, .int x_kept, .int x_length, .ref (a 9), .int x_next, .int x_place, .int x_isWrong, .ref (a 10), .ref (a 11), .ref (a 12), .int x_parts, .int x_without, .ref (a 13), .ref (a 14), .ref (a 15), .ref (a 16), .int x_ways, .ref (a 17), .ref (a 18), .ref (a 19), .ref (a 20)])), (a 1, .inl (V.2 0, 12, .inl x_rule)), (a 2, .inl (V.2 0, 10, .inl x_takes)), (a 3, .inl (V.2 0, 10, .inl x_behind)), (a 8, .inl (V.2 0, 732, .inl x_slot))] [.int r_1] rfl rfl ?_
  try dsimp only at h
  refine ga_istore_n hR (pc := 6) (lv' := [(3, .int r_1), (0, .ref (a 0)), (1, .int p1), (2, .int p2)]) rfl (by decide) rfl dX10_behindOne_6 ?_
  refine ga_iload_n hR (pc := 7) 0 rfl rfl dX10_behindOne_7 ?_
  refine ga_if_ne hR (pc := 8) 19 (by decide) dX10_behindOne_8 (fun c8 => ?_) (fun c8 => ?_)
  · replace h := h.1 c8
    refine ga_iload_n hR (pc := 19) 0 rfl rfl dX10_behindOne_19 ?_
    exact ga_iret hE dX10_behindOne_20 rfl (ga_ri () rfl h)
  · replace h := h.2 c8
    refine ga_aload_n hR (pc := 11) 1 rfl rfl dX10_behindOne_11 ?_
    refine ga_iload_n hR (pc := 12) 3 rfl rfl dX10_behindOne_12 ?_
    refine ga_callV hR (pc := 13) (As := [.int p2]) (rest := []) (st0 := [.int p2, .ref (a 0)]) (b := (a 0)) 1 (c_X10_begun V a x_newRules x_newPlaces x_acts x_kept x_length x_next x_place x_isWrong x_parts x_ways x_rules x_places x_without x_rule x_takes p2 _ h) (ga_same_i fun _ => rfl) gX10_behindOne_X10_begun rfl rfl rfl hd_X10_begun ⟨Nat.le_of_ble_eq_true rfl, Nat.le_of_ble_eq_true rfl⟩ rfl rfl (Nat.le_of_ble_eq_true rfl) ⟨Nat.zero_le _, Nat.zero_le _⟩ [0, 1, 2] rfl rfl 0 rfl rfl dX10_behindOne_13 ?_
    rintro _ _ ⟨r_2, ⟨⟩, rfl, rfl, h⟩
    refine ga_to [(a 0, .inr (10, [.int x_rules, .int x_places, .ref (a 1), .ref (a 2), .ref (a 3), .int x_newRules, .int x_newPlaces, .ref (a 4), .ref (a 5), .ref (a 6), .ref (a 7), .ref (a 8), .int x_acts, .int x_kept, .int x_length, .ref (a 9), .int x_next, .int x_place, .int x_isWrong, .ref (a 10), .ref (a 11), .ref (a 12), .int x_parts, .int x_without, .ref (a 13), .ref (a 14), .ref (a 15), .ref (a 16), .int x_ways, .ref (a 17), .ref (a 18), .ref (a 19), .ref (a 20)])), (a 1, .inl (V.2 0, 12, .inl x_rule)), (a 2, .inl (V.2 0, 10, .inl x_takes)), (a 3, .inl (V.2 0, 10, .inl x_behind)), (a 8, .inl (V.2 0, 732, .inl x_slot))] [.int r_2] rfl rfl ?_
    try dsimp only at h
    refine ga_goto hR (pc := 16) 20 (by decide) dX10_behindOne_16 ?_
    exact ga_iret hE dX10_behindOne_20 rfl (ga_ri () rfl h)

def rm_X10_isKnown : Room := { frames := 4, cells := 0, slots := 0, locals := 97 }
theorem hd_X10_isKnownS : yX10_isKnown.cls ≠ "java/lang/invoke/MethodHandle" ∧ yX10_isKnown.cls ≠ "java/lang/invoke/VarHandle" ∧ (parseMethodDescriptor yX10_isKnown.desc).map (fun d => d.parameters.length) = some 2 := by decide +kernel
theorem hd_X10_isKnown : yX10_isKnown.cls = RX10 ∧ yX10_isKnown.cls ≠ "java/lang/invoke/MethodHandle" ∧ yX10_isKnown.cls ≠ "java/lang/invoke/VarHandle" ∧ (parseMethodDescriptor yX10_isKnown.desc).map (fun d => d.parameters.length) = some 2 := ⟨rfl, hd_X10_isKnownS⟩
set_option maxHeartbeats 4000000 in
set_option maxRecDepth 100000 in
theorem c_X10_isKnown (V : ga_V) (a : Nat → Nat) (x_newRules : Int32) (x_newPlaces : Int32) (x_acts : Int32) (x_kept : Int32) (x_length : Int32) (x_next : Int32) (x_place : Int32) (x_isWrong : Int32) (x_parts : Int32) (x_rules : Int32) (x_places : Int32) (x_without : Int32) (x_ways : Int32) (x_rule : Nat → Int32) (x_takes : Nat → Int32) (x_behind : Nat → Int32) (x_slot : Nat → Int32) (x_way : Nat → Int32) (p1 : Int32) (p2 : Int32) (K : Int32 → Prop) (h : wp_X10_isKnown x_rules x_places x_without x_ways x_rule x_takes x_behind x_slot x_way p1 p2 K) : ga_C V yX10_isKnown wsX10_isKnown rm_X10_isKnown [.ref (a 0), .int p1, .int p2] [(a 0, .inr (10, [.int x_rules, .int x_places, .ref (a 1), .ref (a 2), .ref (a 3), .int x_newRules, .int x_newPlaces, .ref (a 4), .ref (a 5), .ref (a 6), .ref (a 7), .ref (a 8), .int x_acts, .int x_kept, .int x_length, .ref (a 9), .int x_next, .int x_place, .int x_isWrong, .ref (a 10), .ref (a 11), .ref (a 12), .int x_parts, .int x_without, .ref (a 13), .ref (a 14), .ref (a 15), .ref (a 16), .int x_ways, .ref (a 17), .ref (a 18), .ref (a 19), .ref (a 20)])), (a 1, .inl (V.2 0, 12, .inl x_rule)), (a 2, .inl (V.2 0, 10, .inl x_takes)), (a 3, .inl (V.2 0, 10, .inl x_behind)), (a 8, .inl (V.2 0, 732, .inl x_slot)), (a 16, .inl (V.2 0, 1024, .inl x_way))] 0 0 (ga_Fi (fun (u : Unit) => [(a 0, .inr (10, [.int x_rules, .int x_places, .ref (a 1), .ref (a 2), .ref (a 3), .int x_newRules, .int x_newPlaces, .ref (a 4), .ref (a 5), .ref (a 6), .ref (a 7), .ref (a 8), .int x_acts, .int x_kept, .int x_length, .ref (a 9), .int x_next, .int x_place, .int x_isWrong, .ref (a 10), .ref (a 11), .ref (a 12), .int x_parts, .int x_without, .ref (a 13), .ref (a 14), .ref (a 15), .ref (a 16), .int x_ways, .ref (a 17), .ref (a 18), .ref (a 19), .ref (a 20)])), (a 1, .inl (V.2 0, 12, .inl x_rule)), (a 2, .inl (V.2 0, 10, .inl x_takes)), (a 3, .inl (V.2 0, 10, .inl x_behind)), (a 8, .inl (V.2 0, 732, .inl x_slot)), (a 16, .inl (V.2 0, 1024, .inl x_way))]) (fun r u => K r)) := by
  refine ga_met (cc := cX10_isKnown) (maxL := 6) (rt := (some .boolean)) (by decide) rfl [(0, .ref (a 0)), (1, .int p1), (2, .int p2)] rfl (Nat.le_of_ble_eq_true rfl) ?_
  intro G hR hE
  have hinX10 : ∀ w ∈ u_ws RX10 TX10 33, w ∈ wsX10_isKnown := by decide +kernel
  have f251 : Cond.fieldLink RX10 251 "BoundaryRulesModel" "ways" "I" ∈ wsX10_isKnown := by decide +kernel
  have f57 : Cond.fieldLink RX10 57 "BoundaryRulesModel" "way" "[I" ∈ wsX10_isKnown := by decide +kernel
  unfold wp_X10_isKnown at h
  refine ga_aload_n hR (pc := 0) 0 rfl rfl dX10_isKnown_0 ?_
  refine ga_aload_n hR (pc := 1) 0 rfl rfl dX10_isKnown_1 ?_
  refine ga_iload_n hR (pc := 2) 1 rfl rfl dX10_isKnown_2 ?_
  refine ga_callV hR (pc := 3) (As := [.int p1]) (rest := [.ref (a 0)]) (st0 := [.int p1, .ref (a 0), .ref (a 0)]) (b := (a 0)) 1 (c_X10_begun V a x_newRules x_newPlaces x_acts x_kept x_length x_next x_place x_isWrong x_parts x_ways x_rules x_places x_without x_rule x_takes p1 _ h) (ga_same_i fun _ => rfl) gX10_isKnown_X10_begun rfl rfl rfl hd_X10_begun ⟨Nat.le_of_ble_eq_true rfl, Nat.le_of_ble_eq_true rfl⟩ rfl rfl (Nat.le_of_ble_eq_true rfl) ⟨Nat.zero_le _, Nat.zero_le _⟩ [0, 1, 2] rfl rfl 0 rfl rfl dX10_isKnown_3 ?_
  rintro _ _ ⟨r_1, ⟨⟩, rfl, rfl, h⟩
  refine ga_to [(a 0, .inr (10, [.int x_rules, .int x_places, .ref (a 1), .ref (a 2), .ref (a 3), .int x_newRules, .int x_newPlaces, .ref (a 4), .ref (a 5), .ref (a 6), .ref (a 7), .ref (a 8), .int x_acts, .int x_kept, .int x_length, .ref (a 9), .int x_next, .int x_place, .int x_isWrong, .ref (a 10), .ref (a 11), .ref (a 12), .int x_parts, .int x_without, .ref (a 13), .ref (a 14), .ref (a 15), .ref (a 16), .int x_ways, .ref (a 17), .ref (a 18), .ref (a 19), .ref (a 20)])), (a 1, .inl (V.2 0, 12, .inl x_rule)), (a 2, .inl (V.2 0, 10, .inl x_takes)), (a 3, .inl (V.2 0, 10, .inl x_behind)), (a 8, .inl (V.2 0, 732, .inl x_slot)), (a 16, .inl (V.2 0, 1024, .inl x_way))] [.int r_1, .ref (a 0)] rfl rfl ?_
  try dsimp only at h
  refine ga_iload_n hR (pc := 6) 2 rfl rfl dX10_isKnown_6 ?_
  refine ga_callV hR (pc := 7) (As := [.int r_1, .int p2]) (rest := []) (st0 := [.int p2, .int r_1, .ref (a 0)]) (b := (a 0)) 2 (c_X10_behindOne V a x_newRules x_newPlaces x_acts x_kept x_length x_next x_place x_isWrong x_parts x_ways x_rules x_places x_without x_rule x_takes x_behind x_slot r_1 p2 _ h) (ga_same_i fun _ => rfl) gX10_isKnown_X10_behindOne rfl rfl rfl hd_X10_behindOne ⟨Nat.le_of_ble_eq_true rfl, Nat.le_of_ble_eq_true rfl⟩ rfl rfl (Nat.le_of_ble_eq_true rfl) ⟨Nat.zero_le _, Nat.zero_le _⟩ [0, 1, 2, 3, 4] rfl rfl 0 rfl rfl dX10_isKnown_7 ?_
  rintro _ _ ⟨r_2, ⟨⟩, rfl, rfl, h⟩
  refine ga_to [(a 0, .inr (10, [.int x_rules, .int x_places, .ref (a 1), .ref (a 2), .ref (a 3), .int x_newRules, .int x_newPlaces, .ref (a 4), .ref (a 5), .ref (a 6), .ref (a 7), .ref (a 8), .int x_acts, .int x_kept, .int x_length, .ref (a 9), .int x_next, .int x_place, .int x_isWrong, .ref (a 10), .ref (a 11), .ref (a 12), .int x_parts, .int x_without, .ref (a 13), .ref (a 14), .ref (a 15), .ref (a 16), .int x_ways, .ref (a 17), .ref (a 18), .ref (a 19), .ref (a 20)])), (a 1, .inl (V.2 0, 12, .inl x_rule)), (a 2, .inl (V.2 0, 10, .inl x_takes)), (a 3, .inl (V.2 0, 10, .inl x_behind)), (a 8, .inl (V.2 0, 732, .inl x_slot)), (a 16, .inl (V.2 0, 1024, .inl x_way))] [.int r_2] rfl rfl ?_
  try dsimp only at h
  refine ga_istore_n hR (pc := 10) (lv' := [(3, .int r_2), (0, .ref (a 0)), (1, .int p1), (2, .int p2)]) rfl (by decide) rfl dX10_isKnown_10 ?_
  refine ga_iconst hR (pc := 11) (v := nI 1) (by decide) dX10_isKnown_11 ?_
  refine ga_istore hR (pc := 12) (lv' := [(4, .int (nI 1)), (3, .int r_2), (0, .ref (a 0)), (1, .int p1), (2, .int p2)]) (by decide) rfl dX10_isKnown_12 ?_
  refine ga_iconst hR (pc := 14) (v := nI 0) (by decide) dX10_isKnown_14 ?_
  refine ga_istore hR (pc := 15) (lv' := [(5, .int (nI 0)), (4, .int (nI 1)), (3, .int r_2), (0, .ref (a 0)), (1, .int p1), (2, .int p2)]) (by decide) rfl dX10_isKnown_15 ?_
  have hJ := h (fun (v4_3 : Int32) => G 0 0 [(a 0, .inr (10, [.int x_rules, .int x_places, .ref (a 1), .ref (a 2), .ref (a 3), .int x_newRules, .int x_newPlaces, .ref (a 4), .ref (a 5), .ref (a 6), .ref (a 7), .ref (a 8), .int x_acts, .int x_kept, .int x_length, .ref (a 9), .int x_next, .int x_place, .int x_isWrong, .ref (a 10), .ref (a 11), .ref (a 12), .int x_parts, .int x_without, .ref (a 13), .ref (a 14), .ref (a 15), .ref (a 16), .int x_ways, .ref (a 17), .ref (a 18), .ref (a 19), .ref (a 20)])), (a 1, .inl (V.2 0, 12, .inl x_rule)), (a 2, .inl (V.2 0, 10, .inl x_takes)), (a 3, .inl (V.2 0, 10, .inl x_behind)), (a 8, .inl (V.2 0, 732, .inl x_slot)), (a 16, .inl (V.2 0, 1024, .inl x_way))] 65 [(4, .int v4_3)] [])
  refine ga_bind hJ ?_ ?_
  · intro v4_3 h
    show G 0 0 [(a 0, .inr (10, [.int x_rules, .int x_places, .ref (a 1), .ref (a 2), .ref (a 3), .int x_newRules, .int x_newPlaces, .ref (a 4), .ref (a 5), .ref (a 6), .ref (a 7), .ref (a 8), .int x_acts, .int x_kept, .int x_length, .ref (a 9), .int x_next, .int x_place, .int x_isWrong, .ref (a 10), .ref (a 11), .ref (a 12), .int x_parts, .int x_without, .ref (a 13), .ref (a 14), .ref (a 15), .ref (a 16), .int x_ways, .ref (a 17), .ref (a 18), .ref (a 19), .ref (a 20)])), (a 1, .inl (V.2 0, 12, .inl x_rule)), (a 2, .inl (V.2 0, 10, .inl x_takes)), (a 3, .inl (V.2 0, 10, .inl x_behind)), (a 8, .inl (V.2 0, 732, .inl x_slot)), (a 16, .inl (V.2 0, 1024, .inl x_way))] 65 [(4, .int v4_3)] []
    refine ga_iload hR (pc := 65) 0 rfl dX10_isKnown_65 ?_
    exact ga_iret hE dX10_isKnown_67 h.1 (ga_ri () rfl h.2)
  · intro h
    obtain ⟨n, h⟩ := h
    have L17 : ∀ (n : Nat) (v4_9 : Int32) (v5_10 : Int32), lp_X10_isKnown_17 x_rules x_places x_without x_ways x_rule x_takes x_behind x_slot x_way p1 p2 r_2 (fun (v4_3 : Int32) => G 0 0 [(a 0, .inr (10, [.int x_rules, .int x_places, .ref (a 1), .ref (a 2), .ref (a 3), .int x_newRules, .int x_newPlaces, .ref (a 4), .ref (a 5), .ref (a 6), .ref (a 7), .ref (a 8), .int x_acts, .int x_kept, .int x_length, .ref (a 9), .int x_next, .int x_place, .int x_isWrong, .ref (a 10), .ref (a 11), .ref (a 12), .int x_parts, .int x_without, .ref (a 13), .ref (a 14), .ref (a 15), .ref (a 16), .int x_ways, .ref (a 17), .ref (a 18), .ref (a 19), .ref (a 20)])), (a 1, .inl (V.2 0, 12, .inl x_rule)), (a 2, .inl (V.2 0, 10, .inl x_takes)), (a 3, .inl (V.2 0, 10, .inl x_behind)), (a 8, .inl (V.2 0, 732, .inl x_slot)), (a 16, .inl (V.2 0, 1024, .inl x_way))] 65 [(4, .int v4_3)] []) n v4_9 v5_10 → G 0 0 [(a 0, .inr (10, [.int x_rules, .int x_places, .ref (a 1), .ref (a 2), .ref (a 3), .int x_newRules, .int x_newPlaces, .ref (a 4), .ref (a 5), .ref (a 6), .ref (a 7), .ref (a 8), .int x_acts, .int x_kept, .int x_length, .ref (a 9), .int x_next, .int x_place, .int x_isWrong, .ref (a 10), .ref (a 11), .ref (a 12), .int x_parts, .int x_without, .ref (a 13), .ref (a 14), .ref (a 15), .ref (a 16), .int x_ways, .ref (a 17), .ref (a 18), .ref (a 19), .ref (a 20)])), (a 1, .inl (V.2 0, 12, .inl x_rule)), (a 2, .inl (V.2 0, 10, .inl x_takes)), (a 3, .inl (V.2 0, 10, .inl x_behind)), (a 8, .inl (V.2 0, 732, .inl x_slot)), (a 16, .inl (V.2 0, 1024, .inl x_way))] 17 [(0, .ref (a 0)), (1, .int p1), (2, .int p2), (3, .int r_2), (4, .int v4_9), (5, .int v5_10)] [] := by
      intro n
      induction n with
      | zero => exact fun _ _ h => False.elim h
      | succ n ih =>
        intro v4_9 v5_10 h
        rw [lp_X10_isKnown_17] at h
        refine ga_iload hR (pc := 17) 5 rfl dX10_isKnown_17 ?_
        refine ga_aload_n hR (pc := 19) 0 rfl rfl dX10_isKnown_19 ?_
        refine ga_get hR (pc := 20) 0 rfl rfl hinX10 28 (by decide) f251 rfl dX10_isKnown_20 ?_
        refine ga_icmp_ge hR (pc := 23) 65 (by decide) dX10_isKnown_23 (fun c23 => ?_) (fun c23 => ?_)
        · replace h := h.1 c23
          exact ga_lv hR [4] rfl h
        · replace h := h.2 c23
          refine ga_iload hR (pc := 26) 4 rfl dX10_isKnown_26 ?_
          refine ga_if_eq hR (pc := 28) 65 (by decide) dX10_isKnown_28 (fun c28 => ?_) (fun c28 => ?_)
          · replace h := h.1 c28
            exact ga_lv hR [4] rfl h
          · replace h := h.2 c28
            refine ga_aload_n hR (pc := 31) 0 rfl rfl dX10_isKnown_31 ?_
            refine ga_aload_n hR (pc := 32) 0 rfl rfl dX10_isKnown_32 ?_
            refine ga_aload_n hR (pc := 33) 0 rfl rfl dX10_isKnown_33 ?_
            refine ga_get hR (pc := 34) 0 rfl rfl hinX10 27 (by decide) f57 rfl dX10_isKnown_34 ?_
            refine ga_iload hR (pc := 37) 5 rfl dX10_isKnown_37 ?_
            refine ga_iald hR (pc := 39) 5 rfl h.1 dX10_isKnown_39 ?_
            replace h := h.2
            refine ga_iload_n hR (pc := 40) 1 rfl rfl dX10_isKnown_40 ?_
            refine ga_callV hR (pc := 41) (As := [.int (x_way v5_10.toNatClampNeg), .int p1]) (rest := [.ref (a 0)]) (st0 := [.int p1, .int (x_way v5_10.toNatClampNeg), .ref (a 0), .ref (a 0)]) (b := (a 0)) 2 (c_X10_behindOne V a x_newRules x_newPlaces x_acts x_kept x_length x_next x_place x_isWrong x_parts x_ways x_rules x_places x_without x_rule x_takes x_behind x_slot (x_way v5_10.toNatClampNeg) p1 _ h) (ga_same_i fun _ => rfl) gX10_isKnown_X10_behindOne rfl rfl rfl hd_X10_behindOne ⟨Nat.le_of_ble_eq_true rfl, Nat.le_of_ble_eq_true rfl⟩ rfl rfl (Nat.le_of_ble_eq_true rfl) ⟨Nat.zero_le _, Nat.zero_le _⟩ [0, 1, 2, 3, 4] rfl rfl 0 rfl rfl dX10_isKnown_41 ?_
            rintro _ _ ⟨r_11, ⟨⟩, rfl, rfl, h⟩
            refine ga_to [(a 0, .inr (10, [.int x_rules, .int x_places, .ref (a 1), .ref (a 2), .ref (a 3), .int x_newRules, .int x_newPlaces, .ref (a 4), .ref (a 5), .ref (a 6), .ref (a 7), .ref (a 8), .int x_acts, .int x_kept, .int x_length, .ref (a 9), .int x_next, .int x_place, .int x_isWrong, .ref (a 10), .ref (a 11), .ref (a 12), .int x_parts, .int x_without, .ref (a 13), .ref (a 14), .ref (a 15), .ref (a 16), .int x_ways, .ref (a 17), .ref (a 18), .ref (a 19), .ref (a 20)])), (a 1, .inl (V.2 0, 12, .inl x_rule)), (a 2, .inl (V.2 0, 10, .inl x_takes)), (a 3, .inl (V.2 0, 10, .inl x_behind)), (a 8, .inl (V.2 0, 732, .inl x_slot)), (a 16, .inl (V.2 0, 1024, .inl x_way))] [.int r_11, .ref (a 0)] rfl rfl ?_
            try dsimp only at h
            refine ga_iload_n hR (pc := 44) 2 rfl rfl dX10_isKnown_44 ?_
            refine ga_callV hR (pc := 45) (As := [.int r_11, .int p2]) (rest := []) (st0 := [.int p2, .int r_11, .ref (a 0)]) (b := (a 0)) 2 (c_X10_behindOne V a x_newRules x_newPlaces x_acts x_kept x_length x_next x_place x_isWrong x_parts x_ways x_rules x_places x_without x_rule x_takes x_behind x_slot r_11 p2 _ h) (ga_same_i fun _ => rfl) gX10_isKnown_X10_behindOne rfl rfl rfl hd_X10_behindOne ⟨Nat.le_of_ble_eq_true rfl, Nat.le_of_ble_eq_true rfl⟩ rfl rfl (Nat.le_of_ble_eq_true rfl) ⟨Nat.zero_le _, Nat.zero_le _⟩ [0, 1, 2, 3, 4] rfl rfl 0 rfl rfl dX10_isKnown_45 ?_
            rintro _ _ ⟨r_12, ⟨⟩, rfl, rfl, h⟩
            refine ga_to [(a 0, .inr (10, [.int x_rules, .int x_places, .ref (a 1), .ref (a 2), .ref (a 3), .int x_newRules, .int x_newPlaces, .ref (a 4), .ref (a 5), .ref (a 6), .ref (a 7), .ref (a 8), .int x_acts, .int x_kept, .int x_length, .ref (a 9), .int x_next, .int x_place, .int x_isWrong, .ref (a 10), .ref (a 11), .ref (a 12), .int x_parts, .int x_without, .ref (a 13), .ref (a 14), .ref (a 15), .ref (a 16), .int x_ways, .ref (a 17), .ref (a 18), .ref (a 19), .ref (a 20)])), (a 1, .inl (V.2 0, 12, .inl x_rule)), (a 2, .inl (V.2 0, 10, .inl x_takes)), (a 3, .inl (V.2 0, 10, .inl x_behind)), (a 8, .inl (V.2 0, 732, .inl x_slot)), (a 16, .inl (V.2 0, 1024, .inl x_way))] [.int r_12] rfl rfl ?_
            try dsimp only at h
            refine ga_iload_n hR (pc := 48) 3 rfl rfl dX10_isKnown_48 ?_
            refine ga_icmp_ne hR (pc := 49) 56 (by decide) dX10_isKnown_49 (fun c49 => ?_) (fun c49 => ?_)
            · replace h := h.1 c49
              refine ga_iconst hR (pc := 56) (v := nI 0) (by decide) dX10_isKnown_56 ?_
              refine ga_istore hR (pc := 57) (lv' := [(4, .int (nI 0)), (0, .ref (a 0)), (1, .int p1), (2, .int p2), (3, .int r_2), (5, .int v5_10)]) (by decide) rfl dX10_isKnown_57 ?_
              obtain ⟨v5_13, ev5_13⟩ : ∃ v : Int32, v = v5_10 + (nI 1) := ⟨_, rfl⟩
              replace h := h v5_13 ev5_13
              refine ga_iinc hR (pc := 59) (lv' := [(5, .int v5_13), (4, .int (nI 0)), (0, .ref (a 0)), (1, .int p1), (2, .int p2), (3, .int r_2)]) 5 (by decide) rfl ev5_13 (by decide) rfl dX10_isKnown_59 ?_
              refine ga_goto hR (pc := 62) 17 (by decide) dX10_isKnown_62 ?_
              exact ga_lv hR [2, 3, 4, 5, 1, 0] rfl (ih _ _ h)
            · replace h := h.2 c49
              refine ga_iconst hR (pc := 52) (v := nI 1) (by decide) dX10_isKnown_52 ?_
              refine ga_goto hR (pc := 53) 57 (by decide) dX10_isKnown_53 ?_
              refine ga_istore hR (pc := 57) (lv' := [(4, .int (nI 1)), (0, .ref (a 0)), (1, .int p1), (2, .int p2), (3, .int r_2), (5, .int v5_10)]) (by decide) rfl dX10_isKnown_57 ?_
              obtain ⟨v5_14, ev5_14⟩ : ∃ v : Int32, v = v5_10 + (nI 1) := ⟨_, rfl⟩
              replace h := h v5_14 ev5_14
              refine ga_iinc hR (pc := 59) (lv' := [(5, .int v5_14), (4, .int (nI 1)), (0, .ref (a 0)), (1, .int p1), (2, .int p2), (3, .int r_2)]) 5 (by decide) rfl ev5_14 (by decide) rfl dX10_isKnown_59 ?_
              refine ga_goto hR (pc := 62) 17 (by decide) dX10_isKnown_62 ?_
              exact ga_lv hR [2, 3, 4, 5, 1, 0] rfl (ih _ _ h)
    exact ga_lv hR [3, 4, 5, 2, 1, 0] rfl (L17 n _ _ h)

def rm_X10_backFrom : Room := { frames := 5, cells := 0, slots := 0, locals := 122 }
theorem hd_X10_backFromS : yX10_backFrom.cls ≠ "java/lang/invoke/MethodHandle" ∧ yX10_backFrom.cls ≠ "java/lang/invoke/VarHandle" ∧ (parseMethodDescriptor yX10_backFrom.desc).map (fun d => d.parameters.length) = some 1 := by decide +kernel
theorem hd_X10_backFrom : yX10_backFrom.cls = RX10 ∧ yX10_backFrom.cls ≠ "java/lang/invoke/MethodHandle" ∧ yX10_backFrom.cls ≠ "java/lang/invoke/VarHandle" ∧ (parseMethodDescriptor yX10_backFrom.desc).map (fun d => d.parameters.length) = some 1 := ⟨rfl, hd_X10_backFromS⟩
set_option maxHeartbeats 4000000 in
set_option maxRecDepth 100000 in
theorem c_X10_backFrom (V : ga_V) (a : Nat → Nat) (x_newRules : Int32) (x_newPlaces : Int32) (x_acts : Int32) (x_kept : Int32) (x_length : Int32) (x_next : Int32) (x_place : Int32) (x_isWrong : Int32) (x_parts : Int32) (x_rules : Int32) (x_places : Int32) (x_without : Int32) (x_ways : Int32) (x_rule : Nat → Int32) (x_takes : Nat → Int32) (x_behind : Nat → Int32) (x_slot : Nat → Int32) (x_way : Nat → Int32) (p1 : Int32) (K : Int32 → Prop) (h : wp_X10_backFrom x_rules x_places x_without x_ways x_rule x_takes x_behind x_slot x_way p1 K) : ga_C V yX10_backFrom wsX10_backFrom rm_X10_backFrom [.ref (a 0), .int p1] [(a 0, .inr (10, [.int x_rules, .int x_places, .ref (a 1), .ref (a 2), .ref (a 3), .int x_newRules, .int x_newPlaces, .ref (a 4), .ref (a 5), .ref (a 6), .ref (a 7), .ref (a 8), .int x_acts, .int x_kept, .int x_length, .ref (a 9), .int x_next, .int x_place, .int x_isWrong, .ref (a 10), .ref (a 11), .ref (a 12), .int x_parts, .int x_without, .ref (a 13), .ref (a 14), .ref (a 15), .ref (a 16), .int x_ways, .ref (a 17), .ref (a 18), .ref (a 19), .ref (a 20)])), (a 1, .inl (V.2 0, 12, .inl x_rule)), (a 2, .inl (V.2 0, 10, .inl x_takes)), (a 3, .inl (V.2 0, 10, .inl x_behind)), (a 8, .inl (V.2 0, 732, .inl x_slot)), (a 16, .inl (V.2 0, 1024, .inl x_way))] 0 0 (ga_Fi (fun (u : Unit) => [(a 0, .inr (10, [.int x_rules, .int x_places, .ref (a 1), .ref (a 2), .ref (a 3), .int x_newRules, .int x_newPlaces, .ref (a 4), .ref (a 5), .ref (a 6), .ref (a 7), .ref (a 8), .int x_acts, .int x_kept, .int x_length, .ref (a 9), .int x_next, .int x_place, .int x_isWrong, .ref (a 10), .ref (a 11), .ref (a 12), .int x_parts, .int x_without, .ref (a 13), .ref (a 14), .ref (a 15), .ref (a 16), .int x_ways, .ref (a 17), .ref (a 18), .ref (a 19), .ref (a 20)])), (a 1, .inl (V.2 0, 12, .inl x_rule)), (a 2, .inl (V.2 0, 10, .inl x_takes)), (a 3, .inl (V.2 0, 10, .inl x_behind)), (a 8, .inl (V.2 0, 732, .inl x_slot)), (a 16, .inl (V.2 0, 1024, .inl x_way))]) (fun r u => K r)) := by
  refine ga_met (cc := cX10_backFrom) (maxL := 3) (rt := (some .int)) (by decide) rfl [(0, .ref (a 0)), (1, .int p1)] rfl (Nat.le_of_ble_eq_true rfl) ?_
  intro G hR hE
  have hinX10 : ∀ w ∈ u_ws RX10 TX10 33, w ∈ wsX10_backFrom := by decide +kernel
  have f31 : Cond.fieldLink RX10 31 "BoundaryRulesModel" "slot" "[I" ∈ wsX10_backFrom := by decide +kernel
  unfold wp_X10_backFrom at h
  refine ga_iload_n hR (pc := 0) 1 rfl rfl dX10_backFrom_0 ?_
  refine ga_istore_n hR (pc := 1) (lv' := [(2, .int p1), (0, .ref (a 0)), (1, .int p1)]) rfl (by decide) rfl dX10_backFrom_1 ?_
  have hJ := h (fun (v2_1 : Int32) => G 0 0 [(a 0, .inr (10, [.int x_rules, .int x_places, .ref (a 1), .ref (a 2), .ref (a 3), .int x_newRules, .int x_newPlaces, .ref (a 4), .ref (a 5), .ref (a 6), .ref (a 7), .ref (a 8), .int x_acts, .int x_kept, .int x_length, .ref (a 9), .int x_next, .int x_place, .int x_isWrong, .ref (a 10), .ref (a 11), .ref (a 12), .int x_parts, .int x_without, .ref (a 13), .ref (a 14), .ref (a 15), .ref (a 16), .int x_ways, .ref (a 17), .ref (a 18), .ref (a 19), .ref (a 20)])), (a 1, .inl (V.2 0, 12, .inl x_rule)), (a 2, .inl (V.2 0, 10, .inl x_takes)), (a 3, .inl (V.2 0, 10, .inl x_behind)), (a 8, .inl (V.2 0, 732, .inl x_slot)), (a 16, .inl (V.2 0, 1024, .inl x_way))] 50 [(2, .int v2_1)] [])
  refine ga_bind hJ ?_ ?_
  · intro v2_1 h
    show G 0 0 [(a 0, .inr (10, [.int x_rules, .int x_places, .ref (a 1), .ref (a 2), .ref (a 3), .int x_newRules, .int x_newPlaces, .ref (a 4), .ref (a 5), .ref (a 6), .ref (a 7), .ref (a 8), .int x_acts, .int x_kept, .int x_length, .ref (a 9), .int x_next, .int x_place, .int x_isWrong, .ref (a 10), .ref (a 11), .ref (a 12), .int x_parts, .int x_without, .ref (a 13), .ref (a 14), .ref (a 15), .ref (a 16), .int x_ways, .ref (a 17), .ref (a 18), .ref (a 19), .ref (a 20)])), (a 1, .inl (V.2 0, 12, .inl x_rule)), (a 2, .inl (V.2 0, 10, .inl x_takes)), (a 3, .inl (V.2 0, 10, .inl x_behind)), (a 8, .inl (V.2 0, 732, .inl x_slot)), (a 16, .inl (V.2 0, 1024, .inl x_way))] 50 [(2, .int v2_1)] []
    refine ga_iload_n hR (pc := 50) 0 rfl rfl dX10_backFrom_50 ?_
    exact ga_iret hE dX10_backFrom_51 rfl (ga_ri () rfl h)
  · intro h
    have hJ := h (G 0 0 [(a 0, .inr (10, [.int x_rules, .int x_places, .ref (a 1), .ref (a 2), .ref (a 3), .int x_newRules, .int x_newPlaces, .ref (a 4), .ref (a 5), .ref (a 6), .ref (a 7), .ref (a 8), .int x_acts, .int x_kept, .int x_length, .ref (a 9), .int x_next, .int x_place, .int x_isWrong, .ref (a 10), .ref (a 11), .ref (a 12), .int x_parts, .int x_without, .ref (a 13), .ref (a 14), .ref (a 15), .ref (a 16), .int x_ways, .ref (a 17), .ref (a 18), .ref (a 19), .ref (a 20)])), (a 1, .inl (V.2 0, 12, .inl x_rule)), (a 2, .inl (V.2 0, 10, .inl x_takes)), (a 3, .inl (V.2 0, 10, .inl x_behind)), (a 8, .inl (V.2 0, 732, .inl x_slot)), (a 16, .inl (V.2 0, 1024, .inl x_way))] 58 [] [])
    refine ga_bind hJ ?_ ?_
    · intro h
      show G 0 0 [(a 0, .inr (10, [.int x_rules, .int x_places, .ref (a 1), .ref (a 2), .ref (a 3), .int x_newRules, .int x_newPlaces, .ref (a 4), .ref (a 5), .ref (a 6), .ref (a 7), .ref (a 8), .int x_acts, .int x_kept, .int x_length, .ref (a 9), .int x_next, .int x_place, .int x_isWrong, .ref (a 10), .ref (a 11), .ref (a 12), .int x_parts, .int x_without, .ref (a 13), .ref (a 14), .ref (a 15), .ref (a 16), .int x_ways, .ref (a 17), .ref (a 18), .ref (a 19), .ref (a 20)])), (a 1, .inl (V.2 0, 12, .inl x_rule)), (a 2, .inl (V.2 0, 10, .inl x_takes)), (a 3, .inl (V.2 0, 10, .inl x_behind)), (a 8, .inl (V.2 0, 732, .inl x_slot)), (a 16, .inl (V.2 0, 1024, .inl x_way))] 58 [] []
      refine ga_iconst hR (pc := 58) (v := nI 0) (by decide) dX10_backFrom_58 ?_
      exact ga_iret hE dX10_backFrom_59 rfl (ga_ri () rfl h)
    · intro h
      obtain ⟨n, h⟩ := h
      have L2 : ∀ (n : Nat) (v2_7 : Int32), lp_X10_backFrom_2 x_rules x_places x_without x_ways x_rule x_takes x_behind x_slot x_way (fun (v2_1 : Int32) => G 0 0 [(a 0, .inr (10, [.int x_rules, .int x_places, .ref (a 1), .ref (a 2), .ref (a 3), .int x_newRules, .int x_newPlaces, .ref (a 4), .ref (a 5), .ref (a 6), .ref (a 7), .ref (a 8), .int x_acts, .int x_kept, .int x_length, .ref (a 9), .int x_next, .int x_place, .int x_isWrong, .ref (a 10), .ref (a 11), .ref (a 12), .int x_parts, .int x_without, .ref (a 13), .ref (a 14), .ref (a 15), .ref (a 16), .int x_ways, .ref (a 17), .ref (a 18), .ref (a 19), .ref (a 20)])), (a 1, .inl (V.2 0, 12, .inl x_rule)), (a 2, .inl (V.2 0, 10, .inl x_takes)), (a 3, .inl (V.2 0, 10, .inl x_behind)), (a 8, .inl (V.2 0, 732, .inl x_slot)), (a 16, .inl (V.2 0, 1024, .inl x_way))] 50 [(2, .int v2_1)] []) (G 0 0 [(a 0, .inr (10, [.int x_rules, .int x_places, .ref (a 1), .ref (a 2), .ref (a 3), .int x_newRules, .int x_newPlaces, .ref (a 4), .ref (a 5), .ref (a 6), .ref (a 7), .ref (a 8), .int x_acts, .int x_kept, .int x_length, .ref (a 9), .int x_next, .int x_place, .int x_isWrong, .ref (a 10), .ref (a 11), .ref (a 12), .int x_parts, .int x_without, .ref (a 13), .ref (a 14), .ref (a 15), .ref (a 16), .int x_ways, .ref (a 17), .ref (a 18), .ref (a 19), .ref (a 20)])), (a 1, .inl (V.2 0, 12, .inl x_rule)), (a 2, .inl (V.2 0, 10, .inl x_takes)), (a 3, .inl (V.2 0, 10, .inl x_behind)), (a 8, .inl (V.2 0, 732, .inl x_slot)), (a 16, .inl (V.2 0, 1024, .inl x_way))] 58 [] []) n v2_7 → G 0 0 [(a 0, .inr (10, [.int x_rules, .int x_places, .ref (a 1), .ref (a 2), .ref (a 3), .int x_newRules, .int x_newPlaces, .ref (a 4), .ref (a 5), .ref (a 6), .ref (a 7), .ref (a 8), .int x_acts, .int x_kept, .int x_length, .ref (a 9), .int x_next, .int x_place, .int x_isWrong, .ref (a 10), .ref (a 11), .ref (a 12), .int x_parts, .int x_without, .ref (a 13), .ref (a 14), .ref (a 15), .ref (a 16), .int x_ways, .ref (a 17), .ref (a 18), .ref (a 19), .ref (a 20)])), (a 1, .inl (V.2 0, 12, .inl x_rule)), (a 2, .inl (V.2 0, 10, .inl x_takes)), (a 3, .inl (V.2 0, 10, .inl x_behind)), (a 8, .inl (V.2 0, 732, .inl x_slot)), (a 16, .inl (V.2 0, 1024, .inl x_way))] 2 [(0, .ref (a 0)), (2, .int v2_7)] [] := by
        intro n
        induction n with
        | zero => exact fun _ h => False.elim h
        | succ n ih =>
          intro v2_7 h
          rw [lp_X10_backFrom_2] at h
          refine ga_iload_n hR (pc := 2) 1 rfl rfl dX10_backFrom_2 ?_
          refine ga_if_le hR (pc := 3) 58 (by decide) dX10_backFrom_3 (fun c3 => ?_) (fun c3 => ?_)
          · replace h := h.1 c3
            exact ga_lv hR [] rfl h
          · replace h := h.2 c3
            refine ga_iload_n hR (pc := 6) 1 rfl rfl dX10_backFrom_6 ?_
            refine ga_iconst hR (pc := 7) (v := nI 1) (by decide) dX10_backFrom_7 ?_
            refine ga_icmp_le hR (pc := 8) 52 (by decide) dX10_backFrom_8 (fun c8 => ?_) (fun c8 => ?_)
            · replace h := h.1 c8
              obtain ⟨v2_8, ev2_8⟩ : ∃ v : Int32, v = v2_7 + (-1) := ⟨_, rfl⟩
              replace h := h v2_8 ev2_8
              refine ga_iinc hR (pc := 52) (lv' := [(2, .int v2_8), (0, .ref (a 0))]) 1 (by decide) rfl ev2_8 (by decide) rfl dX10_backFrom_52 ?_
              refine ga_goto hR (pc := 55) 2 (by decide) dX10_backFrom_55 ?_
              exact ga_lv hR [1, 0] rfl (ih _ h)
            · replace h := h.2 c8
              refine ga_aload_n hR (pc := 11) 0 rfl rfl dX10_backFrom_11 ?_
              refine ga_aload_n hR (pc := 12) 0 rfl rfl dX10_backFrom_12 ?_
              refine ga_get hR (pc := 13) 0 rfl rfl hinX10 11 (by decide) f31 rfl dX10_backFrom_13 ?_
              refine ga_aload_n hR (pc := 16) 0 rfl rfl dX10_backFrom_16 ?_
              refine ga_get hR (pc := 17) 0 rfl rfl hinX10 11 (by decide) f31 rfl dX10_backFrom_17 ?_
              refine ga_bipush hR (pc := 20) (v := nI 31) (by decide) dX10_backFrom_20 ?_
              refine ga_iload_n hR (pc := 22) 1 rfl rfl dX10_backFrom_22 ?_
              refine ga_iadd hR (pc := 23) dX10_backFrom_23 ?_
              refine ga_iconst hR (pc := 24) (v := nI 2) (by decide) dX10_backFrom_24 ?_
              refine ga_isub hR (pc := 25) dX10_backFrom_25 ?_
              refine ga_iald hR (pc := 26) 4 rfl h.1 dX10_backFrom_26 ?_
              replace h := h.2
              refine ga_iald hR (pc := 27) 4 rfl h.1 dX10_backFrom_27 ?_
              replace h := h.2
              refine ga_aload_n hR (pc := 28) 0 rfl rfl dX10_backFrom_28 ?_
              refine ga_get hR (pc := 29) 0 rfl rfl hinX10 11 (by decide) f31 rfl dX10_backFrom_29 ?_
              refine ga_aload_n hR (pc := 32) 0 rfl rfl dX10_backFrom_32 ?_
              refine ga_get hR (pc := 33) 0 rfl rfl hinX10 11 (by decide) f31 rfl dX10_backFrom_33 ?_
              refine ga_bipush hR (pc := 36) (v := nI 31) (by decide) dX10_backFrom_36 ?_
              refine ga_iload_n hR (pc := 38) 1 rfl rfl dX10_backFrom_38 ?_
              refine ga_iadd hR (pc := 39) dX10_backFrom_39 ?_
              refine ga_iconst hR (pc := 40) (v := nI 1) (by decide) dX10_backFrom_40 ?_
              refine ga_isub hR (pc := 41) dX10_backFrom_41 ?_
              refine ga_iald hR (pc := 42) 4 rfl h.1 dX10_backFrom_42 ?_
              replace h := h.2
              refine ga_iald hR (pc := 43) 4 rfl h.1 dX10_backFrom_43 ?_
              replace h := h.2
              refine ga_callV hR (pc := 44) (As := [.int (x_slot (x_slot (((nI 31) + v2_7) - (nI 2)).toNatClampNeg).toNatClampNeg), .int (x_slot (x_slot (((nI 31) + v2_7) - (nI 1)).toNatClampNeg).toNatClampNeg)]) (rest := []) (st0 := [.int (x_slot (x_slot (((nI 31) + v2_7) - (nI 1)).toNatClampNeg).toNatClampNeg), .int (x_slot (x_slot (((nI 31) + v2_7) - (nI 2)).toNatClampNeg).toNatClampNeg), .ref (a 0)]) (b := (a 0)) 2 (c_X10_isKnown V a x_newRules x_newPlaces x_acts x_kept x_length x_next x_place x_isWrong x_parts x_rules x_places x_without x_ways x_rule x_takes x_behind x_slot x_way (x_slot (x_slot (((nI 31) + v2_7) - (nI 2)).toNatClampNeg).toNatClampNeg) (x_slot (x_slot (((nI 31) + v2_7) - (nI 1)).toNatClampNeg).toNatClampNeg) _ h) (ga_same_i fun _ => rfl) gX10_backFrom_X10_isKnown rfl rfl rfl hd_X10_isKnown ⟨Nat.le_of_ble_eq_true rfl, Nat.le_of_ble_eq_true rfl⟩ rfl rfl (Nat.le_of_ble_eq_true rfl) ⟨Nat.zero_le _, Nat.zero_le _⟩ [0, 1, 2, 3, 4, 5] rfl rfl 0 rfl rfl dX10_backFrom_44 ?_
              rintro _ _ ⟨r_9, ⟨⟩, rfl, rfl, h⟩
              refine ga_to [(a 0, .inr (10, [.int x_rules, .int x_places, .ref (a 1), .ref (a 2), .ref (a 3), .int x_newRules, .int x_newPlaces, .ref (a 4), .ref (a 5), .ref (a 6), .ref (a 7), .ref (a 8), .int x_acts, .int x_kept, .int x_length, .ref (a 9), .int x_next, .int x_place, .int x_isWrong, .ref (a 10), .ref (a 11), .ref (a 12), .int x_parts, .int x_without, .ref (a 13), .ref (a 14), .ref (a 15), .ref (a 16), .int x_ways, .ref (a 17), .ref (a 18), .ref (a 19), .ref (a 20)])), (a 1, .inl (V.2 0, 12, .inl x_rule)), (a 2, .inl (V.2 0, 10, .inl x_takes)), (a 3, .inl (V.2 0, 10, .inl x_behind)), (a 8, .inl (V.2 0, 732, .inl x_slot)), (a 16, .inl (V.2 0, 1024, .inl x_way))] [.int r_9] rfl rfl ?_
              try dsimp only at h
              refine ga_if_eq hR (pc := 47) 52 (by decide) dX10_backFrom_47 (fun c47 => ?_) (fun c47 => ?_)
              · replace h := h.1 c47
                obtain ⟨v2_10, ev2_10⟩ : ∃ v : Int32, v = v2_7 + (-1) := ⟨_, rfl⟩
                replace h := h v2_10 ev2_10
                refine ga_iinc hR (pc := 52) (lv' := [(2, .int v2_10), (0, .ref (a 0))]) 1 (by decide) rfl ev2_10 (by decide) rfl dX10_backFrom_52 ?_
                refine ga_goto hR (pc := 55) 2 (by decide) dX10_backFrom_55 ?_
                exact ga_lv hR [1, 0] rfl (ih _ h)
              · replace h := h.2 c47
                exact ga_lv hR [1] rfl h
      exact ga_lv hR [1, 0] rfl (L2 n _ h)

def rm_X10_fours : Room := { frames := 0, cells := 0, slots := 0, locals := 0 }
theorem hd_X10_foursS : yX10_fours.cls ≠ "java/lang/invoke/MethodHandle" ∧ yX10_fours.cls ≠ "java/lang/invoke/VarHandle" ∧ (parseMethodDescriptor yX10_fours.desc).map (fun d => d.parameters.length) = some 0 := by decide +kernel
theorem hd_X10_fours : yX10_fours.cls = RX10 ∧ yX10_fours.cls ≠ "java/lang/invoke/MethodHandle" ∧ yX10_fours.cls ≠ "java/lang/invoke/VarHandle" ∧ (parseMethodDescriptor yX10_fours.desc).map (fun d => d.parameters.length) = some 0 := ⟨rfl, hd_X10_foursS⟩
set_option maxHeartbeats 4000000 in
set_option maxRecDepth 100000 in
theorem c_X10_fours (V : ga_V) (a : Nat → Nat) (x_rules : Int32) (x_places : Int32) (x_newRules : Int32) (x_newPlaces : Int32) (x_acts : Int32) (x_kept : Int32) (x_length : Int32) (x_next : Int32) (x_place : Int32) (x_isWrong : Int32) (x_parts : Int32) (x_without : Int32) (x_ways : Int32) (x_slot : Nat → Int32) (K : Int32 → Prop) (h : wp_X10_fours x_slot K) : ga_C V yX10_fours wsX10_fours rm_X10_fours [.ref (a 0)] [(a 0, .inr (10, [.int x_rules, .int x_places, .ref (a 1), .ref (a 2), .ref (a 3), .int x_newRules, .int x_newPlaces, .ref (a 4), .ref (a 5), .ref (a 6), .ref (a 7), .ref (a 8), .int x_acts, .int x_kept, .int x_length, .ref (a 9), .int x_next, .int x_place, .int x_isWrong, .ref (a 10), .ref (a 11), .ref (a 12), .int x_parts, .int x_without, .ref (a 13), .ref (a 14), .ref (a 15), .ref (a 16), .int x_ways, .ref (a 17), .ref (a 18), .ref (a 19), .ref (a 20)])), (a 8, .inl (V.2 0, 732, .inl x_slot))] 0 0 (ga_Fi (fun (u : Unit) => [(a 0, .inr (10, [.int x_rules, .int x_places, .ref (a 1), .ref (a 2), .ref (a 3), .int x_newRules, .int x_newPlaces, .ref (a 4), .ref (a 5), .ref (a 6), .ref (a 7), .ref (a 8), .int x_acts, .int x_kept, .int x_length, .ref (a 9), .int x_next, .int x_place, .int x_isWrong, .ref (a 10), .ref (a 11), .ref (a 12), .int x_parts, .int x_without, .ref (a 13), .ref (a 14), .ref (a 15), .ref (a 16), .int x_ways, .ref (a 17), .ref (a 18), .ref (a 19), .ref (a 20)])), (a 8, .inl (V.2 0, 732, .inl x_slot))]) (fun r u => K r)) := by
  refine ga_met (cc := cX10_fours) (maxL := 8) (rt := (some .int)) (by decide) rfl [(0, .ref (a 0))] rfl (Nat.le_of_ble_eq_true rfl) ?_
  intro G hR hE
  have hinX10 : ∀ w ∈ u_ws RX10 TX10 33, w ∈ wsX10_fours := by decide +kernel
  have f31 : Cond.fieldLink RX10 31 "BoundaryRulesModel" "slot" "[I" ∈ wsX10_fours := by decide +kernel
  unfold wp_X10_fours at h
  refine ga_iconst hR (pc := 0) (v := nI 0) (by decide) dX10_fours_0 ?_
  refine ga_istore_n hR (pc := 1) (lv' := [(1, .int (nI 0)), (0, .ref (a 0))]) rfl (by decide) rfl dX10_fours_1 ?_
  refine ga_iconst hR (pc := 2) (v := nI 0) (by decide) dX10_fours_2 ?_
  refine ga_istore_n hR (pc := 3) (lv' := [(2, .int (nI 0)), (1, .int (nI 0)), (0, .ref (a 0))]) rfl (by decide) rfl dX10_fours_3 ?_
  have hJ := h (fun (v1_1 : Int32) => G 0 0 [(a 0, .inr (10, [.int x_rules, .int x_places, .ref (a 1), .ref (a 2), .ref (a 3), .int x_newRules, .int x_newPlaces, .ref (a 4), .ref (a 5), .ref (a 6), .ref (a 7), .ref (a 8), .int x_acts, .int x_kept, .int x_length, .ref (a 9), .int x_next, .int x_place, .int x_isWrong, .ref (a 10), .ref (a 11), .ref (a 12), .int x_parts, .int x_without, .ref (a 13), .ref (a 14), .ref (a 15), .ref (a 16), .int x_ways, .ref (a 17), .ref (a 18), .ref (a 19), .ref (a 20)])), (a 8, .inl (V.2 0, 732, .inl x_slot))] 135 [(1, .int v1_1)] [])
  refine ga_bind hJ ?_ ?_
  · intro v1_1 h
    show G 0 0 [(a 0, .inr (10, [.int x_rules, .int x_places, .ref (a 1), .ref (a 2), .ref (a 3), .int x_newRules, .int x_newPlaces, .ref (a 4), .ref (a 5), .ref (a 6), .ref (a 7), .ref (a 8), .int x_acts, .int x_kept, .int x_length, .ref (a 9), .int x_next, .int x_place, .int x_isWrong, .ref (a 10), .ref (a 11), .ref (a 12), .int x_parts, .int x_without, .ref (a 13), .ref (a 14), .ref (a 15), .ref (a 16), .int x_ways, .ref (a 17), .ref (a 18), .ref (a 19), .ref (a 20)])), (a 8, .inl (V.2 0, 732, .inl x_slot))] 135 [(1, .int v1_1)] []
    refine ga_iload_n hR (pc := 135) 0 rfl rfl dX10_fours_135 ?_
    exact ga_iret hE dX10_fours_136 rfl (ga_ri () rfl h)
  · intro h
    obtain ⟨n, h⟩ := h
    have L4 : ∀ (n : Nat) (v1_38 : Int32) (v2_39 : Int32), lp_X10_fours_4 x_slot (fun (v1_1 : Int32) => G 0 0 [(a 0, .inr (10, [.int x_rules, .int x_places, .ref (a 1), .ref (a 2), .ref (a 3), .int x_newRules, .int x_newPlaces, .ref (a 4), .ref (a 5), .ref (a 6), .ref (a 7), .ref (a 8), .int x_acts, .int x_kept, .int x_length, .ref (a 9), .int x_next, .int x_place, .int x_isWrong, .ref (a 10), .ref (a 11), .ref (a 12), .int x_parts, .int x_without, .ref (a 13), .ref (a 14), .ref (a 15), .ref (a 16), .int x_ways, .ref (a 17), .ref (a 18), .ref (a 19), .ref (a 20)])), (a 8, .inl (V.2 0, 732, .inl x_slot))] 135 [(1, .int v1_1)] []) n v1_38 v2_39 → G 0 0 [(a 0, .inr (10, [.int x_rules, .int x_places, .ref (a 1), .ref (a 2), .ref (a 3), .int x_newRules, .int x_newPlaces, .ref (a 4), .ref (a 5), .ref (a 6), .ref (a 7), .ref (a 8), .int x_acts, .int x_kept, .int x_length, .ref (a 9), .int x_next, .int x_place, .int x_isWrong, .ref (a 10), .ref (a 11), .ref (a 12), .int x_parts, .int x_without, .ref (a 13), .ref (a 14), .ref (a 15), .ref (a 16), .int x_ways, .ref (a 17), .ref (a 18), .ref (a 19), .ref (a 20)])), (a 8, .inl (V.2 0, 732, .inl x_slot))] 4 [(0, .ref (a 0)), (1, .int v1_38), (2, .int v2_39)] [] := by
      intro n
      induction n with
      | zero => exact fun _ _ h => False.elim h
      | succ n ih =>
        intro v1_38 v2_39 h
        rw [lp_X10_fours_4] at h
        refine ga_iload_n hR (pc := 4) 2 rfl rfl dX10_fours_4 ?_
        refine ga_bipush hR (pc := 5) (v := nI 7) (by decide) dX10_fours_5 ?_
        refine ga_icmp_ge hR (pc := 7) 135 (by decide) dX10_fours_7 (fun c7 => ?_) (fun c7 => ?_)
        · replace h := h.1 c7
          exact ga_lv hR [1] rfl h
        · replace h := h.2 c7
          refine ga_iconst hR (pc := 10) (v := nI 1) (by decide) dX10_fours_10 ?_
          refine ga_istore_n hR (pc := 11) (lv' := [(3, .int (nI 1)), (0, .ref (a 0)), (1, .int v1_38), (2, .int v2_39)]) rfl (by decide) rfl dX10_fours_11 ?_
          refine ga_iconst hR (pc := 12) (v := nI 0) (by decide) dX10_fours_12 ?_
          refine ga_istore hR (pc := 13) (lv' := [(4, .int (nI 0)), (3, .int (nI 1)), (0, .ref (a 0)), (1, .int v1_38), (2, .int v2_39)]) (by decide) rfl dX10_fours_13 ?_
          have hJ := h (fun (v3_40 : Int32) => G 0 0 [(a 0, .inr (10, [.int x_rules, .int x_places, .ref (a 1), .ref (a 2), .ref (a 3), .int x_newRules, .int x_newPlaces, .ref (a 4), .ref (a 5), .ref (a 6), .ref (a 7), .ref (a 8), .int x_acts, .int x_kept, .int x_length, .ref (a 9), .int x_next, .int x_place, .int x_isWrong, .ref (a 10), .ref (a 11), .ref (a 12), .int x_parts, .int x_without, .ref (a 13), .ref (a 14), .ref (a 15), .ref (a 16), .int x_ways, .ref (a 17), .ref (a 18), .ref (a 19), .ref (a 20)])), (a 8, .inl (V.2 0, 732, .inl x_slot))] 117 [(0, .ref (a 0)), (1, .int v1_38), (2, .int v2_39), (3, .int v3_40)] [])
          refine ga_bind hJ ?_ ?_
          · intro v3_40 h
            show G 0 0 [(a 0, .inr (10, [.int x_rules, .int x_places, .ref (a 1), .ref (a 2), .ref (a 3), .int x_newRules, .int x_newPlaces, .ref (a 4), .ref (a 5), .ref (a 6), .ref (a 7), .ref (a 8), .int x_acts, .int x_kept, .int x_length, .ref (a 9), .int x_next, .int x_place, .int x_isWrong, .ref (a 10), .ref (a 11), .ref (a 12), .int x_parts, .int x_without, .ref (a 13), .ref (a 14), .ref (a 15), .ref (a 16), .int x_ways, .ref (a 17), .ref (a 18), .ref (a 19), .ref (a 20)])), (a 8, .inl (V.2 0, 732, .inl x_slot))] 117 [(0, .ref (a 0)), (1, .int v1_38), (2, .int v2_39), (3, .int v3_40)] []
            refine ga_iload_n hR (pc := 117) 1 rfl rfl dX10_fours_117 ?_
            refine ga_iload_n hR (pc := 118) 3 rfl rfl dX10_fours_118 ?_
            refine ga_if_eq hR (pc := 119) 126 (by decide) dX10_fours_119 (fun c119 => ?_) (fun c119 => ?_)
            · replace h := h.1 c119
              refine ga_iconst hR (pc := 126) (v := nI 0) (by decide) dX10_fours_126 ?_
              refine ga_iadd hR (pc := 127) dX10_fours_127 ?_
              refine ga_topi (fun v1_42 ev1_42 => ?_)
              replace h := h v1_42 ev1_42
              refine ga_istore_n hR (pc := 128) (lv' := [(1, .int v1_42), (0, .ref (a 0)), (2, .int v2_39), (3, .int v3_40)]) rfl (by decide) rfl dX10_fours_128 ?_
              obtain ⟨v2_43, ev2_43⟩ : ∃ v : Int32, v = v2_39 + (nI 1) := ⟨_, rfl⟩
              replace h := h v2_43 ev2_43
              refine ga_iinc hR (pc := 129) (lv' := [(2, .int v2_43), (1, .int v1_42), (0, .ref (a 0)), (3, .int v3_40)]) 2 (by decide) rfl ev2_43 (by decide) rfl dX10_fours_129 ?_
              refine ga_goto hR (pc := 132) 4 (by decide) dX10_fours_132 ?_
              exact ga_lv hR [2, 1, 0] rfl (ih _ _ h)
            · replace h := h.2 c119
              refine ga_iconst hR (pc := 122) (v := nI 1) (by decide) dX10_fours_122 ?_
              refine ga_goto hR (pc := 123) 127 (by decide) dX10_fours_123 ?_
              refine ga_iadd hR (pc := 127) dX10_fours_127 ?_
              refine ga_topi (fun v1_44 ev1_44 => ?_)
              replace h := h v1_44 ev1_44
              refine ga_istore_n hR (pc := 128) (lv' := [(1, .int v1_44), (0, .ref (a 0)), (2, .int v2_39), (3, .int v3_40)]) rfl (by decide) rfl dX10_fours_128 ?_
              obtain ⟨v2_45, ev2_45⟩ : ∃ v : Int32, v = v2_39 + (nI 1) := ⟨_, rfl⟩
              replace h := h v2_45 ev2_45
              refine ga_iinc hR (pc := 129) (lv' := [(2, .int v2_45), (1, .int v1_44), (0, .ref (a 0)), (3, .int v3_40)]) 2 (by decide) rfl ev2_45 (by decide) rfl dX10_fours_129 ?_
              refine ga_goto hR (pc := 132) 4 (by decide) dX10_fours_132 ?_
              exact ga_lv hR [2, 1, 0] rfl (ih _ _ h)
          · intro h
            obtain ⟨n, h⟩ := h
            have L15 : ∀ (n : Nat) (v3_46 : Int32) (v4_47 : Int32), lp_X10_fours_15 x_slot v2_39 (fun (v3_40 : Int32) => G 0 0 [(a 0, .inr (10, [.int x_rules, .int x_places, .ref (a 1), .ref (a 2), .ref (a 3), .int x_newRules, .int x_newPlaces, .ref (a 4), .ref (a 5), .ref (a 6), .ref (a 7), .ref (a 8), .int x_acts, .int x_kept, .int x_length, .ref (a 9), .int x_next, .int x_place, .int x_isWrong, .ref (a 10), .ref (a 11), .ref (a 12), .int x_parts, .int x_without, .ref (a 13), .ref (a 14), .ref (a 15), .ref (a 16), .int x_ways, .ref (a 17), .ref (a 18), .ref (a 19), .ref (a 20)])), (a 8, .inl (V.2 0, 732, .inl x_slot))] 117 [(0, .ref (a 0)), (1, .int v1_38), (2, .int v2_39), (3, .int v3_40)] []) n v3_46 v4_47 → G 0 0 [(a 0, .inr (10, [.int x_rules, .int x_places, .ref (a 1), .ref (a 2), .ref (a 3), .int x_newRules, .int x_newPlaces, .ref (a 4), .ref (a 5), .ref (a 6), .ref (a 7), .ref (a 8), .int x_acts, .int x_kept, .int x_length, .ref (a 9), .int x_next, .int x_place, .int x_isWrong, .ref (a 10), .ref (a 11), .ref (a 12), .int x_parts, .int x_without, .ref (a 13), .ref (a 14), .ref (a 15), .ref (a 16), .int x_ways, .ref (a 17), .ref (a 18), .ref (a 19), .ref (a 20)])), (a 8, .inl (V.2 0, 732, .inl x_slot))] 15 [(0, .ref (a 0)), (1, .int v1_38), (2, .int v2_39), (3, .int v3_46), (4, .int v4_47)] [] := by
              intro n
              induction n with
              | zero => exact fun _ _ h => False.elim h
              | succ n ih =>
                intro v3_46 v4_47 h
                rw [lp_X10_fours_15] at h
                refine ga_iload hR (pc := 15) 4 rfl dX10_fours_15 ?_
                refine ga_iload_n hR (pc := 17) 2 rfl rfl dX10_fours_17 ?_
                refine ga_icmp_ge hR (pc := 18) 117 (by decide) dX10_fours_18 (fun c18 => ?_) (fun c18 => ?_)
                · replace h := h.1 c18
                  exact ga_lv hR [0, 1, 2, 3] rfl h
                · replace h := h.2 c18
                  refine ga_iload_n hR (pc := 21) 3 rfl rfl dX10_fours_21 ?_
                  refine ga_if_eq hR (pc := 22) 117 (by decide) dX10_fours_22 (fun c22 => ?_) (fun c22 => ?_)
                  · replace h := h.1 c22
                    exact ga_lv hR [0, 1, 2, 3] rfl h
                  · replace h := h.2 c22
                    refine ga_iconst hR (pc := 25) (v := nI 1) (by decide) dX10_fours_25 ?_
                    refine ga_istore hR (pc := 26) (lv' := [(5, .int (nI 1)), (0, .ref (a 0)), (1, .int v1_38), (2, .int v2_39), (3, .int v3_46), (4, .int v4_47)]) (by decide) rfl dX10_fours_26 ?_
                    refine ga_iconst hR (pc := 28) (v := nI 0) (by decide) dX10_fours_28 ?_
                    refine ga_istore hR (pc := 29) (lv' := [(6, .int (nI 0)), (5, .int (nI 1)), (0, .ref (a 0)), (1, .int v1_38), (2, .int v2_39), (3, .int v3_46), (4, .int v4_47)]) (by decide) rfl dX10_fours_29 ?_
                    have hJ := h (fun (v5_48 : Int32) => G 0 0 [(a 0, .inr (10, [.int x_rules, .int x_places, .ref (a 1), .ref (a 2), .ref (a 3), .int x_newRules, .int x_newPlaces, .ref (a 4), .ref (a 5), .ref (a 6), .ref (a 7), .ref (a 8), .int x_acts, .int x_kept, .int x_length, .ref (a 9), .int x_next, .int x_place, .int x_isWrong, .ref (a 10), .ref (a 11), .ref (a 12), .int x_parts, .int x_without, .ref (a 13), .ref (a 14), .ref (a 15), .ref (a 16), .int x_ways, .ref (a 17), .ref (a 18), .ref (a 19), .ref (a 20)])), (a 8, .inl (V.2 0, 732, .inl x_slot))] 100 [(0, .ref (a 0)), (1, .int v1_38), (2, .int v2_39), (4, .int v4_47), (5, .int v5_48)] [])
                    refine ga_bind hJ ?_ ?_
                    · intro v5_48 h
                      show G 0 0 [(a 0, .inr (10, [.int x_rules, .int x_places, .ref (a 1), .ref (a 2), .ref (a 3), .int x_newRules, .int x_newPlaces, .ref (a 4), .ref (a 5), .ref (a 6), .ref (a 7), .ref (a 8), .int x_acts, .int x_kept, .int x_length, .ref (a 9), .int x_next, .int x_place, .int x_isWrong, .ref (a 10), .ref (a 11), .ref (a 12), .int x_parts, .int x_without, .ref (a 13), .ref (a 14), .ref (a 15), .ref (a 16), .int x_ways, .ref (a 17), .ref (a 18), .ref (a 19), .ref (a 20)])), (a 8, .inl (V.2 0, 732, .inl x_slot))] 100 [(0, .ref (a 0)), (1, .int v1_38), (2, .int v2_39), (4, .int v4_47), (5, .int v5_48)] []
                      refine ga_iload hR (pc := 100) 4 rfl dX10_fours_100 ?_
                      refine ga_if_ne hR (pc := 102) 109 (by decide) dX10_fours_102 (fun c102 => ?_) (fun c102 => ?_)
                      · replace h := h.1 c102
                        refine ga_iconst hR (pc := 109) (v := nI 0) (by decide) dX10_fours_109 ?_
                        refine ga_istore_n hR (pc := 110) (lv' := [(3, .int (nI 0)), (0, .ref (a 0)), (1, .int v1_38), (2, .int v2_39), (4, .int v4_47), (5, .int v5_48)]) rfl (by decide) rfl dX10_fours_110 ?_
                        obtain ⟨v4_50, ev4_50⟩ : ∃ v : Int32, v = v4_47 + (nI 1) := ⟨_, rfl⟩
                        replace h := h v4_50 ev4_50
                        refine ga_iinc hR (pc := 111) (lv' := [(4, .int v4_50), (3, .int (nI 0)), (0, .ref (a 0)), (1, .int v1_38), (2, .int v2_39), (5, .int v5_48)]) 4 (by decide) rfl ev4_50 (by decide) rfl dX10_fours_111 ?_
                        refine ga_goto hR (pc := 114) 15 (by decide) dX10_fours_114 ?_
                        exact ga_lv hR [2, 3, 4, 1, 0] rfl (ih _ _ h)
                      · replace h := h.2 c102
                        refine ga_iconst hR (pc := 105) (v := nI 1) (by decide) dX10_fours_105 ?_
                        refine ga_goto hR (pc := 106) 110 (by decide) dX10_fours_106 ?_
                        refine ga_istore_n hR (pc := 110) (lv' := [(3, .int (nI 1)), (0, .ref (a 0)), (1, .int v1_38), (2, .int v2_39), (4, .int v4_47), (5, .int v5_48)]) rfl (by decide) rfl dX10_fours_110 ?_
                        obtain ⟨v4_51, ev4_51⟩ : ∃ v : Int32, v = v4_47 + (nI 1) := ⟨_, rfl⟩
                        replace h := h v4_51 ev4_51
                        refine ga_iinc hR (pc := 111) (lv' := [(4, .int v4_51), (3, .int (nI 1)), (0, .ref (a 0)), (1, .int v1_38), (2, .int v2_39), (5, .int v5_48)]) 4 (by decide) rfl ev4_51 (by decide) rfl dX10_fours_111 ?_
                        refine ga_goto hR (pc := 114) 15 (by decide) dX10_fours_114 ?_
                        exact ga_lv hR [2, 3, 4, 1, 0] rfl (ih _ _ h)
                    · intro h
                      obtain ⟨n, h⟩ := h
                      have L31 : ∀ (n : Nat) (v5_52 : Int32) (v6_53 : Int32), lp_X10_fours_31 x_slot v2_39 v4_47 (fun (v5_48 : Int32) => G 0 0 [(a 0, .inr (10, [.int x_rules, .int x_places, .ref (a 1), .ref (a 2), .ref (a 3), .int x_newRules, .int x_newPlaces, .ref (a 4), .ref (a 5), .ref (a 6), .ref (a 7), .ref (a 8), .int x_acts, .int x_kept, .int x_length, .ref (a 9), .int x_next, .int x_place, .int x_isWrong, .ref (a 10), .ref (a 11), .ref (a 12), .int x_parts, .int x_without, .ref (a 13), .ref (a 14), .ref (a 15), .ref (a 16), .int x_ways, .ref (a 17), .ref (a 18), .ref (a 19), .ref (a 20)])), (a 8, .inl (V.2 0, 732, .inl x_slot))] 100 [(0, .ref (a 0)), (1, .int v1_38), (2, .int v2_39), (4, .int v4_47), (5, .int v5_48)] []) n v5_52 v6_53 → G 0 0 [(a 0, .inr (10, [.int x_rules, .int x_places, .ref (a 1), .ref (a 2), .ref (a 3), .int x_newRules, .int x_newPlaces, .ref (a 4), .ref (a 5), .ref (a 6), .ref (a 7), .ref (a 8), .int x_acts, .int x_kept, .int x_length, .ref (a 9), .int x_next, .int x_place, .int x_isWrong, .ref (a 10), .ref (a 11), .ref (a 12), .int x_parts, .int x_without, .ref (a 13), .ref (a 14), .ref (a 15), .ref (a 16), .int x_ways, .ref (a 17), .ref (a 18), .ref (a 19), .ref (a 20)])), (a 8, .inl (V.2 0, 732, .inl x_slot))] 31 [(0, .ref (a 0)), (1, .int v1_38), (2, .int v2_39), (4, .int v4_47), (5, .int v5_52), (6, .int v6_53)] [] := by
                        intro n
                        induction n with
                        | zero => exact fun _ _ h => False.elim h
                        | succ n ih =>
                          intro v5_52 v6_53 h
                          rw [lp_X10_fours_31] at h
                          refine ga_iload hR (pc := 31) 5 rfl dX10_fours_31 ?_
                          refine ga_iconst hR (pc := 33) (v := nI 4) (by decide) dX10_fours_33 ?_
                          refine ga_icmp_ge hR (pc := 34) 100 (by decide) dX10_fours_34 (fun c34 => ?_) (fun c34 => ?_)
                          · replace h := h.1 c34
                            exact ga_lv hR [0, 1, 2, 3, 4] rfl h
                          · replace h := h.2 c34
                            refine ga_iconst hR (pc := 37) (v := nI 4) (by decide) dX10_fours_37 ?_
                            refine ga_iload_n hR (pc := 38) 2 rfl rfl dX10_fours_38 ?_
                            refine ga_imul hR (pc := 39) dX10_fours_39 ?_
                            refine ga_iload hR (pc := 40) 5 rfl dX10_fours_40 ?_
                            refine ga_iadd hR (pc := 42) dX10_fours_42 ?_
                            refine ga_bipush hR (pc := 43) (v := nI 26) (by decide) dX10_fours_43 ?_
                            have hJ := h (fun (s0_54 : Int32) => G 0 0 [(a 0, .inr (10, [.int x_rules, .int x_places, .ref (a 1), .ref (a 2), .ref (a 3), .int x_newRules, .int x_newPlaces, .ref (a 4), .ref (a 5), .ref (a 6), .ref (a 7), .ref (a 8), .int x_acts, .int x_kept, .int x_length, .ref (a 9), .int x_next, .int x_place, .int x_isWrong, .ref (a 10), .ref (a 11), .ref (a 12), .int x_parts, .int x_without, .ref (a 13), .ref (a 14), .ref (a 15), .ref (a 16), .int x_ways, .ref (a 17), .ref (a 18), .ref (a 19), .ref (a 20)])), (a 8, .inl (V.2 0, 732, .inl x_slot))] 63 [(0, .ref (a 0)), (1, .int v1_38), (2, .int v2_39), (4, .int v4_47), (5, .int v5_52), (6, .int v6_53)] [.int s0_54])
                            refine ga_bind hJ ?_ ?_
                            · intro s0_54 h
                              show G 0 0 [(a 0, .inr (10, [.int x_rules, .int x_places, .ref (a 1), .ref (a 2), .ref (a 3), .int x_newRules, .int x_newPlaces, .ref (a 4), .ref (a 5), .ref (a 6), .ref (a 7), .ref (a 8), .int x_acts, .int x_kept, .int x_length, .ref (a 9), .int x_next, .int x_place, .int x_isWrong, .ref (a 10), .ref (a 11), .ref (a 12), .int x_parts, .int x_without, .ref (a 13), .ref (a 14), .ref (a 15), .ref (a 16), .int x_ways, .ref (a 17), .ref (a 18), .ref (a 19), .ref (a 20)])), (a 8, .inl (V.2 0, 732, .inl x_slot))] 63 [(0, .ref (a 0)), (1, .int v1_38), (2, .int v2_39), (4, .int v4_47), (5, .int v5_52), (6, .int v6_53)] [.int s0_54]
                              refine ga_istore hR (pc := 63) (lv' := [(7, .int s0_54), (0, .ref (a 0)), (1, .int v1_38), (2, .int v2_39), (4, .int v4_47), (5, .int v5_52), (6, .int v6_53)]) (by decide) rfl dX10_fours_63 ?_
                              refine ga_iload hR (pc := 65) 5 rfl dX10_fours_65 ?_
                              refine ga_if_eq hR (pc := 67) 91 (by decide) dX10_fours_67 (fun c67 => ?_) (fun c67 => ?_)
                              · replace h := h.1 c67
                                refine ga_iconst hR (pc := 91) (v := nI 0) (by decide) dX10_fours_91 ?_
                                refine ga_istore hR (pc := 92) (lv' := [(5, .int (nI 0)), (7, .int s0_54), (0, .ref (a 0)), (1, .int v1_38), (2, .int v2_39), (4, .int v4_47), (6, .int v6_53)]) (by decide) rfl dX10_fours_92 ?_
                                obtain ⟨v6_56, ev6_56⟩ : ∃ v : Int32, v = v6_53 + (nI 1) := ⟨_, rfl⟩
                                replace h := h v6_56 ev6_56
                                refine ga_iinc hR (pc := 94) (lv' := [(6, .int v6_56), (5, .int (nI 0)), (7, .int s0_54), (0, .ref (a 0)), (1, .int v1_38), (2, .int v2_39), (4, .int v4_47)]) 6 (by decide) rfl ev6_56 (by decide) rfl dX10_fours_94 ?_
                                refine ga_goto hR (pc := 97) 31 (by decide) dX10_fours_97 ?_
                                exact ga_lv hR [3, 4, 5, 6, 1, 0] rfl (ih _ _ h)
                              · replace h := h.2 c67
                                refine ga_iload hR (pc := 70) 0 rfl dX10_fours_70 ?_
                                refine ga_aload_n hR (pc := 72) 1 rfl rfl dX10_fours_72 ?_
                                refine ga_get hR (pc := 73) 0 rfl rfl hinX10 11 (by decide) f31 rfl dX10_fours_73 ?_
                                refine ga_iconst hR (pc := 76) (v := nI 4) (by decide) dX10_fours_76 ?_
                                refine ga_iload hR (pc := 77) 4 rfl dX10_fours_77 ?_
                                refine ga_imul hR (pc := 79) dX10_fours_79 ?_
                                refine ga_iload hR (pc := 80) 6 rfl dX10_fours_80 ?_
                                refine ga_iadd hR (pc := 82) dX10_fours_82 ?_
                                refine ga_iald hR (pc := 83) 1 rfl h.1 dX10_fours_83 ?_
                                replace h := h.2
                                refine ga_icmp_ne hR (pc := 84) 91 (by decide) dX10_fours_84 (fun c84 => ?_) (fun c84 => ?_)
                                · replace h := h.1 c84
                                  refine ga_iconst hR (pc := 91) (v := nI 0) (by decide) dX10_fours_91 ?_
                                  refine ga_istore hR (pc := 92) (lv' := [(5, .int (nI 0)), (7, .int s0_54), (0, .ref (a 0)), (1, .int v1_38), (2, .int v2_39), (4, .int v4_47), (6, .int v6_53)]) (by decide) rfl dX10_fours_92 ?_
                                  obtain ⟨v6_57, ev6_57⟩ : ∃ v : Int32, v = v6_53 + (nI 1) := ⟨_, rfl⟩
                                  replace h := h v6_57 ev6_57
                                  refine ga_iinc hR (pc := 94) (lv' := [(6, .int v6_57), (5, .int (nI 0)), (7, .int s0_54), (0, .ref (a 0)), (1, .int v1_38), (2, .int v2_39), (4, .int v4_47)]) 6 (by decide) rfl ev6_57 (by decide) rfl dX10_fours_94 ?_
                                  refine ga_goto hR (pc := 97) 31 (by decide) dX10_fours_97 ?_
                                  exact ga_lv hR [3, 4, 5, 6, 1, 0] rfl (ih _ _ h)
                                · replace h := h.2 c84
                                  refine ga_iconst hR (pc := 87) (v := nI 1) (by decide) dX10_fours_87 ?_
                                  refine ga_goto hR (pc := 88) 92 (by decide) dX10_fours_88 ?_
                                  refine ga_istore hR (pc := 92) (lv' := [(5, .int (nI 1)), (7, .int s0_54), (0, .ref (a 0)), (1, .int v1_38), (2, .int v2_39), (4, .int v4_47), (6, .int v6_53)]) (by decide) rfl dX10_fours_92 ?_
                                  obtain ⟨v6_58, ev6_58⟩ : ∃ v : Int32, v = v6_53 + (nI 1) := ⟨_, rfl⟩
                                  replace h := h v6_58 ev6_58
                                  refine ga_iinc hR (pc := 94) (lv' := [(6, .int v6_58), (5, .int (nI 1)), (7, .int s0_54), (0, .ref (a 0)), (1, .int v1_38), (2, .int v2_39), (4, .int v4_47)]) 6 (by decide) rfl ev6_58 (by decide) rfl dX10_fours_94 ?_
                                  refine ga_goto hR (pc := 97) 31 (by decide) dX10_fours_97 ?_
                                  exact ga_lv hR [3, 4, 5, 6, 1, 0] rfl (ih _ _ h)
                            · intro h
                              refine ga_icmp_ge hR (pc := 45) 62 (by decide) dX10_fours_45 (fun c45 => ?_) (fun c45 => ?_)
                              · replace h := h.1 c45
                                refine ga_iconst hR (pc := 62) (v := nI 0) (by decide) dX10_fours_62 ?_
                                exact ga_lv hR [0, 1, 2, 3, 4, 5] rfl h
                              · replace h := h.2 c45
                                refine ga_aload_n hR (pc := 48) 0 rfl rfl dX10_fours_48 ?_
                                refine ga_get hR (pc := 49) 0 rfl rfl hinX10 11 (by decide) f31 rfl dX10_fours_49 ?_
                                refine ga_iconst hR (pc := 52) (v := nI 4) (by decide) dX10_fours_52 ?_
                                refine ga_iload_n hR (pc := 53) 2 rfl rfl dX10_fours_53 ?_
                                refine ga_imul hR (pc := 54) dX10_fours_54 ?_
                                refine ga_iload hR (pc := 55) 5 rfl dX10_fours_55 ?_
                                refine ga_iadd hR (pc := 57) dX10_fours_57 ?_
                                refine ga_iald hR (pc := 58) 1 rfl h.1 dX10_fours_58 ?_
                                replace h := h.2
                                refine ga_goto hR (pc := 59) 63 (by decide) dX10_fours_59 ?_
                                exact ga_lv hR [0, 1, 2, 3, 4, 5] rfl h
                      exact ga_lv hR [2, 3, 4, 6, 1, 0] rfl (L31 n _ _ h)
            exact ga_lv hR [2, 3, 4, 1, 0] rfl (L15 n _ _ h)
    exact ga_lv hR [2, 1, 0] rfl (L4 n _ _ h)

def rm_X10_knownPairs : Room := { frames := 5, cells := 0, slots := 0, locals := 122 }
theorem hd_X10_knownPairsS : yX10_knownPairs.cls ≠ "java/lang/invoke/MethodHandle" ∧ yX10_knownPairs.cls ≠ "java/lang/invoke/VarHandle" ∧ (parseMethodDescriptor yX10_knownPairs.desc).map (fun d => d.parameters.length) = some 0 := by decide +kernel
theorem hd_X10_knownPairs : yX10_knownPairs.cls = RX10 ∧ yX10_knownPairs.cls ≠ "java/lang/invoke/MethodHandle" ∧ yX10_knownPairs.cls ≠ "java/lang/invoke/VarHandle" ∧ (parseMethodDescriptor yX10_knownPairs.desc).map (fun d => d.parameters.length) = some 0 := ⟨rfl, hd_X10_knownPairsS⟩
set_option maxHeartbeats 4000000 in
set_option maxRecDepth 100000 in
theorem c_X10_knownPairs (V : ga_V) (a : Nat → Nat) (x_newRules : Int32) (x_newPlaces : Int32) (x_acts : Int32) (x_kept : Int32) (x_length : Int32) (x_next : Int32) (x_place : Int32) (x_isWrong : Int32) (x_parts : Int32) (x_rules : Int32) (x_places : Int32) (x_without : Int32) (x_ways : Int32) (x_rule : Nat → Int32) (x_takes : Nat → Int32) (x_behind : Nat → Int32) (x_slot : Nat → Int32) (x_way : Nat → Int32) (K : Int32 → Prop) (h : wp_X10_knownPairs x_rules x_places x_without x_ways x_rule x_takes x_behind x_slot x_way K) : ga_C V yX10_knownPairs wsX10_knownPairs rm_X10_knownPairs [.ref (a 0)] [(a 0, .inr (10, [.int x_rules, .int x_places, .ref (a 1), .ref (a 2), .ref (a 3), .int x_newRules, .int x_newPlaces, .ref (a 4), .ref (a 5), .ref (a 6), .ref (a 7), .ref (a 8), .int x_acts, .int x_kept, .int x_length, .ref (a 9), .int x_next, .int x_place, .int x_isWrong, .ref (a 10), .ref (a 11), .ref (a 12), .int x_parts, .int x_without, .ref (a 13), .ref (a 14), .ref (a 15), .ref (a 16), .int x_ways, .ref (a 17), .ref (a 18), .ref (a 19), .ref (a 20)])), (a 1, .inl (V.2 0, 12, .inl x_rule)), (a 2, .inl (V.2 0, 10, .inl x_takes)), (a 3, .inl (V.2 0, 10, .inl x_behind)), (a 8, .inl (V.2 0, 732, .inl x_slot)), (a 16, .inl (V.2 0, 1024, .inl x_way))] 0 0 (ga_Fi (fun (u : Unit) => [(a 0, .inr (10, [.int x_rules, .int x_places, .ref (a 1), .ref (a 2), .ref (a 3), .int x_newRules, .int x_newPlaces, .ref (a 4), .ref (a 5), .ref (a 6), .ref (a 7), .ref (a 8), .int x_acts, .int x_kept, .int x_length, .ref (a 9), .int x_next, .int x_place, .int x_isWrong, .ref (a 10), .ref (a 11), .ref (a 12), .int x_parts, .int x_without, .ref (a 13), .ref (a 14), .ref (a 15), .ref (a 16), .int x_ways, .ref (a 17), .ref (a 18), .ref (a 19), .ref (a 20)])), (a 1, .inl (V.2 0, 12, .inl x_rule)), (a 2, .inl (V.2 0, 10, .inl x_takes)), (a 3, .inl (V.2 0, 10, .inl x_behind)), (a 8, .inl (V.2 0, 732, .inl x_slot)), (a 16, .inl (V.2 0, 1024, .inl x_way))]) (fun r u => K r)) := by
  refine ga_met (cc := cX10_knownPairs) (maxL := 4) (rt := (some .int)) (by decide) rfl [(0, .ref (a 0))] rfl (Nat.le_of_ble_eq_true rfl) ?_
  intro G hR hE
  unfold wp_X10_knownPairs at h
  refine ga_iconst hR (pc := 0) (v := nI 0) (by decide) dX10_knownPairs_0 ?_
  refine ga_istore_n hR (pc := 1) (lv' := [(1, .int (nI 0)), (0, .ref (a 0))]) rfl (by decide) rfl dX10_knownPairs_1 ?_
  refine ga_iconst hR (pc := 2) (v := nI 0) (by decide) dX10_knownPairs_2 ?_
  refine ga_istore_n hR (pc := 3) (lv' := [(2, .int (nI 0)), (1, .int (nI 0)), (0, .ref (a 0))]) rfl (by decide) rfl dX10_knownPairs_3 ?_
  have hJ := h (fun (v1_1 : Int32) => G 0 0 [(a 0, .inr (10, [.int x_rules, .int x_places, .ref (a 1), .ref (a 2), .ref (a 3), .int x_newRules, .int x_newPlaces, .ref (a 4), .ref (a 5), .ref (a 6), .ref (a 7), .ref (a 8), .int x_acts, .int x_kept, .int x_length, .ref (a 9), .int x_next, .int x_place, .int x_isWrong, .ref (a 10), .ref (a 11), .ref (a 12), .int x_parts, .int x_without, .ref (a 13), .ref (a 14), .ref (a 15), .ref (a 16), .int x_ways, .ref (a 17), .ref (a 18), .ref (a 19), .ref (a 20)])), (a 1, .inl (V.2 0, 12, .inl x_rule)), (a 2, .inl (V.2 0, 10, .inl x_takes)), (a 3, .inl (V.2 0, 10, .inl x_behind)), (a 8, .inl (V.2 0, 732, .inl x_slot)), (a 16, .inl (V.2 0, 1024, .inl x_way))] 47 [(1, .int v1_1)] [])
  refine ga_bind hJ ?_ ?_
  · intro v1_1 h
    show G 0 0 [(a 0, .inr (10, [.int x_rules, .int x_places, .ref (a 1), .ref (a 2), .ref (a 3), .int x_newRules, .int x_newPlaces, .ref (a 4), .ref (a 5), .ref (a 6), .ref (a 7), .ref (a 8), .int x_acts, .int x_kept, .int x_length, .ref (a 9), .int x_next, .int x_place, .int x_isWrong, .ref (a 10), .ref (a 11), .ref (a 12), .int x_parts, .int x_without, .ref (a 13), .ref (a 14), .ref (a 15), .ref (a 16), .int x_ways, .ref (a 17), .ref (a 18), .ref (a 19), .ref (a 20)])), (a 1, .inl (V.2 0, 12, .inl x_rule)), (a 2, .inl (V.2 0, 10, .inl x_takes)), (a 3, .inl (V.2 0, 10, .inl x_behind)), (a 8, .inl (V.2 0, 732, .inl x_slot)), (a 16, .inl (V.2 0, 1024, .inl x_way))] 47 [(1, .int v1_1)] []
    refine ga_iload_n hR (pc := 47) 0 rfl rfl dX10_knownPairs_47 ?_
    exact ga_iret hE dX10_knownPairs_48 rfl (ga_ri () rfl h)
  · intro h
    obtain ⟨n, h⟩ := h
    have L4 : ∀ (n : Nat) (v1_18 : Int32) (v2_19 : Int32), lp_X10_knownPairs_4 x_rules x_places x_without x_ways x_rule x_takes x_behind x_slot x_way (fun (v1_1 : Int32) => G 0 0 [(a 0, .inr (10, [.int x_rules, .int x_places, .ref (a 1), .ref (a 2), .ref (a 3), .int x_newRules, .int x_newPlaces, .ref (a 4), .ref (a 5), .ref (a 6), .ref (a 7), .ref (a 8), .int x_acts, .int x_kept, .int x_length, .ref (a 9), .int x_next, .int x_place, .int x_isWrong, .ref (a 10), .ref (a 11), .ref (a 12), .int x_parts, .int x_without, .ref (a 13), .ref (a 14), .ref (a 15), .ref (a 16), .int x_ways, .ref (a 17), .ref (a 18), .ref (a 19), .ref (a 20)])), (a 1, .inl (V.2 0, 12, .inl x_rule)), (a 2, .inl (V.2 0, 10, .inl x_takes)), (a 3, .inl (V.2 0, 10, .inl x_behind)), (a 8, .inl (V.2 0, 732, .inl x_slot)), (a 16, .inl (V.2 0, 1024, .inl x_way))] 47 [(1, .int v1_1)] []) n v1_18 v2_19 → G 0 0 [(a 0, .inr (10, [.int x_rules, .int x_places, .ref (a 1), .ref (a 2), .ref (a 3), .int x_newRules, .int x_newPlaces, .ref (a 4), .ref (a 5), .ref (a 6), .ref (a 7), .ref (a 8), .int x_acts, .int x_kept, .int x_length, .ref (a 9), .int x_next, .int x_place, .int x_isWrong, .ref (a 10), .ref (a 11), .ref (a 12), .int x_parts, .int x_without, .ref (a 13), .ref (a 14), .ref (a 15), .ref (a 16), .int x_ways, .ref (a 17), .ref (a 18), .ref (a 19), .ref (a 20)])), (a 1, .inl (V.2 0, 12, .inl x_rule)), (a 2, .inl (V.2 0, 10, .inl x_takes)), (a 3, .inl (V.2 0, 10, .inl x_behind)), (a 8, .inl (V.2 0, 732, .inl x_slot)), (a 16, .inl (V.2 0, 1024, .inl x_way))] 4 [(0, .ref (a 0)), (1, .int v1_18), (2, .int v2_19)] [] := by
      intro n
      induction n with
      | zero => exact fun _ _ h => False.elim h
      | succ n ih =>
        intro v1_18 v2_19 h
        rw [lp_X10_knownPairs_4] at h
        refine ga_iload_n hR (pc := 4) 2 rfl rfl dX10_knownPairs_4 ?_
        refine ga_bipush hR (pc := 5) (v := nI 6) (by decide) dX10_knownPairs_5 ?_
        refine ga_icmp_ge hR (pc := 7) 47 (by decide) dX10_knownPairs_7 (fun c7 => ?_) (fun c7 => ?_)
        · replace h := h.1 c7
          exact ga_lv hR [1] rfl h
        · replace h := h.2 c7
          refine ga_iconst hR (pc := 10) (v := nI 0) (by decide) dX10_knownPairs_10 ?_
          refine ga_istore_n hR (pc := 11) (lv' := [(3, .int (nI 0)), (0, .ref (a 0)), (1, .int v1_18), (2, .int v2_19)]) rfl (by decide) rfl dX10_knownPairs_11 ?_
          have hJ := h (fun (v1_20 : Int32) => G 0 0 [(a 0, .inr (10, [.int x_rules, .int x_places, .ref (a 1), .ref (a 2), .ref (a 3), .int x_newRules, .int x_newPlaces, .ref (a 4), .ref (a 5), .ref (a 6), .ref (a 7), .ref (a 8), .int x_acts, .int x_kept, .int x_length, .ref (a 9), .int x_next, .int x_place, .int x_isWrong, .ref (a 10), .ref (a 11), .ref (a 12), .int x_parts, .int x_without, .ref (a 13), .ref (a 14), .ref (a 15), .ref (a 16), .int x_ways, .ref (a 17), .ref (a 18), .ref (a 19), .ref (a 20)])), (a 1, .inl (V.2 0, 12, .inl x_rule)), (a 2, .inl (V.2 0, 10, .inl x_takes)), (a 3, .inl (V.2 0, 10, .inl x_behind)), (a 8, .inl (V.2 0, 732, .inl x_slot)), (a 16, .inl (V.2 0, 1024, .inl x_way))] 41 [(0, .ref (a 0)), (1, .int v1_20), (2, .int v2_19)] [])
          refine ga_bind hJ ?_ ?_
          · intro v1_20 h
            show G 0 0 [(a 0, .inr (10, [.int x_rules, .int x_places, .ref (a 1), .ref (a 2), .ref (a 3), .int x_newRules, .int x_newPlaces, .ref (a 4), .ref (a 5), .ref (a 6), .ref (a 7), .ref (a 8), .int x_acts, .int x_kept, .int x_length, .ref (a 9), .int x_next, .int x_place, .int x_isWrong, .ref (a 10), .ref (a 11), .ref (a 12), .int x_parts, .int x_without, .ref (a 13), .ref (a 14), .ref (a 15), .ref (a 16), .int x_ways, .ref (a 17), .ref (a 18), .ref (a 19), .ref (a 20)])), (a 1, .inl (V.2 0, 12, .inl x_rule)), (a 2, .inl (V.2 0, 10, .inl x_takes)), (a 3, .inl (V.2 0, 10, .inl x_behind)), (a 8, .inl (V.2 0, 732, .inl x_slot)), (a 16, .inl (V.2 0, 1024, .inl x_way))] 41 [(0, .ref (a 0)), (1, .int v1_20), (2, .int v2_19)] []
            obtain ⟨v2_22, ev2_22⟩ : ∃ v : Int32, v = v2_19 + (nI 1) := ⟨_, rfl⟩
            replace h := h v2_22 ev2_22
            refine ga_iinc hR (pc := 41) (lv' := [(2, .int v2_22), (0, .ref (a 0)), (1, .int v1_20)]) 2 (by decide) rfl ev2_22 (by decide) rfl dX10_knownPairs_41 ?_
            refine ga_goto hR (pc := 44) 4 (by decide) dX10_knownPairs_44 ?_
            exact ga_lv hR [1, 2, 0] rfl (ih _ _ h)
          · intro h
            obtain ⟨n, h⟩ := h
            have L12 : ∀ (n : Nat) (v1_23 : Int32) (v3_24 : Int32), lp_X10_knownPairs_12 x_rules x_places x_without x_ways x_rule x_takes x_behind x_slot x_way v2_19 (fun (v1_20 : Int32) => G 0 0 [(a 0, .inr (10, [.int x_rules, .int x_places, .ref (a 1), .ref (a 2), .ref (a 3), .int x_newRules, .int x_newPlaces, .ref (a 4), .ref (a 5), .ref (a 6), .ref (a 7), .ref (a 8), .int x_acts, .int x_kept, .int x_length, .ref (a 9), .int x_next, .int x_place, .int x_isWrong, .ref (a 10), .ref (a 11), .ref (a 12), .int x_parts, .int x_without, .ref (a 13), .ref (a 14), .ref (a 15), .ref (a 16), .int x_ways, .ref (a 17), .ref (a 18), .ref (a 19), .ref (a 20)])), (a 1, .inl (V.2 0, 12, .inl x_rule)), (a 2, .inl (V.2 0, 10, .inl x_takes)), (a 3, .inl (V.2 0, 10, .inl x_behind)), (a 8, .inl (V.2 0, 732, .inl x_slot)), (a 16, .inl (V.2 0, 1024, .inl x_way))] 41 [(0, .ref (a 0)), (1, .int v1_20), (2, .int v2_19)] []) n v1_23 v3_24 → G 0 0 [(a 0, .inr (10, [.int x_rules, .int x_places, .ref (a 1), .ref (a 2), .ref (a 3), .int x_newRules, .int x_newPlaces, .ref (a 4), .ref (a 5), .ref (a 6), .ref (a 7), .ref (a 8), .int x_acts, .int x_kept, .int x_length, .ref (a 9), .int x_next, .int x_place, .int x_isWrong, .ref (a 10), .ref (a 11), .ref (a 12), .int x_parts, .int x_without, .ref (a 13), .ref (a 14), .ref (a 15), .ref (a 16), .int x_ways, .ref (a 17), .ref (a 18), .ref (a 19), .ref (a 20)])), (a 1, .inl (V.2 0, 12, .inl x_rule)), (a 2, .inl (V.2 0, 10, .inl x_takes)), (a 3, .inl (V.2 0, 10, .inl x_behind)), (a 8, .inl (V.2 0, 732, .inl x_slot)), (a 16, .inl (V.2 0, 1024, .inl x_way))] 12 [(0, .ref (a 0)), (1, .int v1_23), (2, .int v2_19), (3, .int v3_24)] [] := by
              intro n
              induction n with
              | zero => exact fun _ _ h => False.elim h
              | succ n ih =>
                intro v1_23 v3_24 h
                rw [lp_X10_knownPairs_12] at h
                refine ga_iload_n hR (pc := 12) 3 rfl rfl dX10_knownPairs_12 ?_
                refine ga_bipush hR (pc := 13) (v := nI 6) (by decide) dX10_knownPairs_13 ?_
                refine ga_icmp_ge hR (pc := 15) 41 (by decide) dX10_knownPairs_15 (fun c15 => ?_) (fun c15 => ?_)
                · replace h := h.1 c15
                  exact ga_lv hR [0, 1, 2] rfl h
                · replace h := h.2 c15
                  refine ga_iload_n hR (pc := 18) 1 rfl rfl dX10_knownPairs_18 ?_
                  refine ga_aload_n hR (pc := 19) 0 rfl rfl dX10_knownPairs_19 ?_
                  refine ga_iload_n hR (pc := 20) 2 rfl rfl dX10_knownPairs_20 ?_
                  refine ga_iload_n hR (pc := 21) 3 rfl rfl dX10_knownPairs_21 ?_
                  refine ga_callV hR (pc := 22) (As := [.int v2_19, .int v3_24]) (rest := [.int v1_23]) (st0 := [.int v3_24, .int v2_19, .ref (a 0), .int v1_23]) (b := (a 0)) 2 (c_X10_isKnown V a x_newRules x_newPlaces x_acts x_kept x_length x_next x_place x_isWrong x_parts x_rules x_places x_without x_ways x_rule x_takes x_behind x_slot x_way v2_19 v3_24 _ h) (ga_same_i fun _ => rfl) gX10_knownPairs_X10_isKnown rfl rfl rfl hd_X10_isKnown ⟨Nat.le_of_ble_eq_true rfl, Nat.le_of_ble_eq_true rfl⟩ rfl rfl (Nat.le_of_ble_eq_true rfl) ⟨Nat.zero_le _, Nat.zero_le _⟩ [0, 1, 2, 3, 4, 5] rfl rfl 0 rfl rfl dX10_knownPairs_22 ?_
                  rintro _ _ ⟨r_25, ⟨⟩, rfl, rfl, h⟩
                  refine ga_to [(a 0, .inr (10, [.int x_rules, .int x_places, .ref (a 1), .ref (a 2), .ref (a 3), .int x_newRules, .int x_newPlaces, .ref (a 4), .ref (a 5), .ref (a 6), .ref (a 7), .ref (a 8), .int x_acts, .int x_kept, .int x_length, .ref (a 9), .int x_next, .int x_place, .int x_isWrong, .ref (a 10), .ref (a 11), .ref (a 12), .int x_parts, .int x_without, .ref (a 13), .ref (a 14), .ref (a 15), .ref (a 16), .int x_ways, .ref (a 17), .ref (a 18), .ref (a 19), .ref (a 20)])), (a 1, .inl (V.2 0, 12, .inl x_rule)), (a 2, .inl (V.2 0, 10, .inl x_takes)), (a 3, .inl (V.2 0, 10, .inl x_behind)), (a 8, .inl (V.2 0, 732, .inl x_slot)), (a 16, .inl (V.2 0, 1024, .inl x_way))] [.int r_25, .int v1_23] rfl rfl ?_
                  try dsimp only at h
                  refine ga_if_eq hR (pc := 25) 32 (by decide) dX10_knownPairs_25 (fun c25 => ?_) (fun c25 => ?_)
                  · replace h := h.1 c25
                    refine ga_iconst hR (pc := 32) (v := nI 0) (by decide) dX10_knownPairs_32 ?_
                    refine ga_iadd hR (pc := 33) dX10_knownPairs_33 ?_
                    refine ga_topi (fun v1_26 ev1_26 => ?_)
                    replace h := h v1_26 ev1_26
                    refine ga_istore_n hR (pc := 34) (lv' := [(1, .int v1_26), (0, .ref (a 0)), (2, .int v2_19), (3, .int v3_24)]) rfl (by decide) rfl dX10_knownPairs_34 ?_
                    obtain ⟨v3_27, ev3_27⟩ : ∃ v : Int32, v = v3_24 + (nI 1) := ⟨_, rfl⟩
                    replace h := h v3_27 ev3_27
                    refine ga_iinc hR (pc := 35) (lv' := [(3, .int v3_27), (1, .int v1_26), (0, .ref (a 0)), (2, .int v2_19)]) 3 (by decide) rfl ev3_27 (by decide) rfl dX10_knownPairs_35 ?_
                    refine ga_goto hR (pc := 38) 12 (by decide) dX10_knownPairs_38 ?_
                    exact ga_lv hR [2, 1, 3, 0] rfl (ih _ _ h)
                  · replace h := h.2 c25
                    refine ga_iconst hR (pc := 28) (v := nI 1) (by decide) dX10_knownPairs_28 ?_
                    refine ga_goto hR (pc := 29) 33 (by decide) dX10_knownPairs_29 ?_
                    refine ga_iadd hR (pc := 33) dX10_knownPairs_33 ?_
                    refine ga_topi (fun v1_28 ev1_28 => ?_)
                    replace h := h v1_28 ev1_28
                    refine ga_istore_n hR (pc := 34) (lv' := [(1, .int v1_28), (0, .ref (a 0)), (2, .int v2_19), (3, .int v3_24)]) rfl (by decide) rfl dX10_knownPairs_34 ?_
                    obtain ⟨v3_29, ev3_29⟩ : ∃ v : Int32, v = v3_24 + (nI 1) := ⟨_, rfl⟩
                    replace h := h v3_29 ev3_29
                    refine ga_iinc hR (pc := 35) (lv' := [(3, .int v3_29), (1, .int v1_28), (0, .ref (a 0)), (2, .int v2_19)]) 3 (by decide) rfl ev3_29 (by decide) rfl dX10_knownPairs_35 ?_
                    refine ga_goto hR (pc := 38) 12 (by decide) dX10_knownPairs_38 ?_
                    exact ga_lv hR [2, 1, 3, 0] rfl (ih _ _ h)
            exact ga_lv hR [1, 2, 3, 0] rfl (L12 n _ _ h)
    exact ga_lv hR [2, 1, 0] rfl (L4 n _ _ h)
