def rm_X10_lineItem : Room := { frames := 2, cells := 0, slots := 0, locals := 45 }
theorem hd_X10_lineItemS : yX10_lineItem.cls ≠ "java/lang/invoke/MethodHandle" ∧ yX10_lineItem.cls ≠ "java/lang/invoke/VarHandle" ∧ (parseMethodDescriptor yX10_lineItem.desc).map (fun d => d.parameters.length) = some 0 := by decide +kernel
theorem hd_X10_lineItem : yX10_lineItem.cls = RX10 ∧ yX10_lineItem.cls ≠ "java/lang/invoke/MethodHandle" ∧ yX10_lineItem.cls ≠ "java/lang/invoke/VarHandle" ∧ (parseMethodDescriptor yX10_lineItem.desc).map (fun d => d.parameters.length) = some 0 := ⟨rfl, hd_X10_lineItemS⟩
set_option maxHeartbeats 4000000 in
set_option maxRecDepth 100000 in
theorem c_X10_lineItem (V : ga_V) (a : Nat → Nat) (x_rules : Int32) (x_places : Int32) (x_newRules : Int32) (x_newPlaces : Int32) (x_acts : Int32) (x_kept : Int32) (x_place : Int32) (x_parts : Int32) (x_without : Int32) (x_ways : Int32) (x_length : Int32) (x_next : Int32) (x_isWrong : Int32) (x_newSlot : Nat → Int32) (x_text : Nat → Int32) (K : Int32 → Int32 → (Nat → Int32) → Prop) (h : wp_X10_lineItem x_length x_next x_isWrong x_newSlot x_text K) : ga_C V yX10_lineItem wsX10_lineItem rm_X10_lineItem [.ref (a 0)] [(a 0, .inr (10, [.int x_rules, .int x_places, .ref (a 1), .ref (a 2), .ref (a 3), .int x_newRules, .int x_newPlaces, .ref (a 4), .ref (a 5), .ref (a 6), .ref (a 7), .ref (a 8), .int x_acts, .int x_kept, .int x_length, .ref (a 9), .int x_next, .int x_place, .int x_isWrong, .ref (a 10), .ref (a 11), .ref (a 12), .int x_parts, .int x_without, .ref (a 13), .ref (a 14), .ref (a 15), .ref (a 16), .int x_ways, .ref (a 17), .ref (a 18), .ref (a 19), .ref (a 20)])), (a 7, .inl (V.2 0, 61, .inl x_newSlot)), (a 9, .inl (V.2 2, 200, .inl x_text))] 0 0 (ga_Fv (fun (u : Int32 × Int32 × (Nat → Int32)) => [(a 0, .inr (10, [.int x_rules, .int x_places, .ref (a 1), .ref (a 2), .ref (a 3), .int x_newRules, .int x_newPlaces, .ref (a 4), .ref (a 5), .ref (a 6), .ref (a 7), .ref (a 8), .int x_acts, .int x_kept, .int x_length, .ref (a 9), .int u.1, .int x_place, .int u.2.1, .ref (a 10), .ref (a 11), .ref (a 12), .int x_parts, .int x_without, .ref (a 13), .ref (a 14), .ref (a 15), .ref (a 16), .int x_ways, .ref (a 17), .ref (a 18), .ref (a 19), .ref (a 20)])), (a 7, .inl (V.2 0, 61, .inl u.2.2)), (a 9, .inl (V.2 2, 200, .inl x_text))]) (fun u => K u.1 u.2.1 u.2.2)) := by
  refine ga_met (cc := cX10_lineItem) (maxL := 1) (rt := none) (by decide) rfl [(0, .ref (a 0))] rfl (Nat.le_of_ble_eq_true rfl) ?_
  intro G hR hE
  have hinX10 : ∀ w ∈ u_ws RX10 TX10 33, w ∈ wsX10_lineItem := by decide +kernel
  have f28 : Cond.fieldLink RX10 28 "BoundaryRulesModel" "newSlot" "[I" ∈ wsX10_lineItem := by decide +kernel
  have f158 : Cond.fieldLink RX10 158 "BoundaryRulesModel" "isWrong" "Z" ∈ wsX10_lineItem := by decide +kernel
  have f151 : Cond.fieldLink RX10 151 "BoundaryRulesModel" "next" "I" ∈ wsX10_lineItem := by decide +kernel
  unfold wp_X10_lineItem at h
  refine ga_aload_n hR (pc := 0) 0 rfl rfl dX10_lineItem_0 ?_
  refine ga_get hR (pc := 1) 0 rfl rfl hinX10 10 (by decide) f28 rfl dX10_lineItem_1 ?_
  refine ga_bipush hR (pc := 4) (v := nI 30) (by decide) dX10_lineItem_4 ?_
  refine ga_iconst hR (pc := 6) (v := nI 0) (by decide) dX10_lineItem_6 ?_
  refine ga_iast hR (pc := 7) (ws' := [(a 0, .inr (10, [.int x_rules, .int x_places, .ref (a 1), .ref (a 2), .ref (a 3), .int x_newRules, .int x_newPlaces, .ref (a 4), .ref (a 5), .ref (a 6), .ref (a 7), .ref (a 8), .int x_acts, .int x_kept, .int x_length, .ref (a 9), .int x_next, .int x_place, .int x_isWrong, .ref (a 10), .ref (a 11), .ref (a 12), .int x_parts, .int x_without, .ref (a 13), .ref (a 14), .ref (a 15), .ref (a 16), .int x_ways, .ref (a 17), .ref (a 18), .ref (a 19), .ref (a 20)])), (a 7, .inl (V.2 0, 61, .inl ((upd x_newSlot (nI 30).toNatClampNeg (nI 0))))), (a 9, .inl (V.2 2, 200, .inl x_text))]) 1 rfl h.1 rfl dX10_lineItem_7 ?_
  replace h := h.2
  obtain ⟨x_newSlot_1, ex_newSlot_1⟩ : ∃ f : Nat → Int32, f = upd x_newSlot (nI 30).toNatClampNeg (nI 0) := ⟨_, rfl⟩
  refine ga_cast (ws' := [(a 0, .inr (10, [.int x_rules, .int x_places, .ref (a 1), .ref (a 2), .ref (a 3), .int x_newRules, .int x_newPlaces, .ref (a 4), .ref (a 5), .ref (a 6), .ref (a 7), .ref (a 8), .int x_acts, .int x_kept, .int x_length, .ref (a 9), .int x_next, .int x_place, .int x_isWrong, .ref (a 10), .ref (a 11), .ref (a 12), .int x_parts, .int x_without, .ref (a 13), .ref (a 14), .ref (a 15), .ref (a 16), .int x_ways, .ref (a 17), .ref (a 18), .ref (a 19), .ref (a 20)])), (a 7, .inl (V.2 0, 61, .inl x_newSlot_1)), (a 9, .inl (V.2 2, 200, .inl x_text))]) (by rw [ex_newSlot_1]) rfl ?_
  replace h := h x_newSlot_1 ex_newSlot_1
  have hJ := h (fun (x_next_2 : Int32) (x_isWrong_3 : Int32) (x_newSlot_4 : Nat → Int32) => G 0 0 [(a 0, .inr (10, [.int x_rules, .int x_places, .ref (a 1), .ref (a 2), .ref (a 3), .int x_newRules, .int x_newPlaces, .ref (a 4), .ref (a 5), .ref (a 6), .ref (a 7), .ref (a 8), .int x_acts, .int x_kept, .int x_length, .ref (a 9), .int x_next_2, .int x_place, .int x_isWrong_3, .ref (a 10), .ref (a 11), .ref (a 12), .int x_parts, .int x_without, .ref (a 13), .ref (a 14), .ref (a 15), .ref (a 16), .int x_ways, .ref (a 17), .ref (a 18), .ref (a 19), .ref (a 20)])), (a 7, .inl (V.2 0, 61, .inl x_newSlot_4)), (a 9, .inl (V.2 2, 200, .inl x_text))] 78 [] [])
  refine ga_bind hJ ?_ ?_
  · intro x_next_2 x_isWrong_3 x_newSlot_4 h
    show G 0 0 [(a 0, .inr (10, [.int x_rules, .int x_places, .ref (a 1), .ref (a 2), .ref (a 3), .int x_newRules, .int x_newPlaces, .ref (a 4), .ref (a 5), .ref (a 6), .ref (a 7), .ref (a 8), .int x_acts, .int x_kept, .int x_length, .ref (a 9), .int x_next_2, .int x_place, .int x_isWrong_3, .ref (a 10), .ref (a 11), .ref (a 12), .int x_parts, .int x_without, .ref (a 13), .ref (a 14), .ref (a 15), .ref (a 16), .int x_ways, .ref (a 17), .ref (a 18), .ref (a 19), .ref (a 20)])), (a 7, .inl (V.2 0, 61, .inl x_newSlot_4)), (a 9, .inl (V.2 2, 200, .inl x_text))] 78 [] []
    exact ga_vret hE dX10_lineItem_78 (ga_rv (x_next_2, x_isWrong_3, x_newSlot_4) rfl h)
  · intro h
    obtain ⟨n, h⟩ := h
    have L8 : ∀ (n : Nat) (x_next_13 : Int32) (x_isWrong_14 : Int32) (x_newSlot_15 : Nat → Int32), lp_X10_lineItem_8 x_length x_text (fun (x_next_2 : Int32) (x_isWrong_3 : Int32) (x_newSlot_4 : Nat → Int32) => G 0 0 [(a 0, .inr (10, [.int x_rules, .int x_places, .ref (a 1), .ref (a 2), .ref (a 3), .int x_newRules, .int x_newPlaces, .ref (a 4), .ref (a 5), .ref (a 6), .ref (a 7), .ref (a 8), .int x_acts, .int x_kept, .int x_length, .ref (a 9), .int x_next_2, .int x_place, .int x_isWrong_3, .ref (a 10), .ref (a 11), .ref (a 12), .int x_parts, .int x_without, .ref (a 13), .ref (a 14), .ref (a 15), .ref (a 16), .int x_ways, .ref (a 17), .ref (a 18), .ref (a 19), .ref (a 20)])), (a 7, .inl (V.2 0, 61, .inl x_newSlot_4)), (a 9, .inl (V.2 2, 200, .inl x_text))] 78 [] []) n x_next_13 x_isWrong_14 x_newSlot_15 → G 0 0 [(a 0, .inr (10, [.int x_rules, .int x_places, .ref (a 1), .ref (a 2), .ref (a 3), .int x_newRules, .int x_newPlaces, .ref (a 4), .ref (a 5), .ref (a 6), .ref (a 7), .ref (a 8), .int x_acts, .int x_kept, .int x_length, .ref (a 9), .int x_next_13, .int x_place, .int x_isWrong_14, .ref (a 10), .ref (a 11), .ref (a 12), .int x_parts, .int x_without, .ref (a 13), .ref (a 14), .ref (a 15), .ref (a 16), .int x_ways, .ref (a 17), .ref (a 18), .ref (a 19), .ref (a 20)])), (a 7, .inl (V.2 0, 61, .inl x_newSlot_15)), (a 9, .inl (V.2 2, 200, .inl x_text))] 8 [(0, .ref (a 0))] [] := by
      intro n
      induction n with
      | zero => exact fun _ _ _ h => False.elim h
      | succ n ih =>
        intro x_next_13 x_isWrong_14 x_newSlot_15 h
        rw [lp_X10_lineItem_8] at h
        refine ga_aload_n hR (pc := 8) 0 rfl rfl dX10_lineItem_8 ?_
        refine ga_get hR (pc := 9) 0 rfl rfl hinX10 18 (by decide) f158 rfl dX10_lineItem_9 ?_
        refine ga_if_ne hR (pc := 12) 78 (by decide) dX10_lineItem_12 (fun c12 => ?_) (fun c12 => ?_)
        · replace h := h.1 c12
          exact ga_lv hR [] rfl h
        · replace h := h.2 c12
          refine ga_aload_n hR (pc := 15) 0 rfl rfl dX10_lineItem_15 ?_
          refine ga_callV hR (pc := 16) (As := []) (rest := []) (st0 := [.ref (a 0)]) (b := (a 0)) 0 (c_X10_isLetter V a x_rules x_places x_newRules x_newPlaces x_acts x_kept x_place x_isWrong_14 x_parts x_without x_ways x_length x_next_13 x_text _ h) (ga_same_i fun _ => rfl) gX10_lineItem_X10_isLetter rfl rfl rfl hd_X10_isLetter ⟨Nat.le_of_ble_eq_true rfl, Nat.le_of_ble_eq_true rfl⟩ rfl rfl (Nat.le_of_ble_eq_true rfl) ⟨Nat.zero_le _, Nat.zero_le _⟩ [0, 2] rfl rfl 0 rfl rfl dX10_lineItem_16 ?_
          rintro _ _ ⟨r_16, ⟨⟩, rfl, rfl, h⟩
          refine ga_to [(a 0, .inr (10, [.int x_rules, .int x_places, .ref (a 1), .ref (a 2), .ref (a 3), .int x_newRules, .int x_newPlaces, .ref (a 4), .ref (a 5), .ref (a 6), .ref (a 7), .ref (a 8), .int x_acts, .int x_kept, .int x_length, .ref (a 9), .int x_next_13, .int x_place, .int x_isWrong_14, .ref (a 10), .ref (a 11), .ref (a 12), .int x_parts, .int x_without, .ref (a 13), .ref (a 14), .ref (a 15), .ref (a 16), .int x_ways, .ref (a 17), .ref (a 18), .ref (a 19), .ref (a 20)])), (a 7, .inl (V.2 0, 61, .inl x_newSlot_15)), (a 9, .inl (V.2 2, 200, .inl x_text))] [.int r_16] rfl rfl ?_
          try dsimp only at h
          refine ga_if_eq hR (pc := 19) 78 (by decide) dX10_lineItem_19 (fun c19 => ?_) (fun c19 => ?_)
          · replace h := h.1 c19
            exact ga_lv hR [] rfl h
          · replace h := h.2 c19
            refine ga_aload_n hR (pc := 22) 0 rfl rfl dX10_lineItem_22 ?_
            refine ga_aload_n hR (pc := 23) 0 rfl rfl dX10_lineItem_23 ?_
            refine ga_get hR (pc := 24) 0 rfl rfl hinX10 10 (by decide) f28 rfl dX10_lineItem_24 ?_
            refine ga_bipush hR (pc := 27) (v := nI 30) (by decide) dX10_lineItem_27 ?_
            refine ga_iald hR (pc := 29) 1 rfl h.1 dX10_lineItem_29 ?_
            replace h := h.2
            refine ga_bipush hR (pc := 30) (v := nI 30) (by decide) dX10_lineItem_30 ?_
            have hJ := h (fun (s1_17 : Int32) => G 0 0 [(a 0, .inr (10, [.int x_rules, .int x_places, .ref (a 1), .ref (a 2), .ref (a 3), .int x_newRules, .int x_newPlaces, .ref (a 4), .ref (a 5), .ref (a 6), .ref (a 7), .ref (a 8), .int x_acts, .int x_kept, .int x_length, .ref (a 9), .int x_next_13, .int x_place, .int x_isWrong_14, .ref (a 10), .ref (a 11), .ref (a 12), .int x_parts, .int x_without, .ref (a 13), .ref (a 14), .ref (a 15), .ref (a 16), .int x_ways, .ref (a 17), .ref (a 18), .ref (a 19), .ref (a 20)])), (a 7, .inl (V.2 0, 61, .inl x_newSlot_15)), (a 9, .inl (V.2 2, 200, .inl x_text))] 40 [(0, .ref (a 0))] [.int s1_17, .ref (a 0)])
            refine ga_bind hJ ?_ ?_
            · intro s1_17 h
              show G 0 0 [(a 0, .inr (10, [.int x_rules, .int x_places, .ref (a 1), .ref (a 2), .ref (a 3), .int x_newRules, .int x_newPlaces, .ref (a 4), .ref (a 5), .ref (a 6), .ref (a 7), .ref (a 8), .int x_acts, .int x_kept, .int x_length, .ref (a 9), .int x_next_13, .int x_place, .int x_isWrong_14, .ref (a 10), .ref (a 11), .ref (a 12), .int x_parts, .int x_without, .ref (a 13), .ref (a 14), .ref (a 15), .ref (a 16), .int x_ways, .ref (a 17), .ref (a 18), .ref (a 19), .ref (a 20)])), (a 7, .inl (V.2 0, 61, .inl x_newSlot_15)), (a 9, .inl (V.2 2, 200, .inl x_text))] 40 [(0, .ref (a 0))] [.int s1_17, .ref (a 0)]
              refine ga_putf hR (pc := 40) (ws' := [(a 0, .inr (10, [.int x_rules, .int x_places, .ref (a 1), .ref (a 2), .ref (a 3), .int x_newRules, .int x_newPlaces, .ref (a 4), .ref (a 5), .ref (a 6), .ref (a 7), .ref (a 8), .int x_acts, .int x_kept, .int x_length, .ref (a 9), .int x_next_13, .int x_place, .int s1_17, .ref (a 10), .ref (a 11), .ref (a 12), .int x_parts, .int x_without, .ref (a 13), .ref (a 14), .ref (a 15), .ref (a 16), .int x_ways, .ref (a 17), .ref (a 18), .ref (a 19), .ref (a 20)])), (a 7, .inl (V.2 0, 61, .inl x_newSlot_15)), (a 9, .inl (V.2 2, 200, .inl x_text))]) 0 rfl rfl hinX10 18 (by decide) f158 tyX10_ok nmX10 rfl h.1.1 h.1.2 (Nat.le_of_ble_eq_true rfl) rfl dX10_lineItem_40 ?_
              replace h := h.2
              refine ga_aload_n hR (pc := 43) 0 rfl rfl dX10_lineItem_43 ?_
              refine ga_get hR (pc := 44) 0 rfl rfl hinX10 18 (by decide) f158 rfl dX10_lineItem_44 ?_
              refine ga_if_ne hR (pc := 47) 65 (by decide) dX10_lineItem_47 (fun c47 => ?_) (fun c47 => ?_)
              · replace h := h.1 c47
                refine ga_aload_n hR (pc := 65) 0 rfl rfl dX10_lineItem_65 ?_
                refine ga_dup hR (pc := 66) rfl dX10_lineItem_66 ?_
                refine ga_get hR (pc := 67) 0 rfl rfl hinX10 16 (by decide) f151 rfl dX10_lineItem_67 ?_
                refine ga_iconst hR (pc := 70) (v := nI 1) (by decide) dX10_lineItem_70 ?_
                refine ga_iadd hR (pc := 71) dX10_lineItem_71 ?_
                refine ga_topi (fun x_next_19 ex_next_19 => ?_)
                replace h := h x_next_19 ex_next_19
                refine ga_putf hR (pc := 72) (ws' := [(a 0, .inr (10, [.int x_rules, .int x_places, .ref (a 1), .ref (a 2), .ref (a 3), .int x_newRules, .int x_newPlaces, .ref (a 4), .ref (a 5), .ref (a 6), .ref (a 7), .ref (a 8), .int x_acts, .int x_kept, .int x_length, .ref (a 9), .int x_next_19, .int x_place, .int s1_17, .ref (a 10), .ref (a 11), .ref (a 12), .int x_parts, .int x_without, .ref (a 13), .ref (a 14), .ref (a 15), .ref (a 16), .int x_ways, .ref (a 17), .ref (a 18), .ref (a 19), .ref (a 20)])), (a 7, .inl (V.2 0, 61, .inl x_newSlot_15)), (a 9, .inl (V.2 2, 200, .inl x_text))]) 0 rfl rfl hinX10 16 (by decide) f151 tyX10_ok nmX10 rfl rfl rfl (Nat.le_of_ble_eq_true rfl) rfl dX10_lineItem_72 ?_
                refine ga_goto hR (pc := 75) 8 (by decide) dX10_lineItem_75 ?_
                exact ga_lv hR [0] rfl (ih _ _ _ h)
              · replace h := h.2 c47
                refine ga_aload_n hR (pc := 50) 0 rfl rfl dX10_lineItem_50 ?_
                refine ga_aload_n hR (pc := 51) 0 rfl rfl dX10_lineItem_51 ?_
                refine ga_aload_n hR (pc := 52) 0 rfl rfl dX10_lineItem_52 ?_
                refine ga_get hR (pc := 53) 0 rfl rfl hinX10 16 (by decide) f151 rfl dX10_lineItem_53 ?_
                refine ga_callV hR (pc := 56) (As := [.int x_next_13]) (rest := [.ref (a 0)]) (st0 := [.int x_next_13, .ref (a 0), .ref (a 0)]) (b := (a 0)) 1 (c_X10_letterAt V a x_rules x_places x_newRules x_newPlaces x_acts x_kept x_next_13 x_place s1_17 x_parts x_without x_ways x_length x_text x_next_13 _ h) (ga_same_i fun _ => rfl) gX10_lineItem_X10_letterAt rfl rfl rfl hd_X10_letterAt ⟨Nat.le_of_ble_eq_true rfl, Nat.le_of_ble_eq_true rfl⟩ rfl rfl (Nat.le_of_ble_eq_true rfl) ⟨Nat.zero_le _, Nat.zero_le _⟩ [0, 2] rfl rfl 0 rfl rfl dX10_lineItem_56 ?_
                rintro _ _ ⟨r_20, ⟨⟩, rfl, rfl, h⟩
                refine ga_to [(a 0, .inr (10, [.int x_rules, .int x_places, .ref (a 1), .ref (a 2), .ref (a 3), .int x_newRules, .int x_newPlaces, .ref (a 4), .ref (a 5), .ref (a 6), .ref (a 7), .ref (a 8), .int x_acts, .int x_kept, .int x_length, .ref (a 9), .int x_next_13, .int x_place, .int s1_17, .ref (a 10), .ref (a 11), .ref (a 12), .int x_parts, .int x_without, .ref (a 13), .ref (a 14), .ref (a 15), .ref (a 16), .int x_ways, .ref (a 17), .ref (a 18), .ref (a 19), .ref (a 20)])), (a 7, .inl (V.2 0, 61, .inl x_newSlot_15)), (a 9, .inl (V.2 2, 200, .inl x_text))] [.int r_20, .ref (a 0)] rfl rfl ?_
                try dsimp only at h
                refine ga_bipush hR (pc := 59) (v := nI 97) (by decide) dX10_lineItem_59 ?_
                refine ga_isub hR (pc := 61) dX10_lineItem_61 ?_
                refine ga_callV hR (pc := 62) (As := [.int (r_20 - (nI 97))]) (rest := []) (st0 := [.int (r_20 - (nI 97)), .ref (a 0)]) (b := (a 0)) 1 (c_X10_addsLetter V a x_rules x_places x_newRules x_newPlaces x_acts x_kept x_length x_next_13 x_place s1_17 x_parts x_without x_ways x_newSlot_15 (r_20 - (nI 97)) _ h) (ga_same_v fun _ => rfl) gX10_lineItem_X10_addsLetter rfl rfl rfl hd_X10_addsLetter ⟨Nat.le_of_ble_eq_true rfl, Nat.le_of_ble_eq_true rfl⟩ rfl rfl (Nat.le_of_ble_eq_true rfl) ⟨Nat.zero_le _, Nat.zero_le _⟩ [0, 1] rfl rfl 0 rfl rfl dX10_lineItem_62 ?_
                rintro _ _ ⟨x_newSlot_21, rfl, rfl, h⟩
                refine ga_to [(a 0, .inr (10, [.int x_rules, .int x_places, .ref (a 1), .ref (a 2), .ref (a 3), .int x_newRules, .int x_newPlaces, .ref (a 4), .ref (a 5), .ref (a 6), .ref (a 7), .ref (a 8), .int x_acts, .int x_kept, .int x_length, .ref (a 9), .int x_next_13, .int x_place, .int s1_17, .ref (a 10), .ref (a 11), .ref (a 12), .int x_parts, .int x_without, .ref (a 13), .ref (a 14), .ref (a 15), .ref (a 16), .int x_ways, .ref (a 17), .ref (a 18), .ref (a 19), .ref (a 20)])), (a 7, .inl (V.2 0, 61, .inl x_newSlot_21)), (a 9, .inl (V.2 2, 200, .inl x_text))] [] rfl rfl ?_
                try dsimp only at h
                refine ga_aload_n hR (pc := 65) 0 rfl rfl dX10_lineItem_65 ?_
                refine ga_dup hR (pc := 66) rfl dX10_lineItem_66 ?_
                refine ga_get hR (pc := 67) 0 rfl rfl hinX10 16 (by decide) f151 rfl dX10_lineItem_67 ?_
                refine ga_iconst hR (pc := 70) (v := nI 1) (by decide) dX10_lineItem_70 ?_
                refine ga_iadd hR (pc := 71) dX10_lineItem_71 ?_
                refine ga_topi (fun x_next_22 ex_next_22 => ?_)
                replace h := h x_next_22 ex_next_22
                refine ga_putf hR (pc := 72) (ws' := [(a 0, .inr (10, [.int x_rules, .int x_places, .ref (a 1), .ref (a 2), .ref (a 3), .int x_newRules, .int x_newPlaces, .ref (a 4), .ref (a 5), .ref (a 6), .ref (a 7), .ref (a 8), .int x_acts, .int x_kept, .int x_length, .ref (a 9), .int x_next_22, .int x_place, .int s1_17, .ref (a 10), .ref (a 11), .ref (a 12), .int x_parts, .int x_without, .ref (a 13), .ref (a 14), .ref (a 15), .ref (a 16), .int x_ways, .ref (a 17), .ref (a 18), .ref (a 19), .ref (a 20)])), (a 7, .inl (V.2 0, 61, .inl x_newSlot_21)), (a 9, .inl (V.2 2, 200, .inl x_text))]) 0 rfl rfl hinX10 16 (by decide) f151 tyX10_ok nmX10 rfl rfl rfl (Nat.le_of_ble_eq_true rfl) rfl dX10_lineItem_72 ?_
                refine ga_goto hR (pc := 75) 8 (by decide) dX10_lineItem_75 ?_
                exact ga_lv hR [0] rfl (ih _ _ _ h)
            · intro h
              refine ga_icmp_ne hR (pc := 32) 39 (by decide) dX10_lineItem_32 (fun c32 => ?_) (fun c32 => ?_)
              · replace h := h.1 c32
                refine ga_iconst hR (pc := 39) (v := nI 0) (by decide) dX10_lineItem_39 ?_
                exact ga_lv hR [0] rfl h
              · replace h := h.2 c32
                refine ga_iconst hR (pc := 35) (v := nI 1) (by decide) dX10_lineItem_35 ?_
                refine ga_goto hR (pc := 36) 40 (by decide) dX10_lineItem_36 ?_
                exact ga_lv hR [0] rfl h
    exact ga_lv hR [0] rfl (L8 n _ _ _ h)

def rm_X10_reads : Room := { frames := 5, cells := 0, slots := 0, locals := 111 }
theorem hd_X10_readsS : yX10_reads.cls ≠ "java/lang/invoke/MethodHandle" ∧ yX10_reads.cls ≠ "java/lang/invoke/VarHandle" ∧ (parseMethodDescriptor yX10_reads.desc).map (fun d => d.parameters.length) = some 0 := by decide +kernel
theorem hd_X10_reads : yX10_reads.cls = RX10 ∧ yX10_reads.cls ≠ "java/lang/invoke/MethodHandle" ∧ yX10_reads.cls ≠ "java/lang/invoke/VarHandle" ∧ (parseMethodDescriptor yX10_reads.desc).map (fun d => d.parameters.length) = some 0 := ⟨rfl, hd_X10_readsS⟩
set_option maxHeartbeats 4000000 in
set_option maxRecDepth 100000 in
theorem c_X10_reads (V : ga_V) (a : Nat → Nat) (x_rules : Int32) (x_places : Int32) (x_acts : Int32) (x_kept : Int32) (x_without : Int32) (x_ways : Int32) (x_newRules : Int32) (x_newPlaces : Int32) (x_length : Int32) (x_next : Int32) (x_place : Int32) (x_isWrong : Int32) (x_parts : Int32) (x_newRule : Nat → Int32) (x_newTakes : Nat → Int32) (x_newBehind : Nat → Int32) (x_newSlot : Nat → Int32) (x_text : Nat → Int32) (x_firsts : Nat → Int32) (x_lasts : Nat → Int32) (x_mays : Nat → Int32) (K : Int32 → Int32 → Int32 → Int32 → Int32 → Int32 → (Nat → Int32) → (Nat → Int32) → (Nat → Int32) → (Nat → Int32) → (Nat → Int32) → (Nat → Int32) → (Nat → Int32) → Prop) (h : wp_X10_reads x_newRules x_newPlaces x_length x_next x_place x_isWrong x_parts x_newRule x_newTakes x_newBehind x_newSlot x_text x_firsts x_lasts x_mays K) : ga_C V yX10_reads wsX10_reads rm_X10_reads [.ref (a 0)] [(a 0, .inr (10, [.int x_rules, .int x_places, .ref (a 1), .ref (a 2), .ref (a 3), .int x_newRules, .int x_newPlaces, .ref (a 4), .ref (a 5), .ref (a 6), .ref (a 7), .ref (a 8), .int x_acts, .int x_kept, .int x_length, .ref (a 9), .int x_next, .int x_place, .int x_isWrong, .ref (a 10), .ref (a 11), .ref (a 12), .int x_parts, .int x_without, .ref (a 13), .ref (a 14), .ref (a 15), .ref (a 16), .int x_ways, .ref (a 17), .ref (a 18), .ref (a 19), .ref (a 20)])), (a 4, .inl (V.2 0, 12, .inl x_newRule)), (a 5, .inl (V.2 0, 10, .inl x_newTakes)), (a 6, .inl (V.2 0, 10, .inl x_newBehind)), (a 7, .inl (V.2 0, 61, .inl x_newSlot)), (a 9, .inl (V.2 2, 200, .inl x_text)), (a 10, .inl (V.2 0, 18, .inl x_firsts)), (a 11, .inl (V.2 0, 18, .inl x_lasts)), (a 12, .inl (V.2 1, 18, .inl x_mays))] 0 0 (ga_Fv (fun (u : Int32 × Int32 × Int32 × Int32 × Int32 × Int32 × (Nat → Int32) × (Nat → Int32) × (Nat → Int32) × (Nat → Int32) × (Nat → Int32) × (Nat → Int32) × (Nat → Int32)) => [(a 0, .inr (10, [.int x_rules, .int x_places, .ref (a 1), .ref (a 2), .ref (a 3), .int u.1, .int u.2.1, .ref (a 4), .ref (a 5), .ref (a 6), .ref (a 7), .ref (a 8), .int x_acts, .int x_kept, .int x_length, .ref (a 9), .int u.2.2.1, .int u.2.2.2.1, .int u.2.2.2.2.1, .ref (a 10), .ref (a 11), .ref (a 12), .int u.2.2.2.2.2.1, .int x_without, .ref (a 13), .ref (a 14), .ref (a 15), .ref (a 16), .int x_ways, .ref (a 17), .ref (a 18), .ref (a 19), .ref (a 20)])), (a 4, .inl (V.2 0, 12, .inl u.2.2.2.2.2.2.1)), (a 5, .inl (V.2 0, 10, .inl u.2.2.2.2.2.2.2.1)), (a 6, .inl (V.2 0, 10, .inl u.2.2.2.2.2.2.2.2.1)), (a 7, .inl (V.2 0, 61, .inl u.2.2.2.2.2.2.2.2.2.1)), (a 9, .inl (V.2 2, 200, .inl x_text)), (a 10, .inl (V.2 0, 18, .inl u.2.2.2.2.2.2.2.2.2.2.1)), (a 11, .inl (V.2 0, 18, .inl u.2.2.2.2.2.2.2.2.2.2.2.1)), (a 12, .inl (V.2 1, 18, .inl u.2.2.2.2.2.2.2.2.2.2.2.2))]) (fun u => K u.1 u.2.1 u.2.2.1 u.2.2.2.1 u.2.2.2.2.1 u.2.2.2.2.2.1 u.2.2.2.2.2.2.1 u.2.2.2.2.2.2.2.1 u.2.2.2.2.2.2.2.2.1 u.2.2.2.2.2.2.2.2.2.1 u.2.2.2.2.2.2.2.2.2.2.1 u.2.2.2.2.2.2.2.2.2.2.2.1 u.2.2.2.2.2.2.2.2.2.2.2.2)) := by
  refine ga_met (cc := cX10_reads) (maxL := 2) (rt := none) (by decide) rfl [(0, .ref (a 0))] rfl (Nat.le_of_ble_eq_true rfl) ?_
  intro G hR hE
  have hinX10 : ∀ w ∈ u_ws RX10 TX10 33, w ∈ wsX10_reads := by decide +kernel
  have f151 : Cond.fieldLink RX10 151 "BoundaryRulesModel" "next" "I" ∈ wsX10_reads := by decide +kernel
  have f158 : Cond.fieldLink RX10 158 "BoundaryRulesModel" "isWrong" "Z" ∈ wsX10_reads := by decide +kernel
  have f148 : Cond.fieldLink RX10 148 "BoundaryRulesModel" "length" "I" ∈ wsX10_reads := by decide +kernel
  have f187 : Cond.fieldLink RX10 187 "BoundaryRulesModel" "place" "I" ∈ wsX10_reads := by decide +kernel
  unfold wp_X10_reads at h
  refine ga_aload_n hR (pc := 0) 0 rfl rfl dX10_reads_0 ?_
  refine ga_callV hR (pc := 1) (As := []) (rest := []) (st0 := [.ref (a 0)]) (b := (a 0)) 0 (c_X10_begins V a x_rules x_places x_acts x_kept x_length x_next x_place x_isWrong x_parts x_without x_ways x_newRules x_newPlaces x_newSlot _ h) (ga_same_v fun _ => rfl) gX10_reads_X10_begins rfl rfl rfl hd_X10_begins ⟨Nat.le_of_ble_eq_true rfl, Nat.le_of_ble_eq_true rfl⟩ rfl rfl (Nat.le_of_ble_eq_true rfl) ⟨Nat.zero_le _, Nat.zero_le _⟩ [0, 4] rfl rfl 0 rfl rfl dX10_reads_1 ?_
  rintro _ _ ⟨⟨x_newRules_1, x_newPlaces_2, x_newSlot_3⟩, rfl, rfl, h⟩
  refine ga_to [(a 0, .inr (10, [.int x_rules, .int x_places, .ref (a 1), .ref (a 2), .ref (a 3), .int x_newRules_1, .int x_newPlaces_2, .ref (a 4), .ref (a 5), .ref (a 6), .ref (a 7), .ref (a 8), .int x_acts, .int x_kept, .int x_length, .ref (a 9), .int x_next, .int x_place, .int x_isWrong, .ref (a 10), .ref (a 11), .ref (a 12), .int x_parts, .int x_without, .ref (a 13), .ref (a 14), .ref (a 15), .ref (a 16), .int x_ways, .ref (a 17), .ref (a 18), .ref (a 19), .ref (a 20)])), (a 4, .inl (V.2 0, 12, .inl x_newRule)), (a 5, .inl (V.2 0, 10, .inl x_newTakes)), (a 6, .inl (V.2 0, 10, .inl x_newBehind)), (a 7, .inl (V.2 0, 61, .inl x_newSlot_3)), (a 9, .inl (V.2 2, 200, .inl x_text)), (a 10, .inl (V.2 0, 18, .inl x_firsts)), (a 11, .inl (V.2 0, 18, .inl x_lasts)), (a 12, .inl (V.2 1, 18, .inl x_mays))] [] rfl rfl ?_
  try dsimp only at h
  refine ga_aload_n hR (pc := 4) 0 rfl rfl dX10_reads_4 ?_
  refine ga_iconst hR (pc := 5) (v := nI 0) (by decide) dX10_reads_5 ?_
  refine ga_putf hR (pc := 6) (ws' := [(a 0, .inr (10, [.int x_rules, .int x_places, .ref (a 1), .ref (a 2), .ref (a 3), .int x_newRules_1, .int x_newPlaces_2, .ref (a 4), .ref (a 5), .ref (a 6), .ref (a 7), .ref (a 8), .int x_acts, .int x_kept, .int x_length, .ref (a 9), .int (nI 0), .int x_place, .int x_isWrong, .ref (a 10), .ref (a 11), .ref (a 12), .int x_parts, .int x_without, .ref (a 13), .ref (a 14), .ref (a 15), .ref (a 16), .int x_ways, .ref (a 17), .ref (a 18), .ref (a 19), .ref (a 20)])), (a 4, .inl (V.2 0, 12, .inl x_newRule)), (a 5, .inl (V.2 0, 10, .inl x_newTakes)), (a 6, .inl (V.2 0, 10, .inl x_newBehind)), (a 7, .inl (V.2 0, 61, .inl x_newSlot_3)), (a 9, .inl (V.2 2, 200, .inl x_text)), (a 10, .inl (V.2 0, 18, .inl x_firsts)), (a 11, .inl (V.2 0, 18, .inl x_lasts)), (a 12, .inl (V.2 1, 18, .inl x_mays))]) 0 rfl rfl hinX10 16 (by decide) f151 tyX10_ok nmX10 rfl rfl rfl (Nat.le_of_ble_eq_true rfl) rfl dX10_reads_6 ?_
  refine ga_aload_n hR (pc := 9) 0 rfl rfl dX10_reads_9 ?_
  refine ga_iconst hR (pc := 10) (v := nI 0) (by decide) dX10_reads_10 ?_
  refine ga_putf hR (pc := 11) (ws' := [(a 0, .inr (10, [.int x_rules, .int x_places, .ref (a 1), .ref (a 2), .ref (a 3), .int x_newRules_1, .int x_newPlaces_2, .ref (a 4), .ref (a 5), .ref (a 6), .ref (a 7), .ref (a 8), .int x_acts, .int x_kept, .int x_length, .ref (a 9), .int (nI 0), .int x_place, .int (nI 0), .ref (a 10), .ref (a 11), .ref (a 12), .int x_parts, .int x_without, .ref (a 13), .ref (a 14), .ref (a 15), .ref (a 16), .int x_ways, .ref (a 17), .ref (a 18), .ref (a 19), .ref (a 20)])), (a 4, .inl (V.2 0, 12, .inl x_newRule)), (a 5, .inl (V.2 0, 10, .inl x_newTakes)), (a 6, .inl (V.2 0, 10, .inl x_newBehind)), (a 7, .inl (V.2 0, 61, .inl x_newSlot_3)), (a 9, .inl (V.2 2, 200, .inl x_text)), (a 10, .inl (V.2 0, 18, .inl x_firsts)), (a 11, .inl (V.2 0, 18, .inl x_lasts)), (a 12, .inl (V.2 1, 18, .inl x_mays))]) 0 rfl rfl hinX10 18 (by decide) f158 tyX10_ok nmX10 rfl (by decide) (by decide) (Nat.le_of_ble_eq_true rfl) rfl dX10_reads_11 ?_
  have hJ := h (fun (x_newRules_4 : Int32) (x_newPlaces_5 : Int32) (x_next_6 : Int32) (x_place_7 : Int32) (x_isWrong_8 : Int32) (x_parts_9 : Int32) (x_newRule_10 : Nat → Int32) (x_newTakes_11 : Nat → Int32) (x_newBehind_12 : Nat → Int32) (x_newSlot_13 : Nat → Int32) (x_firsts_14 : Nat → Int32) (x_lasts_15 : Nat → Int32) (x_mays_16 : Nat → Int32) => G 0 0 [(a 0, .inr (10, [.int x_rules, .int x_places, .ref (a 1), .ref (a 2), .ref (a 3), .int x_newRules_4, .int x_newPlaces_5, .ref (a 4), .ref (a 5), .ref (a 6), .ref (a 7), .ref (a 8), .int x_acts, .int x_kept, .int x_length, .ref (a 9), .int x_next_6, .int x_place_7, .int x_isWrong_8, .ref (a 10), .ref (a 11), .ref (a 12), .int x_parts_9, .int x_without, .ref (a 13), .ref (a 14), .ref (a 15), .ref (a 16), .int x_ways, .ref (a 17), .ref (a 18), .ref (a 19), .ref (a 20)])), (a 4, .inl (V.2 0, 12, .inl x_newRule_10)), (a 5, .inl (V.2 0, 10, .inl x_newTakes_11)), (a 6, .inl (V.2 0, 10, .inl x_newBehind_12)), (a 7, .inl (V.2 0, 61, .inl x_newSlot_13)), (a 9, .inl (V.2 2, 200, .inl x_text)), (a 10, .inl (V.2 0, 18, .inl x_firsts_14)), (a 11, .inl (V.2 0, 18, .inl x_lasts_15)), (a 12, .inl (V.2 1, 18, .inl x_mays_16))] 145 [] [])
  refine ga_bind hJ ?_ ?_
  · intro x_newRules_4 x_newPlaces_5 x_next_6 x_place_7 x_isWrong_8 x_parts_9 x_newRule_10 x_newTakes_11 x_newBehind_12 x_newSlot_13 x_firsts_14 x_lasts_15 x_mays_16 h
    show G 0 0 [(a 0, .inr (10, [.int x_rules, .int x_places, .ref (a 1), .ref (a 2), .ref (a 3), .int x_newRules_4, .int x_newPlaces_5, .ref (a 4), .ref (a 5), .ref (a 6), .ref (a 7), .ref (a 8), .int x_acts, .int x_kept, .int x_length, .ref (a 9), .int x_next_6, .int x_place_7, .int x_isWrong_8, .ref (a 10), .ref (a 11), .ref (a 12), .int x_parts_9, .int x_without, .ref (a 13), .ref (a 14), .ref (a 15), .ref (a 16), .int x_ways, .ref (a 17), .ref (a 18), .ref (a 19), .ref (a 20)])), (a 4, .inl (V.2 0, 12, .inl x_newRule_10)), (a 5, .inl (V.2 0, 10, .inl x_newTakes_11)), (a 6, .inl (V.2 0, 10, .inl x_newBehind_12)), (a 7, .inl (V.2 0, 61, .inl x_newSlot_13)), (a 9, .inl (V.2 2, 200, .inl x_text)), (a 10, .inl (V.2 0, 18, .inl x_firsts_14)), (a 11, .inl (V.2 0, 18, .inl x_lasts_15)), (a 12, .inl (V.2 1, 18, .inl x_mays_16))] 145 [] []
    exact ga_vret hE dX10_reads_145 (ga_rv (x_newRules_4, x_newPlaces_5, x_next_6, x_place_7, x_isWrong_8, x_parts_9, x_newRule_10, x_newTakes_11, x_newBehind_12, x_newSlot_13, x_firsts_14, x_lasts_15, x_mays_16) rfl h)
  · intro h
    obtain ⟨n, h⟩ := h
    have L14 : ∀ (n : Nat) (x_newRules_55 : Int32) (x_newPlaces_56 : Int32) (x_next_57 : Int32) (x_place_58 : Int32) (x_isWrong_59 : Int32) (x_parts_60 : Int32) (x_newRule_61 : Nat → Int32) (x_newTakes_62 : Nat → Int32) (x_newBehind_63 : Nat → Int32) (x_newSlot_64 : Nat → Int32) (x_firsts_65 : Nat → Int32) (x_lasts_66 : Nat → Int32) (x_mays_67 : Nat → Int32), lp_X10_reads_14 x_length x_text (fun (x_newRules_4 : Int32) (x_newPlaces_5 : Int32) (x_next_6 : Int32) (x_place_7 : Int32) (x_isWrong_8 : Int32) (x_parts_9 : Int32) (x_newRule_10 : Nat → Int32) (x_newTakes_11 : Nat → Int32) (x_newBehind_12 : Nat → Int32) (x_newSlot_13 : Nat → Int32) (x_firsts_14 : Nat → Int32) (x_lasts_15 : Nat → Int32) (x_mays_16 : Nat → Int32) => G 0 0 [(a 0, .inr (10, [.int x_rules, .int x_places, .ref (a 1), .ref (a 2), .ref (a 3), .int x_newRules_4, .int x_newPlaces_5, .ref (a 4), .ref (a 5), .ref (a 6), .ref (a 7), .ref (a 8), .int x_acts, .int x_kept, .int x_length, .ref (a 9), .int x_next_6, .int x_place_7, .int x_isWrong_8, .ref (a 10), .ref (a 11), .ref (a 12), .int x_parts_9, .int x_without, .ref (a 13), .ref (a 14), .ref (a 15), .ref (a 16), .int x_ways, .ref (a 17), .ref (a 18), .ref (a 19), .ref (a 20)])), (a 4, .inl (V.2 0, 12, .inl x_newRule_10)), (a 5, .inl (V.2 0, 10, .inl x_newTakes_11)), (a 6, .inl (V.2 0, 10, .inl x_newBehind_12)), (a 7, .inl (V.2 0, 61, .inl x_newSlot_13)), (a 9, .inl (V.2 2, 200, .inl x_text)), (a 10, .inl (V.2 0, 18, .inl x_firsts_14)), (a 11, .inl (V.2 0, 18, .inl x_lasts_15)), (a 12, .inl (V.2 1, 18, .inl x_mays_16))] 145 [] []) n x_newRules_55 x_newPlaces_56 x_next_57 x_place_58 x_isWrong_59 x_parts_60 x_newRule_61 x_newTakes_62 x_newBehind_63 x_newSlot_64 x_firsts_65 x_lasts_66 x_mays_67 → G 0 0 [(a 0, .inr (10, [.int x_rules, .int x_places, .ref (a 1), .ref (a 2), .ref (a 3), .int x_newRules_55, .int x_newPlaces_56, .ref (a 4), .ref (a 5), .ref (a 6), .ref (a 7), .ref (a 8), .int x_acts, .int x_kept, .int x_length, .ref (a 9), .int x_next_57, .int x_place_58, .int x_isWrong_59, .ref (a 10), .ref (a 11), .ref (a 12), .int x_parts_60, .int x_without, .ref (a 13), .ref (a 14), .ref (a 15), .ref (a 16), .int x_ways, .ref (a 17), .ref (a 18), .ref (a 19), .ref (a 20)])), (a 4, .inl (V.2 0, 12, .inl x_newRule_61)), (a 5, .inl (V.2 0, 10, .inl x_newTakes_62)), (a 6, .inl (V.2 0, 10, .inl x_newBehind_63)), (a 7, .inl (V.2 0, 61, .inl x_newSlot_64)), (a 9, .inl (V.2 2, 200, .inl x_text)), (a 10, .inl (V.2 0, 18, .inl x_firsts_65)), (a 11, .inl (V.2 0, 18, .inl x_lasts_66)), (a 12, .inl (V.2 1, 18, .inl x_mays_67))] 14 [(0, .ref (a 0))] [] := by
      intro n
      induction n with
      | zero => exact fun _ _ _ _ _ _ _ _ _ _ _ _ _ h => False.elim h
      | succ n ih =>
        intro x_newRules_55 x_newPlaces_56 x_next_57 x_place_58 x_isWrong_59 x_parts_60 x_newRule_61 x_newTakes_62 x_newBehind_63 x_newSlot_64 x_firsts_65 x_lasts_66 x_mays_67 h
        rw [lp_X10_reads_14] at h
        refine ga_aload_n hR (pc := 14) 0 rfl rfl dX10_reads_14 ?_
        refine ga_get hR (pc := 15) 0 rfl rfl hinX10 16 (by decide) f151 rfl dX10_reads_15 ?_
        refine ga_aload_n hR (pc := 18) 0 rfl rfl dX10_reads_18 ?_
        refine ga_get hR (pc := 19) 0 rfl rfl hinX10 14 (by decide) f148 rfl dX10_reads_19 ?_
        refine ga_icmp_ge hR (pc := 22) 145 (by decide) dX10_reads_22 (fun c22 => ?_) (fun c22 => ?_)
        · replace h := h.1 c22
          exact ga_lv hR [] rfl h
        · replace h := h.2 c22
          refine ga_aload_n hR (pc := 25) 0 rfl rfl dX10_reads_25 ?_
          refine ga_get hR (pc := 26) 0 rfl rfl hinX10 18 (by decide) f158 rfl dX10_reads_26 ?_
          refine ga_if_ne hR (pc := 29) 145 (by decide) dX10_reads_29 (fun c29 => ?_) (fun c29 => ?_)
          · replace h := h.1 c29
            exact ga_lv hR [] rfl h
          · replace h := h.2 c29
            refine ga_aload_n hR (pc := 32) 0 rfl rfl dX10_reads_32 ?_
            refine ga_aload_n hR (pc := 33) 0 rfl rfl dX10_reads_33 ?_
            refine ga_get hR (pc := 34) 0 rfl rfl hinX10 16 (by decide) f151 rfl dX10_reads_34 ?_
            refine ga_putf hR (pc := 37) (ws' := [(a 0, .inr (10, [.int x_rules, .int x_places, .ref (a 1), .ref (a 2), .ref (a 3), .int x_newRules_55, .int x_newPlaces_56, .ref (a 4), .ref (a 5), .ref (a 6), .ref (a 7), .ref (a 8), .int x_acts, .int x_kept, .int x_length, .ref (a 9), .int x_next_57, .int x_next_57, .int x_isWrong_59, .ref (a 10), .ref (a 11), .ref (a 12), .int x_parts_60, .int x_without, .ref (a 13), .ref (a 14), .ref (a 15), .ref (a 16), .int x_ways, .ref (a 17), .ref (a 18), .ref (a 19), .ref (a 20)])), (a 4, .inl (V.2 0, 12, .inl x_newRule_61)), (a 5, .inl (V.2 0, 10, .inl x_newTakes_62)), (a 6, .inl (V.2 0, 10, .inl x_newBehind_63)), (a 7, .inl (V.2 0, 61, .inl x_newSlot_64)), (a 9, .inl (V.2 2, 200, .inl x_text)), (a 10, .inl (V.2 0, 18, .inl x_firsts_65)), (a 11, .inl (V.2 0, 18, .inl x_lasts_66)), (a 12, .inl (V.2 1, 18, .inl x_mays_67))]) 0 rfl rfl hinX10 17 (by decide) f187 tyX10_ok nmX10 rfl rfl rfl (Nat.le_of_ble_eq_true rfl) rfl dX10_reads_37 ?_
            refine ga_aload_n hR (pc := 40) 0 rfl rfl dX10_reads_40 ?_
            refine ga_aload_n hR (pc := 41) 0 rfl rfl dX10_reads_41 ?_
            refine ga_get hR (pc := 42) 0 rfl rfl hinX10 16 (by decide) f151 rfl dX10_reads_42 ?_
            refine ga_callV hR (pc := 45) (As := [.int x_next_57]) (rest := []) (st0 := [.int x_next_57, .ref (a 0)]) (b := (a 0)) 1 (c_X10_letterAt V a x_rules x_places x_newRules_55 x_newPlaces_56 x_acts x_kept x_next_57 x_next_57 x_isWrong_59 x_parts_60 x_without x_ways x_length x_text x_next_57 _ h) (ga_same_i fun _ => rfl) gX10_reads_X10_letterAt rfl rfl rfl hd_X10_letterAt ⟨Nat.le_of_ble_eq_true rfl, Nat.le_of_ble_eq_true rfl⟩ rfl rfl (Nat.le_of_ble_eq_true rfl) ⟨Nat.zero_le _, Nat.zero_le _⟩ [0, 5] rfl rfl 0 rfl rfl dX10_reads_45 ?_
            rintro _ _ ⟨r_68, ⟨⟩, rfl, rfl, h⟩
            refine ga_to [(a 0, .inr (10, [.int x_rules, .int x_places, .ref (a 1), .ref (a 2), .ref (a 3), .int x_newRules_55, .int x_newPlaces_56, .ref (a 4), .ref (a 5), .ref (a 6), .ref (a 7), .ref (a 8), .int x_acts, .int x_kept, .int x_length, .ref (a 9), .int x_next_57, .int x_next_57, .int x_isWrong_59, .ref (a 10), .ref (a 11), .ref (a 12), .int x_parts_60, .int x_without, .ref (a 13), .ref (a 14), .ref (a 15), .ref (a 16), .int x_ways, .ref (a 17), .ref (a 18), .ref (a 19), .ref (a 20)])), (a 4, .inl (V.2 0, 12, .inl x_newRule_61)), (a 5, .inl (V.2 0, 10, .inl x_newTakes_62)), (a 6, .inl (V.2 0, 10, .inl x_newBehind_63)), (a 7, .inl (V.2 0, 61, .inl x_newSlot_64)), (a 9, .inl (V.2 2, 200, .inl x_text)), (a 10, .inl (V.2 0, 18, .inl x_firsts_65)), (a 11, .inl (V.2 0, 18, .inl x_lasts_66)), (a 12, .inl (V.2 1, 18, .inl x_mays_67))] [.int r_68] rfl rfl ?_
            try dsimp only at h
            refine ga_istore_n hR (pc := 48) (lv' := [(1, .int r_68), (0, .ref (a 0))]) rfl (by decide) rfl dX10_reads_48 ?_
            refine ga_aload_n hR (pc := 49) 1 rfl rfl dX10_reads_49 ?_
            refine ga_dup hR (pc := 50) rfl dX10_reads_50 ?_
            refine ga_get hR (pc := 51) 0 rfl rfl hinX10 16 (by decide) f151 rfl dX10_reads_51 ?_
            refine ga_iconst hR (pc := 54) (v := nI 1) (by decide) dX10_reads_54 ?_
            refine ga_iadd hR (pc := 55) dX10_reads_55 ?_
            refine ga_topi (fun x_next_69 ex_next_69 => ?_)
            replace h := h x_next_69 ex_next_69
            refine ga_putf hR (pc := 56) (ws' := [(a 0, .inr (10, [.int x_rules, .int x_places, .ref (a 1), .ref (a 2), .ref (a 3), .int x_newRules_55, .int x_newPlaces_56, .ref (a 4), .ref (a 5), .ref (a 6), .ref (a 7), .ref (a 8), .int x_acts, .int x_kept, .int x_length, .ref (a 9), .int x_next_69, .int x_next_57, .int x_isWrong_59, .ref (a 10), .ref (a 11), .ref (a 12), .int x_parts_60, .int x_without, .ref (a 13), .ref (a 14), .ref (a 15), .ref (a 16), .int x_ways, .ref (a 17), .ref (a 18), .ref (a 19), .ref (a 20)])), (a 4, .inl (V.2 0, 12, .inl x_newRule_61)), (a 5, .inl (V.2 0, 10, .inl x_newTakes_62)), (a 6, .inl (V.2 0, 10, .inl x_newBehind_63)), (a 7, .inl (V.2 0, 61, .inl x_newSlot_64)), (a 9, .inl (V.2 2, 200, .inl x_text)), (a 10, .inl (V.2 0, 18, .inl x_firsts_65)), (a 11, .inl (V.2 0, 18, .inl x_lasts_66)), (a 12, .inl (V.2 1, 18, .inl x_mays_67))]) 0 rfl rfl hinX10 16 (by decide) f151 tyX10_ok nmX10 rfl rfl rfl (Nat.le_of_ble_eq_true rfl) rfl dX10_reads_56 ?_
            refine ga_iload_n hR (pc := 59) 0 rfl rfl dX10_reads_59 ?_
            refine ga_bipush hR (pc := 60) (v := nI 99) (by decide) dX10_reads_60 ?_
            have hJ := h (fun (x_newRules_70 : Int32) (x_newPlaces_71 : Int32) (x_next_72 : Int32) (x_isWrong_73 : Int32) (x_parts_74 : Int32) (x_newRule_75 : Nat → Int32) (x_newTakes_76 : Nat → Int32) (x_newBehind_77 : Nat → Int32) (x_newSlot_78 : Nat → Int32) (x_firsts_79 : Nat → Int32) (x_lasts_80 : Nat → Int32) (x_mays_81 : Nat → Int32) => G 0 0 [(a 0, .inr (10, [.int x_rules, .int x_places, .ref (a 1), .ref (a 2), .ref (a 3), .int x_newRules_70, .int x_newPlaces_71, .ref (a 4), .ref (a 5), .ref (a 6), .ref (a 7), .ref (a 8), .int x_acts, .int x_kept, .int x_length, .ref (a 9), .int x_next_72, .int x_next_57, .int x_isWrong_73, .ref (a 10), .ref (a 11), .ref (a 12), .int x_parts_74, .int x_without, .ref (a 13), .ref (a 14), .ref (a 15), .ref (a 16), .int x_ways, .ref (a 17), .ref (a 18), .ref (a 19), .ref (a 20)])), (a 4, .inl (V.2 0, 12, .inl x_newRule_75)), (a 5, .inl (V.2 0, 10, .inl x_newTakes_76)), (a 6, .inl (V.2 0, 10, .inl x_newBehind_77)), (a 7, .inl (V.2 0, 61, .inl x_newSlot_78)), (a 9, .inl (V.2 2, 200, .inl x_text)), (a 10, .inl (V.2 0, 18, .inl x_firsts_79)), (a 11, .inl (V.2 0, 18, .inl x_lasts_80)), (a 12, .inl (V.2 1, 18, .inl x_mays_81))] 103 [(0, .ref (a 0))] [])
            refine ga_bind hJ ?_ ?_
            · intro x_newRules_70 x_newPlaces_71 x_next_72 x_isWrong_73 x_parts_74 x_newRule_75 x_newTakes_76 x_newBehind_77 x_newSlot_78 x_firsts_79 x_lasts_80 x_mays_81 h
              show G 0 0 [(a 0, .inr (10, [.int x_rules, .int x_places, .ref (a 1), .ref (a 2), .ref (a 3), .int x_newRules_70, .int x_newPlaces_71, .ref (a 4), .ref (a 5), .ref (a 6), .ref (a 7), .ref (a 8), .int x_acts, .int x_kept, .int x_length, .ref (a 9), .int x_next_72, .int x_next_57, .int x_isWrong_73, .ref (a 10), .ref (a 11), .ref (a 12), .int x_parts_74, .int x_without, .ref (a 13), .ref (a 14), .ref (a 15), .ref (a 16), .int x_ways, .ref (a 17), .ref (a 18), .ref (a 19), .ref (a 20)])), (a 4, .inl (V.2 0, 12, .inl x_newRule_75)), (a 5, .inl (V.2 0, 10, .inl x_newTakes_76)), (a 6, .inl (V.2 0, 10, .inl x_newBehind_77)), (a 7, .inl (V.2 0, 61, .inl x_newSlot_78)), (a 9, .inl (V.2 2, 200, .inl x_text)), (a 10, .inl (V.2 0, 18, .inl x_firsts_79)), (a 11, .inl (V.2 0, 18, .inl x_lasts_80)), (a 12, .inl (V.2 1, 18, .inl x_mays_81))] 103 [(0, .ref (a 0))] []
              refine ga_aload_n hR (pc := 103) 0 rfl rfl dX10_reads_103 ?_
              refine ga_aload_n hR (pc := 104) 0 rfl rfl dX10_reads_104 ?_
              refine ga_get hR (pc := 105) 0 rfl rfl hinX10 18 (by decide) f158 rfl dX10_reads_105 ?_
              have hJ := h (G 0 0 [(a 0, .inr (10, [.int x_rules, .int x_places, .ref (a 1), .ref (a 2), .ref (a 3), .int x_newRules_70, .int x_newPlaces_71, .ref (a 4), .ref (a 5), .ref (a 6), .ref (a 7), .ref (a 8), .int x_acts, .int x_kept, .int x_length, .ref (a 9), .int x_next_72, .int x_next_57, .int x_isWrong_73, .ref (a 10), .ref (a 11), .ref (a 12), .int x_parts_74, .int x_without, .ref (a 13), .ref (a 14), .ref (a 15), .ref (a 16), .int x_ways, .ref (a 17), .ref (a 18), .ref (a 19), .ref (a 20)])), (a 4, .inl (V.2 0, 12, .inl x_newRule_75)), (a 5, .inl (V.2 0, 10, .inl x_newTakes_76)), (a 6, .inl (V.2 0, 10, .inl x_newBehind_77)), (a 7, .inl (V.2 0, 61, .inl x_newSlot_78)), (a 9, .inl (V.2 2, 200, .inl x_text)), (a 10, .inl (V.2 0, 18, .inl x_firsts_79)), (a 11, .inl (V.2 0, 18, .inl x_lasts_80)), (a 12, .inl (V.2 1, 18, .inl x_mays_81))] 124 [(0, .ref (a 0))] [.ref (a 0)])
              refine ga_bind hJ ?_ ?_
              · intro h
                show G 0 0 [(a 0, .inr (10, [.int x_rules, .int x_places, .ref (a 1), .ref (a 2), .ref (a 3), .int x_newRules_70, .int x_newPlaces_71, .ref (a 4), .ref (a 5), .ref (a 6), .ref (a 7), .ref (a 8), .int x_acts, .int x_kept, .int x_length, .ref (a 9), .int x_next_72, .int x_next_57, .int x_isWrong_73, .ref (a 10), .ref (a 11), .ref (a 12), .int x_parts_74, .int x_without, .ref (a 13), .ref (a 14), .ref (a 15), .ref (a 16), .int x_ways, .ref (a 17), .ref (a 18), .ref (a 19), .ref (a 20)])), (a 4, .inl (V.2 0, 12, .inl x_newRule_75)), (a 5, .inl (V.2 0, 10, .inl x_newTakes_76)), (a 6, .inl (V.2 0, 10, .inl x_newBehind_77)), (a 7, .inl (V.2 0, 61, .inl x_newSlot_78)), (a 9, .inl (V.2 2, 200, .inl x_text)), (a 10, .inl (V.2 0, 18, .inl x_firsts_79)), (a 11, .inl (V.2 0, 18, .inl x_lasts_80)), (a 12, .inl (V.2 1, 18, .inl x_mays_81))] 124 [(0, .ref (a 0))] [.ref (a 0)]
                refine ga_iconst hR (pc := 124) (v := nI 1) (by decide) dX10_reads_124 ?_
                refine ga_goto hR (pc := 125) 129 (by decide) dX10_reads_125 ?_
                refine ga_putf hR (pc := 129) (ws' := [(a 0, .inr (10, [.int x_rules, .int x_places, .ref (a 1), .ref (a 2), .ref (a 3), .int x_newRules_70, .int x_newPlaces_71, .ref (a 4), .ref (a 5), .ref (a 6), .ref (a 7), .ref (a 8), .int x_acts, .int x_kept, .int x_length, .ref (a 9), .int x_next_72, .int x_next_57, .int (nI 1), .ref (a 10), .ref (a 11), .ref (a 12), .int x_parts_74, .int x_without, .ref (a 13), .ref (a 14), .ref (a 15), .ref (a 16), .int x_ways, .ref (a 17), .ref (a 18), .ref (a 19), .ref (a 20)])), (a 4, .inl (V.2 0, 12, .inl x_newRule_75)), (a 5, .inl (V.2 0, 10, .inl x_newTakes_76)), (a 6, .inl (V.2 0, 10, .inl x_newBehind_77)), (a 7, .inl (V.2 0, 61, .inl x_newSlot_78)), (a 9, .inl (V.2 2, 200, .inl x_text)), (a 10, .inl (V.2 0, 18, .inl x_firsts_79)), (a 11, .inl (V.2 0, 18, .inl x_lasts_80)), (a 12, .inl (V.2 1, 18, .inl x_mays_81))]) 0 rfl rfl hinX10 18 (by decide) f158 tyX10_ok nmX10 rfl (by decide) (by decide) (Nat.le_of_ble_eq_true rfl) rfl dX10_reads_129 ?_
                refine ga_aload_n hR (pc := 132) 0 rfl rfl dX10_reads_132 ?_
                refine ga_dup hR (pc := 133) rfl dX10_reads_133 ?_
                refine ga_get hR (pc := 134) 0 rfl rfl hinX10 16 (by decide) f151 rfl dX10_reads_134 ?_
                refine ga_iconst hR (pc := 137) (v := nI 1) (by decide) dX10_reads_137 ?_
                refine ga_iadd hR (pc := 138) dX10_reads_138 ?_
                refine ga_topi (fun x_next_84 ex_next_84 => ?_)
                replace h := h x_next_84 ex_next_84
                refine ga_putf hR (pc := 139) (ws' := [(a 0, .inr (10, [.int x_rules, .int x_places, .ref (a 1), .ref (a 2), .ref (a 3), .int x_newRules_70, .int x_newPlaces_71, .ref (a 4), .ref (a 5), .ref (a 6), .ref (a 7), .ref (a 8), .int x_acts, .int x_kept, .int x_length, .ref (a 9), .int x_next_84, .int x_next_57, .int (nI 1), .ref (a 10), .ref (a 11), .ref (a 12), .int x_parts_74, .int x_without, .ref (a 13), .ref (a 14), .ref (a 15), .ref (a 16), .int x_ways, .ref (a 17), .ref (a 18), .ref (a 19), .ref (a 20)])), (a 4, .inl (V.2 0, 12, .inl x_newRule_75)), (a 5, .inl (V.2 0, 10, .inl x_newTakes_76)), (a 6, .inl (V.2 0, 10, .inl x_newBehind_77)), (a 7, .inl (V.2 0, 61, .inl x_newSlot_78)), (a 9, .inl (V.2 2, 200, .inl x_text)), (a 10, .inl (V.2 0, 18, .inl x_firsts_79)), (a 11, .inl (V.2 0, 18, .inl x_lasts_80)), (a 12, .inl (V.2 1, 18, .inl x_mays_81))]) 0 rfl rfl hinX10 16 (by decide) f151 tyX10_ok nmX10 rfl rfl rfl (Nat.le_of_ble_eq_true rfl) rfl dX10_reads_139 ?_
                refine ga_goto hR (pc := 142) 14 (by decide) dX10_reads_142 ?_
                exact ga_lv hR [0] rfl (ih _ _ _ _ _ _ _ _ _ _ _ _ _ h)
              · intro h
                refine ga_if_ne hR (pc := 108) 124 (by decide) dX10_reads_108 (fun c108 => ?_) (fun c108 => ?_)
                · replace h := h.1 c108
                  exact ga_lv hR [0] rfl h
                · replace h := h.2 c108
                  refine ga_aload_n hR (pc := 111) 0 rfl rfl dX10_reads_111 ?_
                  refine ga_aload_n hR (pc := 112) 0 rfl rfl dX10_reads_112 ?_
                  refine ga_get hR (pc := 113) 0 rfl rfl hinX10 16 (by decide) f151 rfl dX10_reads_113 ?_
                  refine ga_callV hR (pc := 116) (As := [.int x_next_72]) (rest := [.ref (a 0)]) (st0 := [.int x_next_72, .ref (a 0), .ref (a 0)]) (b := (a 0)) 1 (c_X10_letterAt V a x_rules x_places x_newRules_70 x_newPlaces_71 x_acts x_kept x_next_72 x_next_57 x_isWrong_73 x_parts_74 x_without x_ways x_length x_text x_next_72 _ h) (ga_same_i fun _ => rfl) gX10_reads_X10_letterAt rfl rfl rfl hd_X10_letterAt ⟨Nat.le_of_ble_eq_true rfl, Nat.le_of_ble_eq_true rfl⟩ rfl rfl (Nat.le_of_ble_eq_true rfl) ⟨Nat.zero_le _, Nat.zero_le _⟩ [0, 5] rfl rfl 0 rfl rfl dX10_reads_116 ?_
                  rintro _ _ ⟨r_85, ⟨⟩, rfl, rfl, h⟩
                  refine ga_to [(a 0, .inr (10, [.int x_rules, .int x_places, .ref (a 1), .ref (a 2), .ref (a 3), .int x_newRules_70, .int x_newPlaces_71, .ref (a 4), .ref (a 5), .ref (a 6), .ref (a 7), .ref (a 8), .int x_acts, .int x_kept, .int x_length, .ref (a 9), .int x_next_72, .int x_next_57, .int x_isWrong_73, .ref (a 10), .ref (a 11), .ref (a 12), .int x_parts_74, .int x_without, .ref (a 13), .ref (a 14), .ref (a 15), .ref (a 16), .int x_ways, .ref (a 17), .ref (a 18), .ref (a 19), .ref (a 20)])), (a 4, .inl (V.2 0, 12, .inl x_newRule_75)), (a 5, .inl (V.2 0, 10, .inl x_newTakes_76)), (a 6, .inl (V.2 0, 10, .inl x_newBehind_77)), (a 7, .inl (V.2 0, 61, .inl x_newSlot_78)), (a 9, .inl (V.2 2, 200, .inl x_text)), (a 10, .inl (V.2 0, 18, .inl x_firsts_79)), (a 11, .inl (V.2 0, 18, .inl x_lasts_80)), (a 12, .inl (V.2 1, 18, .inl x_mays_81))] [.int r_85, .ref (a 0)] rfl rfl ?_
                  try dsimp only at h
                  refine ga_bipush hR (pc := 119) (v := nI 59) (by decide) dX10_reads_119 ?_
                  refine ga_icmp_eq hR (pc := 121) 128 (by decide) dX10_reads_121 (fun c121 => ?_) (fun c121 => ?_)
                  · replace h := h.1 c121
                    refine ga_iconst hR (pc := 128) (v := nI 0) (by decide) dX10_reads_128 ?_
                    refine ga_putf hR (pc := 129) (ws' := [(a 0, .inr (10, [.int x_rules, .int x_places, .ref (a 1), .ref (a 2), .ref (a 3), .int x_newRules_70, .int x_newPlaces_71, .ref (a 4), .ref (a 5), .ref (a 6), .ref (a 7), .ref (a 8), .int x_acts, .int x_kept, .int x_length, .ref (a 9), .int x_next_72, .int x_next_57, .int (nI 0), .ref (a 10), .ref (a 11), .ref (a 12), .int x_parts_74, .int x_without, .ref (a 13), .ref (a 14), .ref (a 15), .ref (a 16), .int x_ways, .ref (a 17), .ref (a 18), .ref (a 19), .ref (a 20)])), (a 4, .inl (V.2 0, 12, .inl x_newRule_75)), (a 5, .inl (V.2 0, 10, .inl x_newTakes_76)), (a 6, .inl (V.2 0, 10, .inl x_newBehind_77)), (a 7, .inl (V.2 0, 61, .inl x_newSlot_78)), (a 9, .inl (V.2 2, 200, .inl x_text)), (a 10, .inl (V.2 0, 18, .inl x_firsts_79)), (a 11, .inl (V.2 0, 18, .inl x_lasts_80)), (a 12, .inl (V.2 1, 18, .inl x_mays_81))]) 0 rfl rfl hinX10 18 (by decide) f158 tyX10_ok nmX10 rfl (by decide) (by decide) (Nat.le_of_ble_eq_true rfl) rfl dX10_reads_129 ?_
                    refine ga_aload_n hR (pc := 132) 0 rfl rfl dX10_reads_132 ?_
                    refine ga_dup hR (pc := 133) rfl dX10_reads_133 ?_
                    refine ga_get hR (pc := 134) 0 rfl rfl hinX10 16 (by decide) f151 rfl dX10_reads_134 ?_
                    refine ga_iconst hR (pc := 137) (v := nI 1) (by decide) dX10_reads_137 ?_
                    refine ga_iadd hR (pc := 138) dX10_reads_138 ?_
                    refine ga_topi (fun x_next_86 ex_next_86 => ?_)
                    replace h := h x_next_86 ex_next_86
                    refine ga_putf hR (pc := 139) (ws' := [(a 0, .inr (10, [.int x_rules, .int x_places, .ref (a 1), .ref (a 2), .ref (a 3), .int x_newRules_70, .int x_newPlaces_71, .ref (a 4), .ref (a 5), .ref (a 6), .ref (a 7), .ref (a 8), .int x_acts, .int x_kept, .int x_length, .ref (a 9), .int x_next_86, .int x_next_57, .int (nI 0), .ref (a 10), .ref (a 11), .ref (a 12), .int x_parts_74, .int x_without, .ref (a 13), .ref (a 14), .ref (a 15), .ref (a 16), .int x_ways, .ref (a 17), .ref (a 18), .ref (a 19), .ref (a 20)])), (a 4, .inl (V.2 0, 12, .inl x_newRule_75)), (a 5, .inl (V.2 0, 10, .inl x_newTakes_76)), (a 6, .inl (V.2 0, 10, .inl x_newBehind_77)), (a 7, .inl (V.2 0, 61, .inl x_newSlot_78)), (a 9, .inl (V.2 2, 200, .inl x_text)), (a 10, .inl (V.2 0, 18, .inl x_firsts_79)), (a 11, .inl (V.2 0, 18, .inl x_lasts_80)), (a 12, .inl (V.2 1, 18, .inl x_mays_81))]) 0 rfl rfl hinX10 16 (by decide) f151 tyX10_ok nmX10 rfl rfl rfl (Nat.le_of_ble_eq_true rfl) rfl dX10_reads_139 ?_
                    refine ga_goto hR (pc := 142) 14 (by decide) dX10_reads_142 ?_
                    exact ga_lv hR [0] rfl (ih _ _ _ _ _ _ _ _ _ _ _ _ _ h)
                  · replace h := h.2 c121
                    exact ga_lv hR [0] rfl h
            · intro h
              refine ga_icmp_ne hR (pc := 62) 72 (by decide) dX10_reads_62 (fun c62 => ?_) (fun c62 => ?_)
              · replace h := h.1 c62
                refine ga_iload_n hR (pc := 72) 0 rfl rfl dX10_reads_72 ?_
                refine ga_bipush hR (pc := 73) (v := nI 114) (by decide) dX10_reads_73 ?_
                refine ga_icmp_ne hR (pc := 75) 85 (by decide) dX10_reads_75 (fun c75 => ?_) (fun c75 => ?_)
                · replace h := h.1 c75
                  refine ga_iload_n hR (pc := 85) 0 rfl rfl dX10_reads_85 ?_
                  refine ga_bipush hR (pc := 86) (v := nI 115) (by decide) dX10_reads_86 ?_
                  refine ga_icmp_ne hR (pc := 88) 98 (by decide) dX10_reads_88 (fun c88 => ?_) (fun c88 => ?_)
                  · replace h := h.1 c88
                    refine ga_aload_n hR (pc := 98) 1 rfl rfl dX10_reads_98 ?_
                    refine ga_iconst hR (pc := 99) (v := nI 1) (by decide) dX10_reads_99 ?_
                    refine ga_putf hR (pc := 100) (ws' := [(a 0, .inr (10, [.int x_rules, .int x_places, .ref (a 1), .ref (a 2), .ref (a 3), .int x_newRules_55, .int x_newPlaces_56, .ref (a 4), .ref (a 5), .ref (a 6), .ref (a 7), .ref (a 8), .int x_acts, .int x_kept, .int x_length, .ref (a 9), .int x_next_69, .int x_next_57, .int (nI 1), .ref (a 10), .ref (a 11), .ref (a 12), .int x_parts_60, .int x_without, .ref (a 13), .ref (a 14), .ref (a 15), .ref (a 16), .int x_ways, .ref (a 17), .ref (a 18), .ref (a 19), .ref (a 20)])), (a 4, .inl (V.2 0, 12, .inl x_newRule_61)), (a 5, .inl (V.2 0, 10, .inl x_newTakes_62)), (a 6, .inl (V.2 0, 10, .inl x_newBehind_63)), (a 7, .inl (V.2 0, 61, .inl x_newSlot_64)), (a 9, .inl (V.2 2, 200, .inl x_text)), (a 10, .inl (V.2 0, 18, .inl x_firsts_65)), (a 11, .inl (V.2 0, 18, .inl x_lasts_66)), (a 12, .inl (V.2 1, 18, .inl x_mays_67))]) 0 rfl rfl hinX10 18 (by decide) f158 tyX10_ok nmX10 rfl (by decide) (by decide) (Nat.le_of_ble_eq_true rfl) rfl dX10_reads_100 ?_
                    exact ga_lv hR [1] rfl h
                  · replace h := h.2 c88
                    refine ga_aload_n hR (pc := 91) 1 rfl rfl dX10_reads_91 ?_
                    refine ga_callV hR (pc := 92) (As := []) (rest := []) (st0 := [.ref (a 0)]) (b := (a 0)) 0 (c_X10_lineItem V a x_rules x_places x_newRules_55 x_newPlaces_56 x_acts x_kept x_next_57 x_parts_60 x_without x_ways x_length x_next_69 x_isWrong_59 x_newSlot_64 x_text _ h) (ga_same_v fun _ => rfl) gX10_reads_X10_lineItem rfl rfl rfl hd_X10_lineItem ⟨Nat.le_of_ble_eq_true rfl, Nat.le_of_ble_eq_true rfl⟩ rfl rfl (Nat.le_of_ble_eq_true rfl) ⟨Nat.zero_le _, Nat.zero_le _⟩ [0, 4, 5] rfl rfl 0 rfl rfl dX10_reads_92 ?_
                    rintro _ _ ⟨⟨x_next_87, x_isWrong_88, x_newSlot_89⟩, rfl, rfl, h⟩
                    refine ga_to [(a 0, .inr (10, [.int x_rules, .int x_places, .ref (a 1), .ref (a 2), .ref (a 3), .int x_newRules_55, .int x_newPlaces_56, .ref (a 4), .ref (a 5), .ref (a 6), .ref (a 7), .ref (a 8), .int x_acts, .int x_kept, .int x_length, .ref (a 9), .int x_next_87, .int x_next_57, .int x_isWrong_88, .ref (a 10), .ref (a 11), .ref (a 12), .int x_parts_60, .int x_without, .ref (a 13), .ref (a 14), .ref (a 15), .ref (a 16), .int x_ways, .ref (a 17), .ref (a 18), .ref (a 19), .ref (a 20)])), (a 4, .inl (V.2 0, 12, .inl x_newRule_61)), (a 5, .inl (V.2 0, 10, .inl x_newTakes_62)), (a 6, .inl (V.2 0, 10, .inl x_newBehind_63)), (a 7, .inl (V.2 0, 61, .inl x_newSlot_89)), (a 9, .inl (V.2 2, 200, .inl x_text)), (a 10, .inl (V.2 0, 18, .inl x_firsts_65)), (a 11, .inl (V.2 0, 18, .inl x_lasts_66)), (a 12, .inl (V.2 1, 18, .inl x_mays_67))] [] rfl rfl ?_
                    try dsimp only at h
                    refine ga_goto hR (pc := 95) 103 (by decide) dX10_reads_95 ?_
                    exact ga_lv hR [1] rfl h
                · replace h := h.2 c75
                  refine ga_aload_n hR (pc := 78) 1 rfl rfl dX10_reads_78 ?_
                  refine ga_callV hR (pc := 79) (As := []) (rest := []) (st0 := [.ref (a 0)]) (b := (a 0)) 0 (c_X10_ruleItem V a x_rules x_places x_acts x_kept x_next_57 x_without x_ways x_newRules_55 x_newPlaces_56 x_length x_next_69 x_isWrong_59 x_parts_60 x_newRule_61 x_newTakes_62 x_newBehind_63 x_newSlot_64 x_text x_firsts_65 x_lasts_66 x_mays_67 _ h) (ga_same_v fun _ => rfl) gX10_reads_X10_ruleItem rfl rfl rfl hd_X10_ruleItem ⟨Nat.le_of_ble_eq_true rfl, Nat.le_of_ble_eq_true rfl⟩ rfl rfl (Nat.le_of_ble_eq_true rfl) ⟨Nat.zero_le _, Nat.zero_le _⟩ [0, 1, 2, 3, 4, 5, 6, 7, 8] rfl rfl 0 rfl rfl dX10_reads_79 ?_
                  rintro _ _ ⟨⟨x_newRules_90, x_newPlaces_91, x_next_92, x_isWrong_93, x_parts_94, x_newRule_95, x_newTakes_96, x_newBehind_97, x_newSlot_98, x_firsts_99, x_lasts_100, x_mays_101⟩, rfl, rfl, h⟩
                  refine ga_to [(a 0, .inr (10, [.int x_rules, .int x_places, .ref (a 1), .ref (a 2), .ref (a 3), .int x_newRules_90, .int x_newPlaces_91, .ref (a 4), .ref (a 5), .ref (a 6), .ref (a 7), .ref (a 8), .int x_acts, .int x_kept, .int x_length, .ref (a 9), .int x_next_92, .int x_next_57, .int x_isWrong_93, .ref (a 10), .ref (a 11), .ref (a 12), .int x_parts_94, .int x_without, .ref (a 13), .ref (a 14), .ref (a 15), .ref (a 16), .int x_ways, .ref (a 17), .ref (a 18), .ref (a 19), .ref (a 20)])), (a 4, .inl (V.2 0, 12, .inl x_newRule_95)), (a 5, .inl (V.2 0, 10, .inl x_newTakes_96)), (a 6, .inl (V.2 0, 10, .inl x_newBehind_97)), (a 7, .inl (V.2 0, 61, .inl x_newSlot_98)), (a 9, .inl (V.2 2, 200, .inl x_text)), (a 10, .inl (V.2 0, 18, .inl x_firsts_99)), (a 11, .inl (V.2 0, 18, .inl x_lasts_100)), (a 12, .inl (V.2 1, 18, .inl x_mays_101))] [] rfl rfl ?_
                  try dsimp only at h
                  refine ga_goto hR (pc := 82) 103 (by decide) dX10_reads_82 ?_
                  exact ga_lv hR [1] rfl h
              · replace h := h.2 c62
                refine ga_aload_n hR (pc := 65) 1 rfl rfl dX10_reads_65 ?_
                refine ga_callV hR (pc := 66) (As := []) (rest := []) (st0 := [.ref (a 0)]) (b := (a 0)) 0 (c_X10_classItem V a x_rules x_places x_newRules_55 x_newPlaces_56 x_acts x_kept x_next_57 x_parts_60 x_without x_ways x_length x_next_69 x_isWrong_59 x_newSlot_64 x_text _ h) (ga_same_v fun _ => rfl) gX10_reads_X10_classItem rfl rfl rfl hd_X10_classItem ⟨Nat.le_of_ble_eq_true rfl, Nat.le_of_ble_eq_true rfl⟩ rfl rfl (Nat.le_of_ble_eq_true rfl) ⟨Nat.zero_le _, Nat.zero_le _⟩ [0, 4, 5] rfl rfl 0 rfl rfl dX10_reads_66 ?_
                rintro _ _ ⟨⟨x_next_102, x_isWrong_103, x_newSlot_104⟩, rfl, rfl, h⟩
                refine ga_to [(a 0, .inr (10, [.int x_rules, .int x_places, .ref (a 1), .ref (a 2), .ref (a 3), .int x_newRules_55, .int x_newPlaces_56, .ref (a 4), .ref (a 5), .ref (a 6), .ref (a 7), .ref (a 8), .int x_acts, .int x_kept, .int x_length, .ref (a 9), .int x_next_102, .int x_next_57, .int x_isWrong_103, .ref (a 10), .ref (a 11), .ref (a 12), .int x_parts_60, .int x_without, .ref (a 13), .ref (a 14), .ref (a 15), .ref (a 16), .int x_ways, .ref (a 17), .ref (a 18), .ref (a 19), .ref (a 20)])), (a 4, .inl (V.2 0, 12, .inl x_newRule_61)), (a 5, .inl (V.2 0, 10, .inl x_newTakes_62)), (a 6, .inl (V.2 0, 10, .inl x_newBehind_63)), (a 7, .inl (V.2 0, 61, .inl x_newSlot_104)), (a 9, .inl (V.2 2, 200, .inl x_text)), (a 10, .inl (V.2 0, 18, .inl x_firsts_65)), (a 11, .inl (V.2 0, 18, .inl x_lasts_66)), (a 12, .inl (V.2 1, 18, .inl x_mays_67))] [] rfl rfl ?_
                try dsimp only at h
                refine ga_goto hR (pc := 69) 103 (by decide) dX10_reads_69 ?_
                exact ga_lv hR [1] rfl h
    exact ga_lv hR [0] rfl (L14 n _ _ _ _ _ _ _ _ _ _ _ _ _ h)

def rm_X10_fault : Room := { frames := 6, cells := 0, slots := 0, locals := 132 }
theorem hd_X10_faultS : yX10_fault.cls ≠ "java/lang/invoke/MethodHandle" ∧ yX10_fault.cls ≠ "java/lang/invoke/VarHandle" ∧ (parseMethodDescriptor yX10_fault.desc).map (fun d => d.parameters.length) = some 0 := by decide +kernel
theorem hd_X10_fault : yX10_fault.cls = RX10 ∧ yX10_fault.cls ≠ "java/lang/invoke/MethodHandle" ∧ yX10_fault.cls ≠ "java/lang/invoke/VarHandle" ∧ (parseMethodDescriptor yX10_fault.desc).map (fun d => d.parameters.length) = some 0 := ⟨rfl, hd_X10_faultS⟩
set_option maxHeartbeats 4000000 in
set_option maxRecDepth 100000 in
theorem c_X10_fault (V : ga_V) (a : Nat → Nat) (x_rules : Int32) (x_places : Int32) (x_acts : Int32) (x_kept : Int32) (x_without : Int32) (x_ways : Int32) (x_newRules : Int32) (x_newPlaces : Int32) (x_length : Int32) (x_next : Int32) (x_place : Int32) (x_isWrong : Int32) (x_parts : Int32) (x_newRule : Nat → Int32) (x_newTakes : Nat → Int32) (x_newBehind : Nat → Int32) (x_newSlot : Nat → Int32) (x_text : Nat → Int32) (x_firsts : Nat → Int32) (x_lasts : Nat → Int32) (x_mays : Nat → Int32) (K : Int32 → Int32 → Int32 → Int32 → Int32 → Int32 → Int32 → (Nat → Int32) → (Nat → Int32) → (Nat → Int32) → (Nat → Int32) → (Nat → Int32) → (Nat → Int32) → (Nat → Int32) → Prop) (h : wp_X10_fault x_newRules x_newPlaces x_length x_next x_place x_isWrong x_parts x_newRule x_newTakes x_newBehind x_newSlot x_text x_firsts x_lasts x_mays K) : ga_C V yX10_fault wsX10_fault rm_X10_fault [.ref (a 0)] [(a 0, .inr (10, [.int x_rules, .int x_places, .ref (a 1), .ref (a 2), .ref (a 3), .int x_newRules, .int x_newPlaces, .ref (a 4), .ref (a 5), .ref (a 6), .ref (a 7), .ref (a 8), .int x_acts, .int x_kept, .int x_length, .ref (a 9), .int x_next, .int x_place, .int x_isWrong, .ref (a 10), .ref (a 11), .ref (a 12), .int x_parts, .int x_without, .ref (a 13), .ref (a 14), .ref (a 15), .ref (a 16), .int x_ways, .ref (a 17), .ref (a 18), .ref (a 19), .ref (a 20)])), (a 4, .inl (V.2 0, 12, .inl x_newRule)), (a 5, .inl (V.2 0, 10, .inl x_newTakes)), (a 6, .inl (V.2 0, 10, .inl x_newBehind)), (a 7, .inl (V.2 0, 61, .inl x_newSlot)), (a 9, .inl (V.2 2, 200, .inl x_text)), (a 10, .inl (V.2 0, 18, .inl x_firsts)), (a 11, .inl (V.2 0, 18, .inl x_lasts)), (a 12, .inl (V.2 1, 18, .inl x_mays))] 0 0 (ga_Fi (fun (u : Int32 × Int32 × Int32 × Int32 × Int32 × Int32 × (Nat → Int32) × (Nat → Int32) × (Nat → Int32) × (Nat → Int32) × (Nat → Int32) × (Nat → Int32) × (Nat → Int32)) => [(a 0, .inr (10, [.int x_rules, .int x_places, .ref (a 1), .ref (a 2), .ref (a 3), .int u.1, .int u.2.1, .ref (a 4), .ref (a 5), .ref (a 6), .ref (a 7), .ref (a 8), .int x_acts, .int x_kept, .int x_length, .ref (a 9), .int u.2.2.1, .int u.2.2.2.1, .int u.2.2.2.2.1, .ref (a 10), .ref (a 11), .ref (a 12), .int u.2.2.2.2.2.1, .int x_without, .ref (a 13), .ref (a 14), .ref (a 15), .ref (a 16), .int x_ways, .ref (a 17), .ref (a 18), .ref (a 19), .ref (a 20)])), (a 4, .inl (V.2 0, 12, .inl u.2.2.2.2.2.2.1)), (a 5, .inl (V.2 0, 10, .inl u.2.2.2.2.2.2.2.1)), (a 6, .inl (V.2 0, 10, .inl u.2.2.2.2.2.2.2.2.1)), (a 7, .inl (V.2 0, 61, .inl u.2.2.2.2.2.2.2.2.2.1)), (a 9, .inl (V.2 2, 200, .inl x_text)), (a 10, .inl (V.2 0, 18, .inl u.2.2.2.2.2.2.2.2.2.2.1)), (a 11, .inl (V.2 0, 18, .inl u.2.2.2.2.2.2.2.2.2.2.2.1)), (a 12, .inl (V.2 1, 18, .inl u.2.2.2.2.2.2.2.2.2.2.2.2))]) (fun r u => K r u.1 u.2.1 u.2.2.1 u.2.2.2.1 u.2.2.2.2.1 u.2.2.2.2.2.1 u.2.2.2.2.2.2.1 u.2.2.2.2.2.2.2.1 u.2.2.2.2.2.2.2.2.1 u.2.2.2.2.2.2.2.2.2.1 u.2.2.2.2.2.2.2.2.2.2.1 u.2.2.2.2.2.2.2.2.2.2.2.1 u.2.2.2.2.2.2.2.2.2.2.2.2)) := by
  refine ga_met (cc := cX10_fault) (maxL := 1) (rt := (some .int)) (by decide) rfl [(0, .ref (a 0))] rfl (Nat.le_of_ble_eq_true rfl) ?_
  intro G hR hE
  have hinX10 : ∀ w ∈ u_ws RX10 TX10 33, w ∈ wsX10_fault := by decide +kernel
  have f158 : Cond.fieldLink RX10 158 "BoundaryRulesModel" "isWrong" "Z" ∈ wsX10_fault := by decide +kernel
  have f187 : Cond.fieldLink RX10 187 "BoundaryRulesModel" "place" "I" ∈ wsX10_fault := by decide +kernel
  unfold wp_X10_fault at h
  refine ga_aload_n hR (pc := 0) 0 rfl rfl dX10_fault_0 ?_
  refine ga_callV hR (pc := 1) (As := []) (rest := []) (st0 := [.ref (a 0)]) (b := (a 0)) 0 (c_X10_reads V a x_rules x_places x_acts x_kept x_without x_ways x_newRules x_newPlaces x_length x_next x_place x_isWrong x_parts x_newRule x_newTakes x_newBehind x_newSlot x_text x_firsts x_lasts x_mays _ h) (ga_same_v fun _ => rfl) gX10_fault_X10_reads rfl rfl rfl hd_X10_reads ⟨Nat.le_of_ble_eq_true rfl, Nat.le_of_ble_eq_true rfl⟩ rfl rfl (Nat.le_of_ble_eq_true rfl) ⟨Nat.zero_le _, Nat.zero_le _⟩ [0, 1, 2, 3, 4, 5, 6, 7, 8] rfl rfl 0 rfl rfl dX10_fault_1 ?_
  rintro _ _ ⟨⟨x_newRules_1, x_newPlaces_2, x_next_3, x_place_4, x_isWrong_5, x_parts_6, x_newRule_7, x_newTakes_8, x_newBehind_9, x_newSlot_10, x_firsts_11, x_lasts_12, x_mays_13⟩, rfl, rfl, h⟩
  refine ga_to [(a 0, .inr (10, [.int x_rules, .int x_places, .ref (a 1), .ref (a 2), .ref (a 3), .int x_newRules_1, .int x_newPlaces_2, .ref (a 4), .ref (a 5), .ref (a 6), .ref (a 7), .ref (a 8), .int x_acts, .int x_kept, .int x_length, .ref (a 9), .int x_next_3, .int x_place_4, .int x_isWrong_5, .ref (a 10), .ref (a 11), .ref (a 12), .int x_parts_6, .int x_without, .ref (a 13), .ref (a 14), .ref (a 15), .ref (a 16), .int x_ways, .ref (a 17), .ref (a 18), .ref (a 19), .ref (a 20)])), (a 4, .inl (V.2 0, 12, .inl x_newRule_7)), (a 5, .inl (V.2 0, 10, .inl x_newTakes_8)), (a 6, .inl (V.2 0, 10, .inl x_newBehind_9)), (a 7, .inl (V.2 0, 61, .inl x_newSlot_10)), (a 9, .inl (V.2 2, 200, .inl x_text)), (a 10, .inl (V.2 0, 18, .inl x_firsts_11)), (a 11, .inl (V.2 0, 18, .inl x_lasts_12)), (a 12, .inl (V.2 1, 18, .inl x_mays_13))] [] rfl rfl ?_
  try dsimp only at h
  refine ga_aload_n hR (pc := 4) 0 rfl rfl dX10_fault_4 ?_
  refine ga_get hR (pc := 5) 0 rfl rfl hinX10 18 (by decide) f158 rfl dX10_fault_5 ?_
  refine ga_if_eq hR (pc := 8) 18 (by decide) dX10_fault_8 (fun c8 => ?_) (fun c8 => ?_)
  · replace h := h.1 c8
    refine ga_bipush hR (pc := 18) (v := -4) (by decide) dX10_fault_18 ?_
    exact ga_iret hE dX10_fault_20 rfl (ga_ri (x_newRules_1, x_newPlaces_2, x_next_3, x_place_4, x_isWrong_5, x_parts_6, x_newRule_7, x_newTakes_8, x_newBehind_9, x_newSlot_10, x_firsts_11, x_lasts_12, x_mays_13) rfl h)
  · replace h := h.2 c8
    refine ga_aload_n hR (pc := 11) 0 rfl rfl dX10_fault_11 ?_
    refine ga_get hR (pc := 12) 0 rfl rfl hinX10 17 (by decide) f187 rfl dX10_fault_12 ?_
    refine ga_goto hR (pc := 15) 20 (by decide) dX10_fault_15 ?_
    exact ga_iret hE dX10_fault_20 rfl (ga_ri (x_newRules_1, x_newPlaces_2, x_next_3, x_place_4, x_isWrong_5, x_parts_6, x_newRule_7, x_newTakes_8, x_newBehind_9, x_newSlot_10, x_firsts_11, x_lasts_12, x_mays_13) rfl h)

def rm_X10_lay : Room := { frames := 6, cells := 0, slots := 0, locals := 132 }
theorem hd_X10_layS : yX10_lay.cls ≠ "java/lang/invoke/MethodHandle" ∧ yX10_lay.cls ≠ "java/lang/invoke/VarHandle" ∧ (parseMethodDescriptor yX10_lay.desc).map (fun d => d.parameters.length) = some 0 := by decide +kernel
theorem hd_X10_lay : yX10_lay.cls = RX10 ∧ yX10_lay.cls ≠ "java/lang/invoke/MethodHandle" ∧ yX10_lay.cls ≠ "java/lang/invoke/VarHandle" ∧ (parseMethodDescriptor yX10_lay.desc).map (fun d => d.parameters.length) = some 0 := ⟨rfl, hd_X10_layS⟩
set_option maxHeartbeats 4000000 in
set_option maxRecDepth 100000 in
theorem c_X10_lay (V : ga_V) (a : Nat → Nat) (x_without : Int32) (x_ways : Int32) (x_rules : Int32) (x_places : Int32) (x_newRules : Int32) (x_newPlaces : Int32) (x_acts : Int32) (x_kept : Int32) (x_length : Int32) (x_next : Int32) (x_place : Int32) (x_isWrong : Int32) (x_parts : Int32) (x_rule : Nat → Int32) (x_takes : Nat → Int32) (x_behind : Nat → Int32) (x_newRule : Nat → Int32) (x_newTakes : Nat → Int32) (x_newBehind : Nat → Int32) (x_newSlot : Nat → Int32) (x_slot : Nat → Int32) (x_text : Nat → Int32) (x_firsts : Nat → Int32) (x_lasts : Nat → Int32) (x_mays : Nat → Int32) (K : Int32 → Int32 → Int32 → Int32 → Int32 → Int32 → Int32 → Int32 → Int32 → Int32 → Int32 → (Nat → Int32) → (Nat → Int32) → (Nat → Int32) → (Nat → Int32) → (Nat → Int32) → (Nat → Int32) → (Nat → Int32) → (Nat → Int32) → (Nat → Int32) → (Nat → Int32) → (Nat → Int32) → Prop) (h : wp_X10_lay x_rules x_places x_newRules x_newPlaces x_acts x_kept x_length x_next x_place x_isWrong x_parts x_rule x_takes x_behind x_newRule x_newTakes x_newBehind x_newSlot x_slot x_text x_firsts x_lasts x_mays K) : ga_C V yX10_lay wsX10_lay rm_X10_lay [.ref (a 0)] [(a 0, .inr (10, [.int x_rules, .int x_places, .ref (a 1), .ref (a 2), .ref (a 3), .int x_newRules, .int x_newPlaces, .ref (a 4), .ref (a 5), .ref (a 6), .ref (a 7), .ref (a 8), .int x_acts, .int x_kept, .int x_length, .ref (a 9), .int x_next, .int x_place, .int x_isWrong, .ref (a 10), .ref (a 11), .ref (a 12), .int x_parts, .int x_without, .ref (a 13), .ref (a 14), .ref (a 15), .ref (a 16), .int x_ways, .ref (a 17), .ref (a 18), .ref (a 19), .ref (a 20)])), (a 1, .inl (V.2 0, 12, .inl x_rule)), (a 2, .inl (V.2 0, 10, .inl x_takes)), (a 3, .inl (V.2 0, 10, .inl x_behind)), (a 4, .inl (V.2 0, 12, .inl x_newRule)), (a 5, .inl (V.2 0, 10, .inl x_newTakes)), (a 6, .inl (V.2 0, 10, .inl x_newBehind)), (a 7, .inl (V.2 0, 61, .inl x_newSlot)), (a 8, .inl (V.2 0, 732, .inl x_slot)), (a 9, .inl (V.2 2, 200, .inl x_text)), (a 10, .inl (V.2 0, 18, .inl x_firsts)), (a 11, .inl (V.2 0, 18, .inl x_lasts)), (a 12, .inl (V.2 1, 18, .inl x_mays))] 0 0 (ga_Fi (fun (u : Int32 × Int32 × Int32 × Int32 × Int32 × Int32 × Int32 × Int32 × Int32 × Int32 × (Nat → Int32) × (Nat → Int32) × (Nat → Int32) × (Nat → Int32) × (Nat → Int32) × (Nat → Int32) × (Nat → Int32) × (Nat → Int32) × (Nat → Int32) × (Nat → Int32) × (Nat → Int32)) => [(a 0, .inr (10, [.int u.1, .int u.2.1, .ref (a 1), .ref (a 2), .ref (a 3), .int u.2.2.1, .int u.2.2.2.1, .ref (a 4), .ref (a 5), .ref (a 6), .ref (a 7), .ref (a 8), .int u.2.2.2.2.1, .int u.2.2.2.2.2.1, .int x_length, .ref (a 9), .int u.2.2.2.2.2.2.1, .int u.2.2.2.2.2.2.2.1, .int u.2.2.2.2.2.2.2.2.1, .ref (a 10), .ref (a 11), .ref (a 12), .int u.2.2.2.2.2.2.2.2.2.1, .int x_without, .ref (a 13), .ref (a 14), .ref (a 15), .ref (a 16), .int x_ways, .ref (a 17), .ref (a 18), .ref (a 19), .ref (a 20)])), (a 1, .inl (V.2 0, 12, .inl u.2.2.2.2.2.2.2.2.2.2.1)), (a 2, .inl (V.2 0, 10, .inl u.2.2.2.2.2.2.2.2.2.2.2.1)), (a 3, .inl (V.2 0, 10, .inl u.2.2.2.2.2.2.2.2.2.2.2.2.1)), (a 4, .inl (V.2 0, 12, .inl u.2.2.2.2.2.2.2.2.2.2.2.2.2.1)), (a 5, .inl (V.2 0, 10, .inl u.2.2.2.2.2.2.2.2.2.2.2.2.2.2.1)), (a 6, .inl (V.2 0, 10, .inl u.2.2.2.2.2.2.2.2.2.2.2.2.2.2.2.1)), (a 7, .inl (V.2 0, 61, .inl u.2.2.2.2.2.2.2.2.2.2.2.2.2.2.2.2.1)), (a 8, .inl (V.2 0, 732, .inl u.2.2.2.2.2.2.2.2.2.2.2.2.2.2.2.2.2.1)), (a 9, .inl (V.2 2, 200, .inl x_text)), (a 10, .inl (V.2 0, 18, .inl u.2.2.2.2.2.2.2.2.2.2.2.2.2.2.2.2.2.2.1)), (a 11, .inl (V.2 0, 18, .inl u.2.2.2.2.2.2.2.2.2.2.2.2.2.2.2.2.2.2.2.1)), (a 12, .inl (V.2 1, 18, .inl u.2.2.2.2.2.2.2.2.2.2.2.2.2.2.2.2.2.2.2.2))]) (fun r u => K r u.1 u.2.1 u.2.2.1 u.2.2.2.1 u.2.2.2.2.1 u.2.2.2.2.2.1 u.2.2.2.2.2.2.1 u.2.2.2.2.2.2.2.1 u.2.2.2.2.2.2.2.2.1 u.2.2.2.2.2.2.2.2.2.1 u.2.2.2.2.2.2.2.2.2.2.1 u.2.2.2.2.2.2.2.2.2.2.2.1 u.2.2.2.2.2.2.2.2.2.2.2.2.1 u.2.2.2.2.2.2.2.2.2.2.2.2.2.1 u.2.2.2.2.2.2.2.2.2.2.2.2.2.2.1 u.2.2.2.2.2.2.2.2.2.2.2.2.2.2.2.1 u.2.2.2.2.2.2.2.2.2.2.2.2.2.2.2.2.1 u.2.2.2.2.2.2.2.2.2.2.2.2.2.2.2.2.2.1 u.2.2.2.2.2.2.2.2.2.2.2.2.2.2.2.2.2.2.1 u.2.2.2.2.2.2.2.2.2.2.2.2.2.2.2.2.2.2.2.1 u.2.2.2.2.2.2.2.2.2.2.2.2.2.2.2.2.2.2.2.2)) := by
  refine ga_met (cc := cX10_lay) (maxL := 1) (rt := (some .int)) (by decide) rfl [(0, .ref (a 0))] rfl (Nat.le_of_ble_eq_true rfl) ?_
  intro G hR hE
  have hinX10 : ∀ w ∈ u_ws RX10 TX10 33, w ∈ wsX10_lay := by decide +kernel
  have f158 : Cond.fieldLink RX10 158 "BoundaryRulesModel" "isWrong" "Z" ∈ wsX10_lay := by decide +kernel
  have f107 : Cond.fieldLink RX10 107 "BoundaryRulesModel" "newRules" "I" ∈ wsX10_lay := by decide +kernel
  have f118 : Cond.fieldLink RX10 118 "BoundaryRulesModel" "rules" "I" ∈ wsX10_lay := by decide +kernel
  unfold wp_X10_lay at h
  refine ga_aload_n hR (pc := 0) 0 rfl rfl dX10_lay_0 ?_
  refine ga_callV hR (pc := 1) (As := []) (rest := []) (st0 := [.ref (a 0)]) (b := (a 0)) 0 (c_X10_reads V a x_rules x_places x_acts x_kept x_without x_ways x_newRules x_newPlaces x_length x_next x_place x_isWrong x_parts x_newRule x_newTakes x_newBehind x_newSlot x_text x_firsts x_lasts x_mays _ h) (ga_same_v fun _ => rfl) gX10_lay_X10_reads rfl rfl rfl hd_X10_reads ⟨Nat.le_of_ble_eq_true rfl, Nat.le_of_ble_eq_true rfl⟩ rfl rfl (Nat.le_of_ble_eq_true rfl) ⟨Nat.zero_le _, Nat.zero_le _⟩ [0, 4, 5, 6, 7, 9, 10, 11, 12] rfl rfl 0 rfl rfl dX10_lay_1 ?_
  rintro _ _ ⟨⟨x_newRules_1, x_newPlaces_2, x_next_3, x_place_4, x_isWrong_5, x_parts_6, x_newRule_7, x_newTakes_8, x_newBehind_9, x_newSlot_10, x_firsts_11, x_lasts_12, x_mays_13⟩, rfl, rfl, h⟩
  refine ga_to [(a 0, .inr (10, [.int x_rules, .int x_places, .ref (a 1), .ref (a 2), .ref (a 3), .int x_newRules_1, .int x_newPlaces_2, .ref (a 4), .ref (a 5), .ref (a 6), .ref (a 7), .ref (a 8), .int x_acts, .int x_kept, .int x_length, .ref (a 9), .int x_next_3, .int x_place_4, .int x_isWrong_5, .ref (a 10), .ref (a 11), .ref (a 12), .int x_parts_6, .int x_without, .ref (a 13), .ref (a 14), .ref (a 15), .ref (a 16), .int x_ways, .ref (a 17), .ref (a 18), .ref (a 19), .ref (a 20)])), (a 1, .inl (V.2 0, 12, .inl x_rule)), (a 2, .inl (V.2 0, 10, .inl x_takes)), (a 3, .inl (V.2 0, 10, .inl x_behind)), (a 4, .inl (V.2 0, 12, .inl x_newRule_7)), (a 5, .inl (V.2 0, 10, .inl x_newTakes_8)), (a 6, .inl (V.2 0, 10, .inl x_newBehind_9)), (a 7, .inl (V.2 0, 61, .inl x_newSlot_10)), (a 8, .inl (V.2 0, 732, .inl x_slot)), (a 9, .inl (V.2 2, 200, .inl x_text)), (a 10, .inl (V.2 0, 18, .inl x_firsts_11)), (a 11, .inl (V.2 0, 18, .inl x_lasts_12)), (a 12, .inl (V.2 1, 18, .inl x_mays_13))] [] rfl rfl ?_
  try dsimp only at h
  refine ga_aload_n hR (pc := 4) 0 rfl rfl dX10_lay_4 ?_
  refine ga_get hR (pc := 5) 0 rfl rfl hinX10 18 (by decide) f158 rfl dX10_lay_5 ?_
  refine ga_if_ne hR (pc := 8) 18 (by decide) dX10_lay_8 (fun c8 => ?_) (fun c8 => ?_)
  · replace h := h.1 c8
    refine ga_bipush hR (pc := 18) (v := -2) (by decide) dX10_lay_18 ?_
    exact ga_iret hE dX10_lay_20 rfl (ga_ri (x_rules, x_places, x_newRules_1, x_newPlaces_2, x_acts, x_kept, x_next_3, x_place_4, x_isWrong_5, x_parts_6, x_rule, x_takes, x_behind, x_newRule_7, x_newTakes_8, x_newBehind_9, x_newSlot_10, x_slot, x_firsts_11, x_lasts_12, x_mays_13) rfl h)
  · replace h := h.2 c8
    refine ga_aload_n hR (pc := 11) 0 rfl rfl dX10_lay_11 ?_
    refine ga_get hR (pc := 12) 0 rfl rfl hinX10 5 (by decide) f107 rfl dX10_lay_12 ?_
    refine ga_if_ne hR (pc := 15) 21 (by decide) dX10_lay_15 (fun c15 => ?_) (fun c15 => ?_)
    · replace h := h.1 c15
      refine ga_aload_n hR (pc := 21) 0 rfl rfl dX10_lay_21 ?_
      refine ga_callV hR (pc := 22) (As := []) (rest := []) (st0 := [.ref (a 0)]) (b := (a 0)) 0 (c_X10_settles V a x_length x_next_3 x_place_4 x_isWrong_5 x_parts_6 x_without x_ways x_rules x_places x_newRules_1 x_newPlaces_2 x_acts x_kept x_rule x_takes x_behind x_newRule_7 x_newTakes_8 x_newBehind_9 x_newSlot_10 x_slot _ h) (ga_same_v fun _ => rfl) gX10_lay_X10_settles rfl rfl rfl hd_X10_settles ⟨Nat.le_of_ble_eq_true rfl, Nat.le_of_ble_eq_true rfl⟩ rfl rfl (Nat.le_of_ble_eq_true rfl) ⟨Nat.zero_le _, Nat.zero_le _⟩ [0, 1, 2, 3, 4, 5, 6, 7, 8] rfl rfl 0 rfl rfl dX10_lay_22 ?_
      rintro _ _ ⟨⟨x_rules_14, x_places_15, x_acts_16, x_kept_17, x_rule_18, x_takes_19, x_behind_20, x_slot_21⟩, rfl, rfl, h⟩
      refine ga_to [(a 0, .inr (10, [.int x_rules_14, .int x_places_15, .ref (a 1), .ref (a 2), .ref (a 3), .int x_newRules_1, .int x_newPlaces_2, .ref (a 4), .ref (a 5), .ref (a 6), .ref (a 7), .ref (a 8), .int x_acts_16, .int x_kept_17, .int x_length, .ref (a 9), .int x_next_3, .int x_place_4, .int x_isWrong_5, .ref (a 10), .ref (a 11), .ref (a 12), .int x_parts_6, .int x_without, .ref (a 13), .ref (a 14), .ref (a 15), .ref (a 16), .int x_ways, .ref (a 17), .ref (a 18), .ref (a 19), .ref (a 20)])), (a 1, .inl (V.2 0, 12, .inl x_rule_18)), (a 2, .inl (V.2 0, 10, .inl x_takes_19)), (a 3, .inl (V.2 0, 10, .inl x_behind_20)), (a 4, .inl (V.2 0, 12, .inl x_newRule_7)), (a 5, .inl (V.2 0, 10, .inl x_newTakes_8)), (a 6, .inl (V.2 0, 10, .inl x_newBehind_9)), (a 7, .inl (V.2 0, 61, .inl x_newSlot_10)), (a 8, .inl (V.2 0, 732, .inl x_slot_21)), (a 9, .inl (V.2 2, 200, .inl x_text)), (a 10, .inl (V.2 0, 18, .inl x_firsts_11)), (a 11, .inl (V.2 0, 18, .inl x_lasts_12)), (a 12, .inl (V.2 1, 18, .inl x_mays_13))] [] rfl rfl ?_
      try dsimp only at h
      refine ga_aload_n hR (pc := 25) 0 rfl rfl dX10_lay_25 ?_
      refine ga_get hR (pc := 26) 0 rfl rfl hinX10 0 (by decide) f118 rfl dX10_lay_26 ?_
      exact ga_iret hE dX10_lay_29 rfl (ga_ri (x_rules_14, x_places_15, x_newRules_1, x_newPlaces_2, x_acts_16, x_kept_17, x_next_3, x_place_4, x_isWrong_5, x_parts_6, x_rule_18, x_takes_19, x_behind_20, x_newRule_7, x_newTakes_8, x_newBehind_9, x_newSlot_10, x_slot_21, x_firsts_11, x_lasts_12, x_mays_13) rfl h)
    · replace h := h.2 c15
      refine ga_bipush hR (pc := 18) (v := -2) (by decide) dX10_lay_18 ?_
      exact ga_iret hE dX10_lay_20 rfl (ga_ri (x_rules, x_places, x_newRules_1, x_newPlaces_2, x_acts, x_kept, x_next_3, x_place_4, x_isWrong_5, x_parts_6, x_rule, x_takes, x_behind, x_newRule_7, x_newTakes_8, x_newBehind_9, x_newSlot_10, x_slot, x_firsts_11, x_lasts_12, x_mays_13) rfl h)

def rm_X10_isRule : Room := { frames := 1, cells := 0, slots := 0, locals := 25 }
theorem hd_X10_isRuleS : yX10_isRule.cls ≠ "java/lang/invoke/MethodHandle" ∧ yX10_isRule.cls ≠ "java/lang/invoke/VarHandle" ∧ (parseMethodDescriptor yX10_isRule.desc).map (fun d => d.parameters.length) = some 1 := by decide +kernel
theorem hd_X10_isRule : yX10_isRule.cls = RX10 ∧ yX10_isRule.cls ≠ "java/lang/invoke/MethodHandle" ∧ yX10_isRule.cls ≠ "java/lang/invoke/VarHandle" ∧ (parseMethodDescriptor yX10_isRule.desc).map (fun d => d.parameters.length) = some 1 := ⟨rfl, hd_X10_isRuleS⟩
set_option maxHeartbeats 4000000 in
set_option maxRecDepth 100000 in
theorem c_X10_isRule (V : ga_V) (a : Nat → Nat) (x_places : Int32) (x_newRules : Int32) (x_newPlaces : Int32) (x_acts : Int32) (x_kept : Int32) (x_length : Int32) (x_next : Int32) (x_place : Int32) (x_isWrong : Int32) (x_parts : Int32) (x_without : Int32) (x_ways : Int32) (x_rules : Int32) (p1 : Int32) (K : Int32 → Prop) (h : wp_X10_isRule x_rules p1 K) : ga_C V yX10_isRule wsX10_isRule rm_X10_isRule [.ref (a 0), .int p1] [(a 0, .inr (10, [.int x_rules, .int x_places, .ref (a 1), .ref (a 2), .ref (a 3), .int x_newRules, .int x_newPlaces, .ref (a 4), .ref (a 5), .ref (a 6), .ref (a 7), .ref (a 8), .int x_acts, .int x_kept, .int x_length, .ref (a 9), .int x_next, .int x_place, .int x_isWrong, .ref (a 10), .ref (a 11), .ref (a 12), .int x_parts, .int x_without, .ref (a 13), .ref (a 14), .ref (a 15), .ref (a 16), .int x_ways, .ref (a 17), .ref (a 18), .ref (a 19), .ref (a 20)]))] 0 0 (ga_Fi (fun (u : Unit) => [(a 0, .inr (10, [.int x_rules, .int x_places, .ref (a 1), .ref (a 2), .ref (a 3), .int x_newRules, .int x_newPlaces, .ref (a 4), .ref (a 5), .ref (a 6), .ref (a 7), .ref (a 8), .int x_acts, .int x_kept, .int x_length, .ref (a 9), .int x_next, .int x_place, .int x_isWrong, .ref (a 10), .ref (a 11), .ref (a 12), .int x_parts, .int x_without, .ref (a 13), .ref (a 14), .ref (a 15), .ref (a 16), .int x_ways, .ref (a 17), .ref (a 18), .ref (a 19), .ref (a 20)]))]) (fun r u => K r)) := by
  refine ga_met (cc := cX10_isRule) (maxL := 2) (rt := (some .boolean)) (by decide) rfl [(0, .ref (a 0)), (1, .int p1)] rfl (Nat.le_of_ble_eq_true rfl) ?_
  intro G hR hE
  have hinX10 : ∀ w ∈ u_ws RX10 TX10 33, w ∈ wsX10_isRule := by decide +kernel
  have f118 : Cond.fieldLink RX10 118 "BoundaryRulesModel" "rules" "I" ∈ wsX10_isRule := by decide +kernel
  unfold wp_X10_isRule at h
  refine ga_iload_n hR (pc := 0) 1 rfl rfl dX10_isRule_0 ?_
  refine ga_i2l hR (pc := 1) dX10_isRule_1 ?_
  refine ga_lconst hR (pc := 2) (v := lN 0) (by decide) dX10_isRule_2 ?_
  refine ga_aload_n hR (pc := 3) 0 rfl rfl dX10_isRule_3 ?_
  refine ga_get hR (pc := 4) 0 rfl rfl hinX10 0 (by decide) f118 rfl dX10_isRule_4 ?_
  refine ga_iconst hR (pc := 7) (v := nI 1) (by decide) dX10_isRule_7 ?_
  refine ga_isub hR (pc := 8) dX10_isRule_8 ?_
  refine ga_i2l hR (pc := 9) dX10_isRule_9 ?_
  refine ga_callS hR (pc := 10) (As := [.long p1.toInt64, .long (lN 0), .long ((x_rules - (nI 1)).toInt64)]) (rest := []) (st0 := [.long ((x_rules - (nI 1)).toInt64), .long (lN 0), .long p1.toInt64]) 3 (c_X10_in V p1.toInt64 (lN 0) ((x_rules - (nI 1)).toInt64) _ h) (ga_same_i fun _ => rfl) gX10_isRule_X10_in rfl rfl rfl hd_X10_inS ⟨Nat.le_of_ble_eq_true rfl, Nat.le_of_ble_eq_true rfl⟩ rfl rfl (Nat.le_of_ble_eq_true rfl) ⟨Nat.zero_le _, Nat.zero_le _⟩ [] rfl rfl dX10_isRule_10 ?_
  rintro _ _ ⟨r_1, ⟨⟩, rfl, rfl, h⟩
  refine ga_to [(a 0, .inr (10, [.int x_rules, .int x_places, .ref (a 1), .ref (a 2), .ref (a 3), .int x_newRules, .int x_newPlaces, .ref (a 4), .ref (a 5), .ref (a 6), .ref (a 7), .ref (a 8), .int x_acts, .int x_kept, .int x_length, .ref (a 9), .int x_next, .int x_place, .int x_isWrong, .ref (a 10), .ref (a 11), .ref (a 12), .int x_parts, .int x_without, .ref (a 13), .ref (a 14), .ref (a 15), .ref (a 16), .int x_ways, .ref (a 17), .ref (a 18), .ref (a 19), .ref (a 20)]))] [.int r_1] rfl rfl ?_
  try dsimp only at h
  exact ga_iret hE dX10_isRule_13 h.1 (ga_ri () rfl h.2)

def rm_X10_isPlace : Room := { frames := 1, cells := 0, slots := 0, locals := 25 }
theorem hd_X10_isPlaceS : yX10_isPlace.cls ≠ "java/lang/invoke/MethodHandle" ∧ yX10_isPlace.cls ≠ "java/lang/invoke/VarHandle" ∧ (parseMethodDescriptor yX10_isPlace.desc).map (fun d => d.parameters.length) = some 1 := by decide +kernel
theorem hd_X10_isPlace : yX10_isPlace.cls = RX10 ∧ yX10_isPlace.cls ≠ "java/lang/invoke/MethodHandle" ∧ yX10_isPlace.cls ≠ "java/lang/invoke/VarHandle" ∧ (parseMethodDescriptor yX10_isPlace.desc).map (fun d => d.parameters.length) = some 1 := ⟨rfl, hd_X10_isPlaceS⟩
set_option maxHeartbeats 4000000 in
set_option maxRecDepth 100000 in
theorem c_X10_isPlace (V : ga_V) (a : Nat → Nat) (x_rules : Int32) (x_places : Int32) (x_newRules : Int32) (x_newPlaces : Int32) (x_acts : Int32) (x_kept : Int32) (x_length : Int32) (x_next : Int32) (x_place : Int32) (x_isWrong : Int32) (x_parts : Int32) (x_without : Int32) (x_ways : Int32) (x_slot : Nat → Int32) (p1 : Int32) (K : Int32 → Prop) (h : wp_X10_isPlace x_slot p1 K) : ga_C V yX10_isPlace wsX10_isPlace rm_X10_isPlace [.ref (a 0), .int p1] [(a 0, .inr (10, [.int x_rules, .int x_places, .ref (a 1), .ref (a 2), .ref (a 3), .int x_newRules, .int x_newPlaces, .ref (a 4), .ref (a 5), .ref (a 6), .ref (a 7), .ref (a 8), .int x_acts, .int x_kept, .int x_length, .ref (a 9), .int x_next, .int x_place, .int x_isWrong, .ref (a 10), .ref (a 11), .ref (a 12), .int x_parts, .int x_without, .ref (a 13), .ref (a 14), .ref (a 15), .ref (a 16), .int x_ways, .ref (a 17), .ref (a 18), .ref (a 19), .ref (a 20)])), (a 8, .inl (V.2 0, 732, .inl x_slot))] 0 0 (ga_Fi (fun (u : Unit) => [(a 0, .inr (10, [.int x_rules, .int x_places, .ref (a 1), .ref (a 2), .ref (a 3), .int x_newRules, .int x_newPlaces, .ref (a 4), .ref (a 5), .ref (a 6), .ref (a 7), .ref (a 8), .int x_acts, .int x_kept, .int x_length, .ref (a 9), .int x_next, .int x_place, .int x_isWrong, .ref (a 10), .ref (a 11), .ref (a 12), .int x_parts, .int x_without, .ref (a 13), .ref (a 14), .ref (a 15), .ref (a 16), .int x_ways, .ref (a 17), .ref (a 18), .ref (a 19), .ref (a 20)])), (a 8, .inl (V.2 0, 732, .inl x_slot))]) (fun r u => K r)) := by
  refine ga_met (cc := cX10_isPlace) (maxL := 2) (rt := (some .boolean)) (by decide) rfl [(0, .ref (a 0)), (1, .int p1)] rfl (Nat.le_of_ble_eq_true rfl) ?_
  intro G hR hE
  have hinX10 : ∀ w ∈ u_ws RX10 TX10 33, w ∈ wsX10_isPlace := by decide +kernel
  have f31 : Cond.fieldLink RX10 31 "BoundaryRulesModel" "slot" "[I" ∈ wsX10_isPlace := by decide +kernel
  unfold wp_X10_isPlace at h
  refine ga_iload_n hR (pc := 0) 1 rfl rfl dX10_isPlace_0 ?_
  refine ga_i2l hR (pc := 1) dX10_isPlace_1 ?_
  refine ga_lconst hR (pc := 2) (v := lN 0) (by decide) dX10_isPlace_2 ?_
  refine ga_aload_n hR (pc := 3) 0 rfl rfl dX10_isPlace_3 ?_
  refine ga_get hR (pc := 4) 0 rfl rfl hinX10 11 (by decide) f31 rfl dX10_isPlace_4 ?_
  refine ga_bipush hR (pc := 7) (v := nI 30) (by decide) dX10_isPlace_7 ?_
  refine ga_iald hR (pc := 9) 1 rfl h.1 dX10_isPlace_9 ?_
  replace h := h.2
  refine ga_i2l hR (pc := 10) dX10_isPlace_10 ?_
  refine ga_callS hR (pc := 11) (As := [.long p1.toInt64, .long (lN 0), .long ((x_slot (nI 30).toNatClampNeg).toInt64)]) (rest := []) (st0 := [.long ((x_slot (nI 30).toNatClampNeg).toInt64), .long (lN 0), .long p1.toInt64]) 3 (c_X10_in V p1.toInt64 (lN 0) ((x_slot (nI 30).toNatClampNeg).toInt64) _ h) (ga_same_i fun _ => rfl) gX10_isPlace_X10_in rfl rfl rfl hd_X10_inS ⟨Nat.le_of_ble_eq_true rfl, Nat.le_of_ble_eq_true rfl⟩ rfl rfl (Nat.le_of_ble_eq_true rfl) ⟨Nat.zero_le _, Nat.zero_le _⟩ [] rfl rfl dX10_isPlace_11 ?_
  rintro _ _ ⟨r_1, ⟨⟩, rfl, rfl, h⟩
  refine ga_to [(a 0, .inr (10, [.int x_rules, .int x_places, .ref (a 1), .ref (a 2), .ref (a 3), .int x_newRules, .int x_newPlaces, .ref (a 4), .ref (a 5), .ref (a 6), .ref (a 7), .ref (a 8), .int x_acts, .int x_kept, .int x_length, .ref (a 9), .int x_next, .int x_place, .int x_isWrong, .ref (a 10), .ref (a 11), .ref (a 12), .int x_parts, .int x_without, .ref (a 13), .ref (a 14), .ref (a 15), .ref (a 16), .int x_ways, .ref (a 17), .ref (a 18), .ref (a 19), .ref (a 20)])), (a 8, .inl (V.2 0, 732, .inl x_slot))] [.int r_1] rfl rfl ?_
  try dsimp only at h
  exact ga_iret hE dX10_isPlace_14 h.1 (ga_ri () rfl h.2)

def rm_X10_rule : Room := { frames := 2, cells := 0, slots := 0, locals := 46 }
theorem hd_X10_ruleS : yX10_rule.cls ≠ "java/lang/invoke/MethodHandle" ∧ yX10_rule.cls ≠ "java/lang/invoke/VarHandle" ∧ (parseMethodDescriptor yX10_rule.desc).map (fun d => d.parameters.length) = some 2 := by decide +kernel
theorem hd_X10_rule : yX10_rule.cls = RX10 ∧ yX10_rule.cls ≠ "java/lang/invoke/MethodHandle" ∧ yX10_rule.cls ≠ "java/lang/invoke/VarHandle" ∧ (parseMethodDescriptor yX10_rule.desc).map (fun d => d.parameters.length) = some 2 := ⟨rfl, hd_X10_ruleS⟩
set_option maxHeartbeats 4000000 in
set_option maxRecDepth 100000 in
theorem c_X10_rule (V : ga_V) (a : Nat → Nat) (x_places : Int32) (x_newRules : Int32) (x_newPlaces : Int32) (x_acts : Int32) (x_kept : Int32) (x_length : Int32) (x_next : Int32) (x_place : Int32) (x_isWrong : Int32) (x_parts : Int32) (x_without : Int32) (x_ways : Int32) (x_rules : Int32) (x_rule : Nat → Int32) (x_slot : Nat → Int32) (p1 : Int32) (p2 : Int32) (K : Int32 → Prop) (h : wp_X10_rule x_rules x_rule x_slot p1 p2 K) : ga_C V yX10_rule wsX10_rule rm_X10_rule [.ref (a 0), .int p1, .int p2] [(a 0, .inr (10, [.int x_rules, .int x_places, .ref (a 1), .ref (a 2), .ref (a 3), .int x_newRules, .int x_newPlaces, .ref (a 4), .ref (a 5), .ref (a 6), .ref (a 7), .ref (a 8), .int x_acts, .int x_kept, .int x_length, .ref (a 9), .int x_next, .int x_place, .int x_isWrong, .ref (a 10), .ref (a 11), .ref (a 12), .int x_parts, .int x_without, .ref (a 13), .ref (a 14), .ref (a 15), .ref (a 16), .int x_ways, .ref (a 17), .ref (a 18), .ref (a 19), .ref (a 20)])), (a 1, .inl (V.2 0, 12, .inl x_rule)), (a 8, .inl (V.2 0, 732, .inl x_slot))] 0 0 (ga_Fi (fun (u : Unit) => [(a 0, .inr (10, [.int x_rules, .int x_places, .ref (a 1), .ref (a 2), .ref (a 3), .int x_newRules, .int x_newPlaces, .ref (a 4), .ref (a 5), .ref (a 6), .ref (a 7), .ref (a 8), .int x_acts, .int x_kept, .int x_length, .ref (a 9), .int x_next, .int x_place, .int x_isWrong, .ref (a 10), .ref (a 11), .ref (a 12), .int x_parts, .int x_without, .ref (a 13), .ref (a 14), .ref (a 15), .ref (a 16), .int x_ways, .ref (a 17), .ref (a 18), .ref (a 19), .ref (a 20)])), (a 1, .inl (V.2 0, 12, .inl x_rule)), (a 8, .inl (V.2 0, 732, .inl x_slot))]) (fun r u => K r)) := by
  refine ga_met (cc := cX10_rule) (maxL := 3) (rt := (some .int)) (by decide) rfl [(0, .ref (a 0)), (1, .int p1), (2, .int p2)] rfl (Nat.le_of_ble_eq_true rfl) ?_
  intro G hR hE
  have hinX10 : ∀ w ∈ u_ws RX10 TX10 33, w ∈ wsX10_rule := by decide +kernel
  have f7 : Cond.fieldLink RX10 7 "BoundaryRulesModel" "rule" "[I" ∈ wsX10_rule := by decide +kernel
  have f31 : Cond.fieldLink RX10 31 "BoundaryRulesModel" "slot" "[I" ∈ wsX10_rule := by decide +kernel
  unfold wp_X10_rule at h
  refine ga_aload_n hR (pc := 0) 0 rfl rfl dX10_rule_0 ?_
  refine ga_iload_n hR (pc := 1) 1 rfl rfl dX10_rule_1 ?_
  refine ga_callV hR (pc := 2) (As := [.int p1]) (rest := []) (st0 := [.int p1, .ref (a 0)]) (b := (a 0)) 1 (c_X10_isRule V a x_places x_newRules x_newPlaces x_acts x_kept x_length x_next x_place x_isWrong x_parts x_without x_ways x_rules p1 _ h) (ga_same_i fun _ => rfl) gX10_rule_X10_isRule rfl rfl rfl hd_X10_isRule ⟨Nat.le_of_ble_eq_true rfl, Nat.le_of_ble_eq_true rfl⟩ rfl rfl (Nat.le_of_ble_eq_true rfl) ⟨Nat.zero_le _, Nat.zero_le _⟩ [0] rfl rfl 0 rfl rfl dX10_rule_2 ?_
  rintro _ _ ⟨r_1, ⟨⟩, rfl, rfl, h⟩
  refine ga_to [(a 0, .inr (10, [.int x_rules, .int x_places, .ref (a 1), .ref (a 2), .ref (a 3), .int x_newRules, .int x_newPlaces, .ref (a 4), .ref (a 5), .ref (a 6), .ref (a 7), .ref (a 8), .int x_acts, .int x_kept, .int x_length, .ref (a 9), .int x_next, .int x_place, .int x_isWrong, .ref (a 10), .ref (a 11), .ref (a 12), .int x_parts, .int x_without, .ref (a 13), .ref (a 14), .ref (a 15), .ref (a 16), .int x_ways, .ref (a 17), .ref (a 18), .ref (a 19), .ref (a 20)])), (a 1, .inl (V.2 0, 12, .inl x_rule)), (a 8, .inl (V.2 0, 732, .inl x_slot))] [.int r_1] rfl rfl ?_
  try dsimp only at h
  refine ga_if_eq hR (pc := 5) 20 (by decide) dX10_rule_5 (fun c5 => ?_) (fun c5 => ?_)
  · replace h := h.1 c5
    refine ga_iconst hR (pc := 20) (v := -1) (by decide) dX10_rule_20 ?_
    exact ga_iret hE dX10_rule_21 rfl (ga_ri () rfl h)
  · replace h := h.2 c5
    refine ga_iload_n hR (pc := 8) 2 rfl rfl dX10_rule_8 ?_
    refine ga_i2l hR (pc := 9) dX10_rule_9 ?_
    refine ga_lconst hR (pc := 10) (v := lN 0) (by decide) dX10_rule_10 ?_
    refine ga_ldc2 hR (pc := 11) (v := lN 3) (by decide +kernel) dX10_rule_11 ?_
    refine ga_callS hR (pc := 14) (As := [.long p2.toInt64, .long (lN 0), .long (lN 3)]) (rest := []) (st0 := [.long (lN 3), .long (lN 0), .long p2.toInt64]) 3 (c_X10_in V p2.toInt64 (lN 0) (lN 3) _ h) (ga_same_i fun _ => rfl) gX10_rule_X10_in rfl rfl rfl hd_X10_inS ⟨Nat.le_of_ble_eq_true rfl, Nat.le_of_ble_eq_true rfl⟩ rfl rfl (Nat.le_of_ble_eq_true rfl) ⟨Nat.zero_le _, Nat.zero_le _⟩ [] rfl rfl dX10_rule_14 ?_
    rintro _ _ ⟨r_2, ⟨⟩, rfl, rfl, h⟩
    refine ga_to [(a 0, .inr (10, [.int x_rules, .int x_places, .ref (a 1), .ref (a 2), .ref (a 3), .int x_newRules, .int x_newPlaces, .ref (a 4), .ref (a 5), .ref (a 6), .ref (a 7), .ref (a 8), .int x_acts, .int x_kept, .int x_length, .ref (a 9), .int x_next, .int x_place, .int x_isWrong, .ref (a 10), .ref (a 11), .ref (a 12), .int x_parts, .int x_without, .ref (a 13), .ref (a 14), .ref (a 15), .ref (a 16), .int x_ways, .ref (a 17), .ref (a 18), .ref (a 19), .ref (a 20)])), (a 1, .inl (V.2 0, 12, .inl x_rule)), (a 8, .inl (V.2 0, 732, .inl x_slot))] [.int r_2] rfl rfl ?_
    try dsimp only at h
    refine ga_if_ne hR (pc := 17) 22 (by decide) dX10_rule_17 (fun c17 => ?_) (fun c17 => ?_)
    · replace h := h.1 c17
      refine ga_iload_n hR (pc := 22) 2 rfl rfl dX10_rule_22 ?_
      refine ga_if_ne hR (pc := 23) 38 (by decide) dX10_rule_23 (fun c23 => ?_) (fun c23 => ?_)
      · replace h := h.1 c23
        refine ga_iload_n hR (pc := 38) 2 rfl rfl dX10_rule_38 ?_
        refine ga_iconst hR (pc := 39) (v := nI 1) (by decide) dX10_rule_39 ?_
        refine ga_icmp_ne hR (pc := 40) 55 (by decide) dX10_rule_40 (fun c40 => ?_) (fun c40 => ?_)
        · replace h := h.1 c40
          refine ga_iload_n hR (pc := 55) 2 rfl rfl dX10_rule_55 ?_
          refine ga_iconst hR (pc := 56) (v := nI 2) (by decide) dX10_rule_56 ?_
          refine ga_icmp_ne hR (pc := 57) 71 (by decide) dX10_rule_57 (fun c57 => ?_) (fun c57 => ?_)
          · replace h := h.1 c57
            refine ga_aload_n hR (pc := 71) 0 rfl rfl dX10_rule_71 ?_
            refine ga_get hR (pc := 72) 0 rfl rfl hinX10 2 (by decide) f7 rfl dX10_rule_72 ?_
            refine ga_iconst hR (pc := 75) (v := nI 4) (by decide) dX10_rule_75 ?_
            refine ga_iload_n hR (pc := 76) 1 rfl rfl dX10_rule_76 ?_
            refine ga_iadd hR (pc := 77) dX10_rule_77 ?_
            refine ga_iald hR (pc := 78) 1 rfl h.1 dX10_rule_78 ?_
            replace h := h.2
            exact ga_iret hE dX10_rule_79 rfl (ga_ri () rfl h)
          · replace h := h.2 c57
            refine ga_aload_n hR (pc := 60) 0 rfl rfl dX10_rule_60 ?_
            refine ga_get hR (pc := 61) 0 rfl rfl hinX10 2 (by decide) f7 rfl dX10_rule_61 ?_
            refine ga_iconst hR (pc := 64) (v := nI 0) (by decide) dX10_rule_64 ?_
            refine ga_iload_n hR (pc := 65) 1 rfl rfl dX10_rule_65 ?_
            refine ga_iadd hR (pc := 66) dX10_rule_66 ?_
            refine ga_iald hR (pc := 67) 1 rfl h.1 dX10_rule_67 ?_
            replace h := h.2
            refine ga_goto hR (pc := 68) 79 (by decide) dX10_rule_68 ?_
            exact ga_iret hE dX10_rule_79 rfl (ga_ri () rfl h)
        · replace h := h.2 c40
          refine ga_aload_n hR (pc := 43) 0 rfl rfl dX10_rule_43 ?_
          refine ga_get hR (pc := 44) 0 rfl rfl hinX10 2 (by decide) f7 rfl dX10_rule_44 ?_
          refine ga_bipush hR (pc := 47) (v := nI 8) (by decide) dX10_rule_47 ?_
          refine ga_iload_n hR (pc := 49) 1 rfl rfl dX10_rule_49 ?_
          refine ga_iadd hR (pc := 50) dX10_rule_50 ?_
          refine ga_iald hR (pc := 51) 1 rfl h.1 dX10_rule_51 ?_
          replace h := h.2
          refine ga_goto hR (pc := 52) 79 (by decide) dX10_rule_52 ?_
          exact ga_iret hE dX10_rule_79 rfl (ga_ri () rfl h)
      · replace h := h.2 c23
        refine ga_aload_n hR (pc := 26) 0 rfl rfl dX10_rule_26 ?_
        refine ga_get hR (pc := 27) 0 rfl rfl hinX10 11 (by decide) f31 rfl dX10_rule_27 ?_
        refine ga_bipush hR (pc := 30) (v := nI 26) (by decide) dX10_rule_30 ?_
        refine ga_iload_n hR (pc := 32) 1 rfl rfl dX10_rule_32 ?_
        refine ga_iadd hR (pc := 33) dX10_rule_33 ?_
        refine ga_iald hR (pc := 34) 2 rfl h.1 dX10_rule_34 ?_
        replace h := h.2
        refine ga_goto hR (pc := 35) 79 (by decide) dX10_rule_35 ?_
        exact ga_iret hE dX10_rule_79 rfl (ga_ri () rfl h)
    · replace h := h.2 c17
      refine ga_iconst hR (pc := 20) (v := -1) (by decide) dX10_rule_20 ?_
      exact ga_iret hE dX10_rule_21 rfl (ga_ri () rfl h)

def rm_X10_place : Room := { frames := 1, cells := 0, slots := 0, locals := 25 }
theorem hd_X10_placeS : yX10_place.cls ≠ "java/lang/invoke/MethodHandle" ∧ yX10_place.cls ≠ "java/lang/invoke/VarHandle" ∧ (parseMethodDescriptor yX10_place.desc).map (fun d => d.parameters.length) = some 2 := by decide +kernel
theorem hd_X10_place : yX10_place.cls = RX10 ∧ yX10_place.cls ≠ "java/lang/invoke/MethodHandle" ∧ yX10_place.cls ≠ "java/lang/invoke/VarHandle" ∧ (parseMethodDescriptor yX10_place.desc).map (fun d => d.parameters.length) = some 2 := ⟨rfl, hd_X10_placeS⟩
set_option maxHeartbeats 4000000 in
set_option maxRecDepth 100000 in
theorem c_X10_place (V : ga_V) (a : Nat → Nat) (x_rules : Int32) (x_newRules : Int32) (x_newPlaces : Int32) (x_acts : Int32) (x_kept : Int32) (x_length : Int32) (x_next : Int32) (x_place : Int32) (x_isWrong : Int32) (x_parts : Int32) (x_without : Int32) (x_ways : Int32) (x_places : Int32) (x_takes : Nat → Int32) (x_behind : Nat → Int32) (p1 : Int32) (p2 : Int32) (K : Int32 → Prop) (h : wp_X10_place x_places x_takes x_behind p1 p2 K) : ga_C V yX10_place wsX10_place rm_X10_place [.ref (a 0), .int p1, .int p2] [(a 0, .inr (10, [.int x_rules, .int x_places, .ref (a 1), .ref (a 2), .ref (a 3), .int x_newRules, .int x_newPlaces, .ref (a 4), .ref (a 5), .ref (a 6), .ref (a 7), .ref (a 8), .int x_acts, .int x_kept, .int x_length, .ref (a 9), .int x_next, .int x_place, .int x_isWrong, .ref (a 10), .ref (a 11), .ref (a 12), .int x_parts, .int x_without, .ref (a 13), .ref (a 14), .ref (a 15), .ref (a 16), .int x_ways, .ref (a 17), .ref (a 18), .ref (a 19), .ref (a 20)])), (a 2, .inl (V.2 0, 10, .inl x_takes)), (a 3, .inl (V.2 0, 10, .inl x_behind))] 0 0 (ga_Fi (fun (u : Unit) => [(a 0, .inr (10, [.int x_rules, .int x_places, .ref (a 1), .ref (a 2), .ref (a 3), .int x_newRules, .int x_newPlaces, .ref (a 4), .ref (a 5), .ref (a 6), .ref (a 7), .ref (a 8), .int x_acts, .int x_kept, .int x_length, .ref (a 9), .int x_next, .int x_place, .int x_isWrong, .ref (a 10), .ref (a 11), .ref (a 12), .int x_parts, .int x_without, .ref (a 13), .ref (a 14), .ref (a 15), .ref (a 16), .int x_ways, .ref (a 17), .ref (a 18), .ref (a 19), .ref (a 20)])), (a 2, .inl (V.2 0, 10, .inl x_takes)), (a 3, .inl (V.2 0, 10, .inl x_behind))]) (fun r u => K r)) := by
  refine ga_met (cc := cX10_place) (maxL := 3) (rt := (some .int)) (by decide) rfl [(0, .ref (a 0)), (1, .int p1), (2, .int p2)] rfl (Nat.le_of_ble_eq_true rfl) ?_
  intro G hR hE
  have hinX10 : ∀ w ∈ u_ws RX10 TX10 33, w ∈ wsX10_place := by decide +kernel
  have f121 : Cond.fieldLink RX10 121 "BoundaryRulesModel" "places" "I" ∈ wsX10_place := by decide +kernel
  have f16 : Cond.fieldLink RX10 16 "BoundaryRulesModel" "behind" "[I" ∈ wsX10_place := by decide +kernel
  have f13 : Cond.fieldLink RX10 13 "BoundaryRulesModel" "takes" "[I" ∈ wsX10_place := by decide +kernel
  unfold wp_X10_place at h
  refine ga_iload_n hR (pc := 0) 1 rfl rfl dX10_place_0 ?_
  refine ga_i2l hR (pc := 1) dX10_place_1 ?_
  refine ga_lconst hR (pc := 2) (v := lN 0) (by decide) dX10_place_2 ?_
  refine ga_aload_n hR (pc := 3) 0 rfl rfl dX10_place_3 ?_
  refine ga_get hR (pc := 4) 0 rfl rfl hinX10 1 (by decide) f121 rfl dX10_place_4 ?_
  refine ga_iconst hR (pc := 7) (v := nI 1) (by decide) dX10_place_7 ?_
  refine ga_isub hR (pc := 8) dX10_place_8 ?_
  refine ga_i2l hR (pc := 9) dX10_place_9 ?_
  refine ga_callS hR (pc := 10) (As := [.long p1.toInt64, .long (lN 0), .long ((x_places - (nI 1)).toInt64)]) (rest := []) (st0 := [.long ((x_places - (nI 1)).toInt64), .long (lN 0), .long p1.toInt64]) 3 (c_X10_in V p1.toInt64 (lN 0) ((x_places - (nI 1)).toInt64) _ h) (ga_same_i fun _ => rfl) gX10_place_X10_in rfl rfl rfl hd_X10_inS ⟨Nat.le_of_ble_eq_true rfl, Nat.le_of_ble_eq_true rfl⟩ rfl rfl (Nat.le_of_ble_eq_true rfl) ⟨Nat.zero_le _, Nat.zero_le _⟩ [] rfl rfl dX10_place_10 ?_
  rintro _ _ ⟨r_1, ⟨⟩, rfl, rfl, h⟩
  refine ga_to [(a 0, .inr (10, [.int x_rules, .int x_places, .ref (a 1), .ref (a 2), .ref (a 3), .int x_newRules, .int x_newPlaces, .ref (a 4), .ref (a 5), .ref (a 6), .ref (a 7), .ref (a 8), .int x_acts, .int x_kept, .int x_length, .ref (a 9), .int x_next, .int x_place, .int x_isWrong, .ref (a 10), .ref (a 11), .ref (a 12), .int x_parts, .int x_without, .ref (a 13), .ref (a 14), .ref (a 15), .ref (a 16), .int x_ways, .ref (a 17), .ref (a 18), .ref (a 19), .ref (a 20)])), (a 2, .inl (V.2 0, 10, .inl x_takes)), (a 3, .inl (V.2 0, 10, .inl x_behind))] [.int r_1] rfl rfl ?_
  try dsimp only at h
  refine ga_if_eq hR (pc := 13) 48 (by decide) dX10_place_13 (fun c13 => ?_) (fun c13 => ?_)
  · replace h := h.1 c13
    refine ga_iconst hR (pc := 48) (v := -1) (by decide) dX10_place_48 ?_
    exact ga_iret hE dX10_place_49 rfl (ga_ri () rfl h)
  · replace h := h.2 c13
    refine ga_iload_n hR (pc := 16) 2 rfl rfl dX10_place_16 ?_
    refine ga_i2l hR (pc := 17) dX10_place_17 ?_
    refine ga_lconst hR (pc := 18) (v := lN 0) (by decide) dX10_place_18 ?_
    refine ga_lconst hR (pc := 19) (v := lN 1) (by decide) dX10_place_19 ?_
    refine ga_callS hR (pc := 20) (As := [.long p2.toInt64, .long (lN 0), .long (lN 1)]) (rest := []) (st0 := [.long (lN 1), .long (lN 0), .long p2.toInt64]) 3 (c_X10_in V p2.toInt64 (lN 0) (lN 1) _ h) (ga_same_i fun _ => rfl) gX10_place_X10_in rfl rfl rfl hd_X10_inS ⟨Nat.le_of_ble_eq_true rfl, Nat.le_of_ble_eq_true rfl⟩ rfl rfl (Nat.le_of_ble_eq_true rfl) ⟨Nat.zero_le _, Nat.zero_le _⟩ [] rfl rfl dX10_place_20 ?_
    rintro _ _ ⟨r_2, ⟨⟩, rfl, rfl, h⟩
    refine ga_to [(a 0, .inr (10, [.int x_rules, .int x_places, .ref (a 1), .ref (a 2), .ref (a 3), .int x_newRules, .int x_newPlaces, .ref (a 4), .ref (a 5), .ref (a 6), .ref (a 7), .ref (a 8), .int x_acts, .int x_kept, .int x_length, .ref (a 9), .int x_next, .int x_place, .int x_isWrong, .ref (a 10), .ref (a 11), .ref (a 12), .int x_parts, .int x_without, .ref (a 13), .ref (a 14), .ref (a 15), .ref (a 16), .int x_ways, .ref (a 17), .ref (a 18), .ref (a 19), .ref (a 20)])), (a 2, .inl (V.2 0, 10, .inl x_takes)), (a 3, .inl (V.2 0, 10, .inl x_behind))] [.int r_2] rfl rfl ?_
    try dsimp only at h
    refine ga_if_eq hR (pc := 23) 48 (by decide) dX10_place_23 (fun c23 => ?_) (fun c23 => ?_)
    · replace h := h.1 c23
      refine ga_iconst hR (pc := 48) (v := -1) (by decide) dX10_place_48 ?_
      exact ga_iret hE dX10_place_49 rfl (ga_ri () rfl h)
    · replace h := h.2 c23
      refine ga_iload_n hR (pc := 26) 2 rfl rfl dX10_place_26 ?_
      refine ga_if_ne hR (pc := 27) 39 (by decide) dX10_place_27 (fun c27 => ?_) (fun c27 => ?_)
      · replace h := h.1 c27
        refine ga_aload_n hR (pc := 39) 0 rfl rfl dX10_place_39 ?_
        refine ga_get hR (pc := 40) 0 rfl rfl hinX10 4 (by decide) f16 rfl dX10_place_40 ?_
        refine ga_iload_n hR (pc := 43) 1 rfl rfl dX10_place_43 ?_
        refine ga_iald hR (pc := 44) 2 rfl h.1 dX10_place_44 ?_
        replace h := h.2
        refine ga_goto hR (pc := 45) 49 (by decide) dX10_place_45 ?_
        exact ga_iret hE dX10_place_49 rfl (ga_ri () rfl h)
      · replace h := h.2 c27
        refine ga_aload_n hR (pc := 30) 0 rfl rfl dX10_place_30 ?_
        refine ga_get hR (pc := 31) 0 rfl rfl hinX10 3 (by decide) f13 rfl dX10_place_31 ?_
        refine ga_iload_n hR (pc := 34) 1 rfl rfl dX10_place_34 ?_
        refine ga_iald hR (pc := 35) 1 rfl h.1 dX10_place_35 ?_
        replace h := h.2
        refine ga_goto hR (pc := 36) 49 (by decide) dX10_place_36 ?_
        exact ga_iret hE dX10_place_49 rfl (ga_ri () rfl h)

def rm_X10_kind : Room := { frames := 1, cells := 0, slots := 0, locals := 25 }
theorem hd_X10_kindS : yX10_kind.cls ≠ "java/lang/invoke/MethodHandle" ∧ yX10_kind.cls ≠ "java/lang/invoke/VarHandle" ∧ (parseMethodDescriptor yX10_kind.desc).map (fun d => d.parameters.length) = some 1 := by decide +kernel
theorem hd_X10_kind : yX10_kind.cls = RX10 ∧ yX10_kind.cls ≠ "java/lang/invoke/MethodHandle" ∧ yX10_kind.cls ≠ "java/lang/invoke/VarHandle" ∧ (parseMethodDescriptor yX10_kind.desc).map (fun d => d.parameters.length) = some 1 := ⟨rfl, hd_X10_kindS⟩
set_option maxHeartbeats 4000000 in
set_option maxRecDepth 100000 in
theorem c_X10_kind (V : ga_V) (a : Nat → Nat) (x_rules : Int32) (x_places : Int32) (x_newRules : Int32) (x_newPlaces : Int32) (x_acts : Int32) (x_kept : Int32) (x_length : Int32) (x_next : Int32) (x_place : Int32) (x_isWrong : Int32) (x_parts : Int32) (x_without : Int32) (x_ways : Int32) (x_slot : Nat → Int32) (p1 : Int32) (K : Int32 → Prop) (h : wp_X10_kind x_slot p1 K) : ga_C V yX10_kind wsX10_kind rm_X10_kind [.ref (a 0), .int p1] [(a 0, .inr (10, [.int x_rules, .int x_places, .ref (a 1), .ref (a 2), .ref (a 3), .int x_newRules, .int x_newPlaces, .ref (a 4), .ref (a 5), .ref (a 6), .ref (a 7), .ref (a 8), .int x_acts, .int x_kept, .int x_length, .ref (a 9), .int x_next, .int x_place, .int x_isWrong, .ref (a 10), .ref (a 11), .ref (a 12), .int x_parts, .int x_without, .ref (a 13), .ref (a 14), .ref (a 15), .ref (a 16), .int x_ways, .ref (a 17), .ref (a 18), .ref (a 19), .ref (a 20)])), (a 8, .inl (V.2 0, 732, .inl x_slot))] 0 0 (ga_Fi (fun (u : Unit) => [(a 0, .inr (10, [.int x_rules, .int x_places, .ref (a 1), .ref (a 2), .ref (a 3), .int x_newRules, .int x_newPlaces, .ref (a 4), .ref (a 5), .ref (a 6), .ref (a 7), .ref (a 8), .int x_acts, .int x_kept, .int x_length, .ref (a 9), .int x_next, .int x_place, .int x_isWrong, .ref (a 10), .ref (a 11), .ref (a 12), .int x_parts, .int x_without, .ref (a 13), .ref (a 14), .ref (a 15), .ref (a 16), .int x_ways, .ref (a 17), .ref (a 18), .ref (a 19), .ref (a 20)])), (a 8, .inl (V.2 0, 732, .inl x_slot))]) (fun r u => K r)) := by
  refine ga_met (cc := cX10_kind) (maxL := 2) (rt := (some .int)) (by decide) rfl [(0, .ref (a 0)), (1, .int p1)] rfl (Nat.le_of_ble_eq_true rfl) ?_
  intro G hR hE
  have hinX10 : ∀ w ∈ u_ws RX10 TX10 33, w ∈ wsX10_kind := by decide +kernel
  have f31 : Cond.fieldLink RX10 31 "BoundaryRulesModel" "slot" "[I" ∈ wsX10_kind := by decide +kernel
  unfold wp_X10_kind at h
  refine ga_iload_n hR (pc := 0) 1 rfl rfl dX10_kind_0 ?_
  refine ga_i2l hR (pc := 1) dX10_kind_1 ?_
  refine ga_lconst hR (pc := 2) (v := lN 0) (by decide) dX10_kind_2 ?_
  refine ga_ldc2 hR (pc := 3) (v := lN 25) (by decide +kernel) dX10_kind_3 ?_
  refine ga_callS hR (pc := 6) (As := [.long p1.toInt64, .long (lN 0), .long (lN 25)]) (rest := []) (st0 := [.long (lN 25), .long (lN 0), .long p1.toInt64]) 3 (c_X10_in V p1.toInt64 (lN 0) (lN 25) _ h) (ga_same_i fun _ => rfl) gX10_kind_X10_in rfl rfl rfl hd_X10_inS ⟨Nat.le_of_ble_eq_true rfl, Nat.le_of_ble_eq_true rfl⟩ rfl rfl (Nat.le_of_ble_eq_true rfl) ⟨Nat.zero_le _, Nat.zero_le _⟩ [] rfl rfl dX10_kind_6 ?_
  rintro _ _ ⟨r_1, ⟨⟩, rfl, rfl, h⟩
  refine ga_to [(a 0, .inr (10, [.int x_rules, .int x_places, .ref (a 1), .ref (a 2), .ref (a 3), .int x_newRules, .int x_newPlaces, .ref (a 4), .ref (a 5), .ref (a 6), .ref (a 7), .ref (a 8), .int x_acts, .int x_kept, .int x_length, .ref (a 9), .int x_next, .int x_place, .int x_isWrong, .ref (a 10), .ref (a 11), .ref (a 12), .int x_parts, .int x_without, .ref (a 13), .ref (a 14), .ref (a 15), .ref (a 16), .int x_ways, .ref (a 17), .ref (a 18), .ref (a 19), .ref (a 20)])), (a 8, .inl (V.2 0, 732, .inl x_slot))] [.int r_1] rfl rfl ?_
  try dsimp only at h
  refine ga_if_eq hR (pc := 9) 21 (by decide) dX10_kind_9 (fun c9 => ?_) (fun c9 => ?_)
  · replace h := h.1 c9
    refine ga_iconst hR (pc := 21) (v := -1) (by decide) dX10_kind_21 ?_
    exact ga_iret hE dX10_kind_22 rfl (ga_ri () rfl h)
  · replace h := h.2 c9
    refine ga_aload_n hR (pc := 12) 0 rfl rfl dX10_kind_12 ?_
    refine ga_get hR (pc := 13) 0 rfl rfl hinX10 11 (by decide) f31 rfl dX10_kind_13 ?_
    refine ga_iload_n hR (pc := 16) 1 rfl rfl dX10_kind_16 ?_
    refine ga_iald hR (pc := 17) 1 rfl h.1 dX10_kind_17 ?_
    replace h := h.2
    refine ga_goto hR (pc := 18) 22 (by decide) dX10_kind_18 ?_
    exact ga_iret hE dX10_kind_22 rfl (ga_ri () rfl h)

def rm_X10_letter : Room := { frames := 2, cells := 0, slots := 0, locals := 46 }
theorem hd_X10_letterS : yX10_letter.cls ≠ "java/lang/invoke/MethodHandle" ∧ yX10_letter.cls ≠ "java/lang/invoke/VarHandle" ∧ (parseMethodDescriptor yX10_letter.desc).map (fun d => d.parameters.length) = some 1 := by decide +kernel
theorem hd_X10_letter : yX10_letter.cls = RX10 ∧ yX10_letter.cls ≠ "java/lang/invoke/MethodHandle" ∧ yX10_letter.cls ≠ "java/lang/invoke/VarHandle" ∧ (parseMethodDescriptor yX10_letter.desc).map (fun d => d.parameters.length) = some 1 := ⟨rfl, hd_X10_letterS⟩
set_option maxHeartbeats 4000000 in
set_option maxRecDepth 100000 in
theorem c_X10_letter (V : ga_V) (a : Nat → Nat) (x_rules : Int32) (x_places : Int32) (x_newRules : Int32) (x_newPlaces : Int32) (x_acts : Int32) (x_kept : Int32) (x_length : Int32) (x_next : Int32) (x_place : Int32) (x_isWrong : Int32) (x_parts : Int32) (x_without : Int32) (x_ways : Int32) (x_slot : Nat → Int32) (p1 : Int32) (K : Int32 → Prop) (h : wp_X10_letter x_slot p1 K) : ga_C V yX10_letter wsX10_letter rm_X10_letter [.ref (a 0), .int p1] [(a 0, .inr (10, [.int x_rules, .int x_places, .ref (a 1), .ref (a 2), .ref (a 3), .int x_newRules, .int x_newPlaces, .ref (a 4), .ref (a 5), .ref (a 6), .ref (a 7), .ref (a 8), .int x_acts, .int x_kept, .int x_length, .ref (a 9), .int x_next, .int x_place, .int x_isWrong, .ref (a 10), .ref (a 11), .ref (a 12), .int x_parts, .int x_without, .ref (a 13), .ref (a 14), .ref (a 15), .ref (a 16), .int x_ways, .ref (a 17), .ref (a 18), .ref (a 19), .ref (a 20)])), (a 8, .inl (V.2 0, 732, .inl x_slot))] 0 0 (ga_Fi (fun (u : Unit) => [(a 0, .inr (10, [.int x_rules, .int x_places, .ref (a 1), .ref (a 2), .ref (a 3), .int x_newRules, .int x_newPlaces, .ref (a 4), .ref (a 5), .ref (a 6), .ref (a 7), .ref (a 8), .int x_acts, .int x_kept, .int x_length, .ref (a 9), .int x_next, .int x_place, .int x_isWrong, .ref (a 10), .ref (a 11), .ref (a 12), .int x_parts, .int x_without, .ref (a 13), .ref (a 14), .ref (a 15), .ref (a 16), .int x_ways, .ref (a 17), .ref (a 18), .ref (a 19), .ref (a 20)])), (a 8, .inl (V.2 0, 732, .inl x_slot))]) (fun r u => K r)) := by
  refine ga_met (cc := cX10_letter) (maxL := 2) (rt := (some .int)) (by decide) rfl [(0, .ref (a 0)), (1, .int p1)] rfl (Nat.le_of_ble_eq_true rfl) ?_
  intro G hR hE
  have hinX10 : ∀ w ∈ u_ws RX10 TX10 33, w ∈ wsX10_letter := by decide +kernel
  have f31 : Cond.fieldLink RX10 31 "BoundaryRulesModel" "slot" "[I" ∈ wsX10_letter := by decide +kernel
  unfold wp_X10_letter at h
  refine ga_aload_n hR (pc := 0) 0 rfl rfl dX10_letter_0 ?_
  refine ga_iload_n hR (pc := 1) 1 rfl rfl dX10_letter_1 ?_
  refine ga_callV hR (pc := 2) (As := [.int p1]) (rest := []) (st0 := [.int p1, .ref (a 0)]) (b := (a 0)) 1 (c_X10_isPlace V a x_rules x_places x_newRules x_newPlaces x_acts x_kept x_length x_next x_place x_isWrong x_parts x_without x_ways x_slot p1 _ h) (ga_same_i fun _ => rfl) gX10_letter_X10_isPlace rfl rfl rfl hd_X10_isPlace ⟨Nat.le_of_ble_eq_true rfl, Nat.le_of_ble_eq_true rfl⟩ rfl rfl (Nat.le_of_ble_eq_true rfl) ⟨Nat.zero_le _, Nat.zero_le _⟩ [0, 1] rfl rfl 0 rfl rfl dX10_letter_2 ?_
  rintro _ _ ⟨r_1, ⟨⟩, rfl, rfl, h⟩
  refine ga_to [(a 0, .inr (10, [.int x_rules, .int x_places, .ref (a 1), .ref (a 2), .ref (a 3), .int x_newRules, .int x_newPlaces, .ref (a 4), .ref (a 5), .ref (a 6), .ref (a 7), .ref (a 8), .int x_acts, .int x_kept, .int x_length, .ref (a 9), .int x_next, .int x_place, .int x_isWrong, .ref (a 10), .ref (a 11), .ref (a 12), .int x_parts, .int x_without, .ref (a 13), .ref (a 14), .ref (a 15), .ref (a 16), .int x_ways, .ref (a 17), .ref (a 18), .ref (a 19), .ref (a 20)])), (a 8, .inl (V.2 0, 732, .inl x_slot))] [.int r_1] rfl rfl ?_
  try dsimp only at h
  refine ga_if_ne hR (pc := 5) 12 (by decide) dX10_letter_5 (fun c5 => ?_) (fun c5 => ?_)
  · replace h := h.1 c5
    refine ga_iload_n hR (pc := 12) 1 rfl rfl dX10_letter_12 ?_
    refine ga_aload_n hR (pc := 13) 0 rfl rfl dX10_letter_13 ?_
    refine ga_get hR (pc := 14) 0 rfl rfl hinX10 11 (by decide) f31 rfl dX10_letter_14 ?_
    refine ga_bipush hR (pc := 17) (v := nI 30) (by decide) dX10_letter_17 ?_
    refine ga_iald hR (pc := 19) 1 rfl h.1 dX10_letter_19 ?_
    replace h := h.2
    refine ga_icmp_ne hR (pc := 20) 28 (by decide) dX10_letter_20 (fun c20 => ?_) (fun c20 => ?_)
    · replace h := h.1 c20
      refine ga_aload_n hR (pc := 28) 0 rfl rfl dX10_letter_28 ?_
      refine ga_get hR (pc := 29) 0 rfl rfl hinX10 11 (by decide) f31 rfl dX10_letter_29 ?_
      refine ga_bipush hR (pc := 32) (v := nI 31) (by decide) dX10_letter_32 ?_
      refine ga_iload_n hR (pc := 34) 1 rfl rfl dX10_letter_34 ?_
      refine ga_iadd hR (pc := 35) dX10_letter_35 ?_
      refine ga_iald hR (pc := 36) 1 rfl h.1 dX10_letter_36 ?_
      replace h := h.2
      exact ga_iret hE dX10_letter_37 rfl (ga_ri () rfl h)
    · replace h := h.2 c20
      refine ga_bipush hR (pc := 23) (v := -4) (by decide) dX10_letter_23 ?_
      refine ga_goto hR (pc := 25) 37 (by decide) dX10_letter_25 ?_
      exact ga_iret hE dX10_letter_37 rfl (ga_ri () rfl h)
  · replace h := h.2 c5
    refine ga_iconst hR (pc := 8) (v := -1) (by decide) dX10_letter_8 ?_
    refine ga_goto hR (pc := 9) 37 (by decide) dX10_letter_9 ?_
    exact ga_iret hE dX10_letter_37 rfl (ga_ri () rfl h)

def rm_X10_copies : Room := { frames := 0, cells := 0, slots := 0, locals := 0 }
theorem hd_X10_copiesS : yX10_copies.cls ≠ "java/lang/invoke/MethodHandle" ∧ yX10_copies.cls ≠ "java/lang/invoke/VarHandle" ∧ (parseMethodDescriptor yX10_copies.desc).map (fun d => d.parameters.length) = some 2 := by decide +kernel
theorem hd_X10_copies : yX10_copies.cls = RX10 ∧ yX10_copies.cls ≠ "java/lang/invoke/MethodHandle" ∧ yX10_copies.cls ≠ "java/lang/invoke/VarHandle" ∧ (parseMethodDescriptor yX10_copies.desc).map (fun d => d.parameters.length) = some 2 := ⟨rfl, hd_X10_copiesS⟩
set_option maxHeartbeats 4000000 in
set_option maxRecDepth 100000 in
theorem c_X10_copies (V : ga_V) (a : Nat → Nat) (x_rules : Int32) (x_places : Int32) (x_newRules : Int32) (x_newPlaces : Int32) (x_acts : Int32) (x_kept : Int32) (x_length : Int32) (x_next : Int32) (x_place : Int32) (x_isWrong : Int32) (x_parts : Int32) (x_without : Int32) (x_ways : Int32) (x_slot : Nat → Int32) (p1 : Int32) (p2 : Int32) (K : (Nat → Int32) → Prop) (h : wp_X10_copies x_slot p1 p2 K) : ga_C V yX10_copies wsX10_copies rm_X10_copies [.ref (a 0), .int p1, .int p2] [(a 0, .inr (10, [.int x_rules, .int x_places, .ref (a 1), .ref (a 2), .ref (a 3), .int x_newRules, .int x_newPlaces, .ref (a 4), .ref (a 5), .ref (a 6), .ref (a 7), .ref (a 8), .int x_acts, .int x_kept, .int x_length, .ref (a 9), .int x_next, .int x_place, .int x_isWrong, .ref (a 10), .ref (a 11), .ref (a 12), .int x_parts, .int x_without, .ref (a 13), .ref (a 14), .ref (a 15), .ref (a 16), .int x_ways, .ref (a 17), .ref (a 18), .ref (a 19), .ref (a 20)])), (a 8, .inl (V.2 0, 732, .inl x_slot))] 0 0 (ga_Fv (fun (u : (Nat → Int32)) => [(a 0, .inr (10, [.int x_rules, .int x_places, .ref (a 1), .ref (a 2), .ref (a 3), .int x_newRules, .int x_newPlaces, .ref (a 4), .ref (a 5), .ref (a 6), .ref (a 7), .ref (a 8), .int x_acts, .int x_kept, .int x_length, .ref (a 9), .int x_next, .int x_place, .int x_isWrong, .ref (a 10), .ref (a 11), .ref (a 12), .int x_parts, .int x_without, .ref (a 13), .ref (a 14), .ref (a 15), .ref (a 16), .int x_ways, .ref (a 17), .ref (a 18), .ref (a 19), .ref (a 20)])), (a 8, .inl (V.2 0, 732, .inl u))]) (fun u => K u)) := by
  refine ga_met (cc := cX10_copies) (maxL := 4) (rt := none) (by decide) rfl [(0, .ref (a 0)), (1, .int p1), (2, .int p2)] rfl (Nat.le_of_ble_eq_true rfl) ?_
  intro G hR hE
  have hinX10 : ∀ w ∈ u_ws RX10 TX10 33, w ∈ wsX10_copies := by decide +kernel
  have f31 : Cond.fieldLink RX10 31 "BoundaryRulesModel" "slot" "[I" ∈ wsX10_copies := by decide +kernel
  unfold wp_X10_copies at h
  refine ga_iconst hR (pc := 0) (v := nI 0) (by decide) dX10_copies_0 ?_
  refine ga_istore_n hR (pc := 1) (lv' := [(3, .int (nI 0)), (0, .ref (a 0)), (1, .int p1), (2, .int p2)]) rfl (by decide) rfl dX10_copies_1 ?_
  have hJ := h (fun (x_slot_1 : Nat → Int32) => G 0 0 [(a 0, .inr (10, [.int x_rules, .int x_places, .ref (a 1), .ref (a 2), .ref (a 3), .int x_newRules, .int x_newPlaces, .ref (a 4), .ref (a 5), .ref (a 6), .ref (a 7), .ref (a 8), .int x_acts, .int x_kept, .int x_length, .ref (a 9), .int x_next, .int x_place, .int x_isWrong, .ref (a 10), .ref (a 11), .ref (a 12), .int x_parts, .int x_without, .ref (a 13), .ref (a 14), .ref (a 15), .ref (a 16), .int x_ways, .ref (a 17), .ref (a 18), .ref (a 19), .ref (a 20)])), (a 8, .inl (V.2 0, 732, .inl x_slot_1))] 30 [] [])
  refine ga_bind hJ ?_ ?_
  · intro x_slot_1 h
    show G 0 0 [(a 0, .inr (10, [.int x_rules, .int x_places, .ref (a 1), .ref (a 2), .ref (a 3), .int x_newRules, .int x_newPlaces, .ref (a 4), .ref (a 5), .ref (a 6), .ref (a 7), .ref (a 8), .int x_acts, .int x_kept, .int x_length, .ref (a 9), .int x_next, .int x_place, .int x_isWrong, .ref (a 10), .ref (a 11), .ref (a 12), .int x_parts, .int x_without, .ref (a 13), .ref (a 14), .ref (a 15), .ref (a 16), .int x_ways, .ref (a 17), .ref (a 18), .ref (a 19), .ref (a 20)])), (a 8, .inl (V.2 0, 732, .inl x_slot_1))] 30 [] []
    exact ga_vret hE dX10_copies_30 (ga_rv x_slot_1 rfl h)
  · intro h
    obtain ⟨n, h⟩ := h
    have L2 : ∀ (n : Nat) (v3_6 : Int32) (x_slot_7 : Nat → Int32), lp_X10_copies_2 p1 p2 (fun (x_slot_1 : Nat → Int32) => G 0 0 [(a 0, .inr (10, [.int x_rules, .int x_places, .ref (a 1), .ref (a 2), .ref (a 3), .int x_newRules, .int x_newPlaces, .ref (a 4), .ref (a 5), .ref (a 6), .ref (a 7), .ref (a 8), .int x_acts, .int x_kept, .int x_length, .ref (a 9), .int x_next, .int x_place, .int x_isWrong, .ref (a 10), .ref (a 11), .ref (a 12), .int x_parts, .int x_without, .ref (a 13), .ref (a 14), .ref (a 15), .ref (a 16), .int x_ways, .ref (a 17), .ref (a 18), .ref (a 19), .ref (a 20)])), (a 8, .inl (V.2 0, 732, .inl x_slot_1))] 30 [] []) n v3_6 x_slot_7 → G 0 0 [(a 0, .inr (10, [.int x_rules, .int x_places, .ref (a 1), .ref (a 2), .ref (a 3), .int x_newRules, .int x_newPlaces, .ref (a 4), .ref (a 5), .ref (a 6), .ref (a 7), .ref (a 8), .int x_acts, .int x_kept, .int x_length, .ref (a 9), .int x_next, .int x_place, .int x_isWrong, .ref (a 10), .ref (a 11), .ref (a 12), .int x_parts, .int x_without, .ref (a 13), .ref (a 14), .ref (a 15), .ref (a 16), .int x_ways, .ref (a 17), .ref (a 18), .ref (a 19), .ref (a 20)])), (a 8, .inl (V.2 0, 732, .inl x_slot_7))] 2 [(0, .ref (a 0)), (1, .int p1), (2, .int p2), (3, .int v3_6)] [] := by
      intro n
      induction n with
      | zero => exact fun _ _ h => False.elim h
      | succ n ih =>
        intro v3_6 x_slot_7 h
        rw [lp_X10_copies_2] at h
        refine ga_iload_n hR (pc := 2) 3 rfl rfl dX10_copies_2 ?_
        refine ga_bipush hR (pc := 3) (v := nI 61) (by decide) dX10_copies_3 ?_
        refine ga_icmp_ge hR (pc := 5) 30 (by decide) dX10_copies_5 (fun c5 => ?_) (fun c5 => ?_)
        · replace h := h.1 c5
          exact ga_lv hR [] rfl h
        · replace h := h.2 c5
          refine ga_aload_n hR (pc := 8) 0 rfl rfl dX10_copies_8 ?_
          refine ga_get hR (pc := 9) 0 rfl rfl hinX10 11 (by decide) f31 rfl dX10_copies_9 ?_
          refine ga_iload_n hR (pc := 12) 2 rfl rfl dX10_copies_12 ?_
          refine ga_iload_n hR (pc := 13) 3 rfl rfl dX10_copies_13 ?_
          refine ga_iadd hR (pc := 14) dX10_copies_14 ?_
          refine ga_aload_n hR (pc := 15) 0 rfl rfl dX10_copies_15 ?_
          refine ga_get hR (pc := 16) 0 rfl rfl hinX10 11 (by decide) f31 rfl dX10_copies_16 ?_
          refine ga_iload_n hR (pc := 19) 1 rfl rfl dX10_copies_19 ?_
          refine ga_iload_n hR (pc := 20) 3 rfl rfl dX10_copies_20 ?_
          refine ga_iadd hR (pc := 21) dX10_copies_21 ?_
          refine ga_iald hR (pc := 22) 1 rfl h.1 dX10_copies_22 ?_
          replace h := h.2
          refine ga_topi (fun t_8 et_8 => ?_)
          replace h := h t_8 et_8
          refine ga_iast hR (pc := 23) (ws' := [(a 0, .inr (10, [.int x_rules, .int x_places, .ref (a 1), .ref (a 2), .ref (a 3), .int x_newRules, .int x_newPlaces, .ref (a 4), .ref (a 5), .ref (a 6), .ref (a 7), .ref (a 8), .int x_acts, .int x_kept, .int x_length, .ref (a 9), .int x_next, .int x_place, .int x_isWrong, .ref (a 10), .ref (a 11), .ref (a 12), .int x_parts, .int x_without, .ref (a 13), .ref (a 14), .ref (a 15), .ref (a 16), .int x_ways, .ref (a 17), .ref (a 18), .ref (a 19), .ref (a 20)])), (a 8, .inl (V.2 0, 732, .inl ((upd x_slot_7 (p2 + v3_6).toNatClampNeg t_8))))]) 1 rfl h.1 rfl dX10_copies_23 ?_
          replace h := h.2
          obtain ⟨x_slot_9, ex_slot_9⟩ : ∃ f : Nat → Int32, f = upd x_slot_7 (p2 + v3_6).toNatClampNeg t_8 := ⟨_, rfl⟩
          refine ga_cast (ws' := [(a 0, .inr (10, [.int x_rules, .int x_places, .ref (a 1), .ref (a 2), .ref (a 3), .int x_newRules, .int x_newPlaces, .ref (a 4), .ref (a 5), .ref (a 6), .ref (a 7), .ref (a 8), .int x_acts, .int x_kept, .int x_length, .ref (a 9), .int x_next, .int x_place, .int x_isWrong, .ref (a 10), .ref (a 11), .ref (a 12), .int x_parts, .int x_without, .ref (a 13), .ref (a 14), .ref (a 15), .ref (a 16), .int x_ways, .ref (a 17), .ref (a 18), .ref (a 19), .ref (a 20)])), (a 8, .inl (V.2 0, 732, .inl x_slot_9))]) (by rw [ex_slot_9]) rfl ?_
          replace h := h x_slot_9 ex_slot_9
          obtain ⟨v3_10, ev3_10⟩ : ∃ v : Int32, v = v3_6 + (nI 1) := ⟨_, rfl⟩
          replace h := h v3_10 ev3_10
          refine ga_iinc hR (pc := 24) (lv' := [(3, .int v3_10), (0, .ref (a 0)), (1, .int p1), (2, .int p2)]) 3 (by decide) rfl ev3_10 (by decide) rfl dX10_copies_24 ?_
          refine ga_goto hR (pc := 27) 2 (by decide) dX10_copies_27 ?_
          exact ga_lv hR [1, 2, 3, 0] rfl (ih _ _ h)
    exact ga_lv hR [1, 2, 3, 0] rfl (L2 n _ _ h)

def rm_X10_known : Room := { frames := 1, cells := 0, slots := 0, locals := 23 }
theorem hd_X10_knownS : yX10_known.cls ≠ "java/lang/invoke/MethodHandle" ∧ yX10_known.cls ≠ "java/lang/invoke/VarHandle" ∧ (parseMethodDescriptor yX10_known.desc).map (fun d => d.parameters.length) = some 0 := by decide +kernel
theorem hd_X10_known : yX10_known.cls = RX10 ∧ yX10_known.cls ≠ "java/lang/invoke/MethodHandle" ∧ yX10_known.cls ≠ "java/lang/invoke/VarHandle" ∧ (parseMethodDescriptor yX10_known.desc).map (fun d => d.parameters.length) = some 0 := ⟨rfl, hd_X10_knownS⟩
set_option maxHeartbeats 4000000 in
set_option maxRecDepth 100000 in
theorem c_X10_known (V : ga_V) (a : Nat → Nat) (x_rules : Int32) (x_places : Int32) (x_newRules : Int32) (x_newPlaces : Int32) (x_kept : Int32) (x_length : Int32) (x_next : Int32) (x_place : Int32) (x_isWrong : Int32) (x_parts : Int32) (x_without : Int32) (x_ways : Int32) (x_acts : Int32) (x_slot : Nat → Int32) (K : Int32 → (Nat → Int32) → Prop) (h : wp_X10_known x_acts x_slot K) : ga_C V yX10_known wsX10_known rm_X10_known [.ref (a 0)] [(a 0, .inr (10, [.int x_rules, .int x_places, .ref (a 1), .ref (a 2), .ref (a 3), .int x_newRules, .int x_newPlaces, .ref (a 4), .ref (a 5), .ref (a 6), .ref (a 7), .ref (a 8), .int x_acts, .int x_kept, .int x_length, .ref (a 9), .int x_next, .int x_place, .int x_isWrong, .ref (a 10), .ref (a 11), .ref (a 12), .int x_parts, .int x_without, .ref (a 13), .ref (a 14), .ref (a 15), .ref (a 16), .int x_ways, .ref (a 17), .ref (a 18), .ref (a 19), .ref (a 20)])), (a 8, .inl (V.2 0, 732, .inl x_slot))] 0 0 (ga_Fv (fun (u : Int32 × (Nat → Int32)) => [(a 0, .inr (10, [.int x_rules, .int x_places, .ref (a 1), .ref (a 2), .ref (a 3), .int x_newRules, .int x_newPlaces, .ref (a 4), .ref (a 5), .ref (a 6), .ref (a 7), .ref (a 8), .int u.1, .int x_kept, .int x_length, .ref (a 9), .int x_next, .int x_place, .int x_isWrong, .ref (a 10), .ref (a 11), .ref (a 12), .int x_parts, .int x_without, .ref (a 13), .ref (a 14), .ref (a 15), .ref (a 16), .int x_ways, .ref (a 17), .ref (a 18), .ref (a 19), .ref (a 20)])), (a 8, .inl (V.2 0, 732, .inl u.2))]) (fun u => K u.1 u.2)) := by
  refine ga_met (cc := cX10_known) (maxL := 2) (rt := none) (by decide) rfl [(0, .ref (a 0))] rfl (Nat.le_of_ble_eq_true rfl) ?_
  intro G hR hE
  have hinX10 : ∀ w ∈ u_ws RX10 TX10 33, w ∈ wsX10_known := by decide +kernel
  have f124 : Cond.fieldLink RX10 124 "BoundaryRulesModel" "acts" "I" ∈ wsX10_known := by decide +kernel
  have f31 : Cond.fieldLink RX10 31 "BoundaryRulesModel" "slot" "[I" ∈ wsX10_known := by decide +kernel
  unfold wp_X10_known at h
  refine ga_aload_n hR (pc := 0) 0 rfl rfl dX10_known_0 ?_
  refine ga_get hR (pc := 1) 0 rfl rfl hinX10 12 (by decide) f124 rfl dX10_known_1 ?_
  refine ga_bipush hR (pc := 4) (v := nI 8) (by decide) dX10_known_4 ?_
  have hJ := h (fun (x_acts_1 : Int32) (x_slot_2 : Nat → Int32) => G 0 0 [(a 0, .inr (10, [.int x_rules, .int x_places, .ref (a 1), .ref (a 2), .ref (a 3), .int x_newRules, .int x_newPlaces, .ref (a 4), .ref (a 5), .ref (a 6), .ref (a 7), .ref (a 8), .int x_acts_1, .int x_kept, .int x_length, .ref (a 9), .int x_next, .int x_place, .int x_isWrong, .ref (a 10), .ref (a 11), .ref (a 12), .int x_parts, .int x_without, .ref (a 13), .ref (a 14), .ref (a 15), .ref (a 16), .int x_ways, .ref (a 17), .ref (a 18), .ref (a 19), .ref (a 20)])), (a 8, .inl (V.2 0, 732, .inl x_slot_2))] 46 [(0, .ref (a 0))] [])
  refine ga_bind hJ ?_ ?_
  · intro x_acts_1 x_slot_2 h
    show G 0 0 [(a 0, .inr (10, [.int x_rules, .int x_places, .ref (a 1), .ref (a 2), .ref (a 3), .int x_newRules, .int x_newPlaces, .ref (a 4), .ref (a 5), .ref (a 6), .ref (a 7), .ref (a 8), .int x_acts_1, .int x_kept, .int x_length, .ref (a 9), .int x_next, .int x_place, .int x_isWrong, .ref (a 10), .ref (a 11), .ref (a 12), .int x_parts, .int x_without, .ref (a 13), .ref (a 14), .ref (a 15), .ref (a 16), .int x_ways, .ref (a 17), .ref (a 18), .ref (a 19), .ref (a 20)])), (a 8, .inl (V.2 0, 732, .inl x_slot_2))] 46 [(0, .ref (a 0))] []
    refine ga_aload_n hR (pc := 46) 0 rfl rfl dX10_known_46 ?_
    refine ga_dup hR (pc := 47) rfl dX10_known_47 ?_
    refine ga_get hR (pc := 48) 0 rfl rfl hinX10 12 (by decide) f124 rfl dX10_known_48 ?_
    refine ga_iconst hR (pc := 51) (v := nI 1) (by decide) dX10_known_51 ?_
    refine ga_iadd hR (pc := 52) dX10_known_52 ?_
    refine ga_topi (fun x_acts_4 ex_acts_4 => ?_)
    replace h := h x_acts_4 ex_acts_4
    refine ga_putf hR (pc := 53) (ws' := [(a 0, .inr (10, [.int x_rules, .int x_places, .ref (a 1), .ref (a 2), .ref (a 3), .int x_newRules, .int x_newPlaces, .ref (a 4), .ref (a 5), .ref (a 6), .ref (a 7), .ref (a 8), .int x_acts_4, .int x_kept, .int x_length, .ref (a 9), .int x_next, .int x_place, .int x_isWrong, .ref (a 10), .ref (a 11), .ref (a 12), .int x_parts, .int x_without, .ref (a 13), .ref (a 14), .ref (a 15), .ref (a 16), .int x_ways, .ref (a 17), .ref (a 18), .ref (a 19), .ref (a 20)])), (a 8, .inl (V.2 0, 732, .inl x_slot_2))]) 0 rfl rfl hinX10 12 (by decide) f124 tyX10_ok nmX10 rfl rfl rfl (Nat.le_of_ble_eq_true rfl) rfl dX10_known_53 ?_
    refine ga_aload_n hR (pc := 56) 0 rfl rfl dX10_known_56 ?_
    refine ga_iconst hR (pc := 57) (v := nI 0) (by decide) dX10_known_57 ?_
    refine ga_aload_n hR (pc := 58) 0 rfl rfl dX10_known_58 ?_
    refine ga_get hR (pc := 59) 0 rfl rfl hinX10 12 (by decide) f124 rfl dX10_known_59 ?_
    refine ga_bipush hR (pc := 62) (v := nI 61) (by decide) dX10_known_62 ?_
    refine ga_imul hR (pc := 64) dX10_known_64 ?_
    refine ga_callV hR (pc := 65) (As := [.int (nI 0), .int (x_acts_4 * (nI 61))]) (rest := []) (st0 := [.int (x_acts_4 * (nI 61)), .int (nI 0), .ref (a 0)]) (b := (a 0)) 2 (c_X10_copies V a x_rules x_places x_newRules x_newPlaces x_acts_4 x_kept x_length x_next x_place x_isWrong x_parts x_without x_ways x_slot_2 (nI 0) (x_acts_4 * (nI 61)) _ h) (ga_same_v fun _ => rfl) gX10_known_X10_copies rfl rfl rfl hd_X10_copies ⟨Nat.le_of_ble_eq_true rfl, Nat.le_of_ble_eq_true rfl⟩ rfl rfl (Nat.le_of_ble_eq_true rfl) ⟨Nat.zero_le _, Nat.zero_le _⟩ [0, 1] rfl rfl 0 rfl rfl dX10_known_65 ?_
    rintro _ _ ⟨x_slot_5, rfl, rfl, h⟩
    refine ga_to [(a 0, .inr (10, [.int x_rules, .int x_places, .ref (a 1), .ref (a 2), .ref (a 3), .int x_newRules, .int x_newPlaces, .ref (a 4), .ref (a 5), .ref (a 6), .ref (a 7), .ref (a 8), .int x_acts_4, .int x_kept, .int x_length, .ref (a 9), .int x_next, .int x_place, .int x_isWrong, .ref (a 10), .ref (a 11), .ref (a 12), .int x_parts, .int x_without, .ref (a 13), .ref (a 14), .ref (a 15), .ref (a 16), .int x_ways, .ref (a 17), .ref (a 18), .ref (a 19), .ref (a 20)])), (a 8, .inl (V.2 0, 732, .inl x_slot_5))] [] rfl rfl ?_
    try dsimp only at h
    exact ga_vret hE dX10_known_68 (ga_rv (x_acts_4, x_slot_5) rfl h)
  · intro h
    refine ga_icmp_ne hR (pc := 6) 46 (by decide) dX10_known_6 (fun c6 => ?_) (fun c6 => ?_)
    · replace h := h.1 c6
      exact ga_lv hR [0] rfl h
    · replace h := h.2 c6
      refine ga_bipush hR (pc := 9) (v := nI 61) (by decide) dX10_known_9 ?_
      refine ga_istore_n hR (pc := 11) (lv' := [(1, .int (nI 61)), (0, .ref (a 0))]) rfl (by decide) rfl dX10_known_11 ?_
      have hJ := h (fun (x_slot_6 : Nat → Int32) => G 0 0 [(a 0, .inr (10, [.int x_rules, .int x_places, .ref (a 1), .ref (a 2), .ref (a 3), .int x_newRules, .int x_newPlaces, .ref (a 4), .ref (a 5), .ref (a 6), .ref (a 7), .ref (a 8), .int x_acts, .int x_kept, .int x_length, .ref (a 9), .int x_next, .int x_place, .int x_isWrong, .ref (a 10), .ref (a 11), .ref (a 12), .int x_parts, .int x_without, .ref (a 13), .ref (a 14), .ref (a 15), .ref (a 16), .int x_ways, .ref (a 17), .ref (a 18), .ref (a 19), .ref (a 20)])), (a 8, .inl (V.2 0, 732, .inl x_slot_6))] 40 [(0, .ref (a 0))] [])
      refine ga_bind hJ ?_ ?_
      · intro x_slot_6 h
        show G 0 0 [(a 0, .inr (10, [.int x_rules, .int x_places, .ref (a 1), .ref (a 2), .ref (a 3), .int x_newRules, .int x_newPlaces, .ref (a 4), .ref (a 5), .ref (a 6), .ref (a 7), .ref (a 8), .int x_acts, .int x_kept, .int x_length, .ref (a 9), .int x_next, .int x_place, .int x_isWrong, .ref (a 10), .ref (a 11), .ref (a 12), .int x_parts, .int x_without, .ref (a 13), .ref (a 14), .ref (a 15), .ref (a 16), .int x_ways, .ref (a 17), .ref (a 18), .ref (a 19), .ref (a 20)])), (a 8, .inl (V.2 0, 732, .inl x_slot_6))] 40 [(0, .ref (a 0))] []
        refine ga_aload_n hR (pc := 40) 0 rfl rfl dX10_known_40 ?_
        refine ga_bipush hR (pc := 41) (v := nI 7) (by decide) dX10_known_41 ?_
        refine ga_putf hR (pc := 43) (ws' := [(a 0, .inr (10, [.int x_rules, .int x_places, .ref (a 1), .ref (a 2), .ref (a 3), .int x_newRules, .int x_newPlaces, .ref (a 4), .ref (a 5), .ref (a 6), .ref (a 7), .ref (a 8), .int (nI 7), .int x_kept, .int x_length, .ref (a 9), .int x_next, .int x_place, .int x_isWrong, .ref (a 10), .ref (a 11), .ref (a 12), .int x_parts, .int x_without, .ref (a 13), .ref (a 14), .ref (a 15), .ref (a 16), .int x_ways, .ref (a 17), .ref (a 18), .ref (a 19), .ref (a 20)])), (a 8, .inl (V.2 0, 732, .inl x_slot_6))]) 0 rfl rfl hinX10 12 (by decide) f124 tyX10_ok nmX10 rfl rfl rfl (Nat.le_of_ble_eq_true rfl) rfl dX10_known_43 ?_
        exact ga_lv hR [0] rfl h
      · intro h
        obtain ⟨n, h⟩ := h
        have L12 : ∀ (n : Nat) (v1_11 : Int32) (x_slot_12 : Nat → Int32), lp_X10_known_12 (fun (x_slot_6 : Nat → Int32) => G 0 0 [(a 0, .inr (10, [.int x_rules, .int x_places, .ref (a 1), .ref (a 2), .ref (a 3), .int x_newRules, .int x_newPlaces, .ref (a 4), .ref (a 5), .ref (a 6), .ref (a 7), .ref (a 8), .int x_acts, .int x_kept, .int x_length, .ref (a 9), .int x_next, .int x_place, .int x_isWrong, .ref (a 10), .ref (a 11), .ref (a 12), .int x_parts, .int x_without, .ref (a 13), .ref (a 14), .ref (a 15), .ref (a 16), .int x_ways, .ref (a 17), .ref (a 18), .ref (a 19), .ref (a 20)])), (a 8, .inl (V.2 0, 732, .inl x_slot_6))] 40 [(0, .ref (a 0))] []) n v1_11 x_slot_12 → G 0 0 [(a 0, .inr (10, [.int x_rules, .int x_places, .ref (a 1), .ref (a 2), .ref (a 3), .int x_newRules, .int x_newPlaces, .ref (a 4), .ref (a 5), .ref (a 6), .ref (a 7), .ref (a 8), .int x_acts, .int x_kept, .int x_length, .ref (a 9), .int x_next, .int x_place, .int x_isWrong, .ref (a 10), .ref (a 11), .ref (a 12), .int x_parts, .int x_without, .ref (a 13), .ref (a 14), .ref (a 15), .ref (a 16), .int x_ways, .ref (a 17), .ref (a 18), .ref (a 19), .ref (a 20)])), (a 8, .inl (V.2 0, 732, .inl x_slot_12))] 12 [(0, .ref (a 0)), (1, .int v1_11)] [] := by
          intro n
          induction n with
          | zero => exact fun _ _ h => False.elim h
          | succ n ih =>
            intro v1_11 x_slot_12 h
            rw [lp_X10_known_12] at h
            refine ga_iload_n hR (pc := 12) 1 rfl rfl dX10_known_12 ?_
            refine ga_sipush hR (pc := 13) (v := nI 488) (by decide) dX10_known_13 ?_
            refine ga_icmp_ge hR (pc := 16) 40 (by decide) dX10_known_16 (fun c16 => ?_) (fun c16 => ?_)
            · replace h := h.1 c16
              exact ga_lv hR [0] rfl h
            · replace h := h.2 c16
              refine ga_aload_n hR (pc := 19) 0 rfl rfl dX10_known_19 ?_
              refine ga_get hR (pc := 20) 0 rfl rfl hinX10 11 (by decide) f31 rfl dX10_known_20 ?_
              refine ga_iload_n hR (pc := 23) 1 rfl rfl dX10_known_23 ?_
              refine ga_aload_n hR (pc := 24) 0 rfl rfl dX10_known_24 ?_
              refine ga_get hR (pc := 25) 0 rfl rfl hinX10 11 (by decide) f31 rfl dX10_known_25 ?_
              refine ga_iload_n hR (pc := 28) 1 rfl rfl dX10_known_28 ?_
              refine ga_bipush hR (pc := 29) (v := nI 61) (by decide) dX10_known_29 ?_
              refine ga_iadd hR (pc := 31) dX10_known_31 ?_
              refine ga_iald hR (pc := 32) 1 rfl h.1 dX10_known_32 ?_
              replace h := h.2
              refine ga_topi (fun t_13 et_13 => ?_)
              replace h := h t_13 et_13
              refine ga_iast hR (pc := 33) (ws' := [(a 0, .inr (10, [.int x_rules, .int x_places, .ref (a 1), .ref (a 2), .ref (a 3), .int x_newRules, .int x_newPlaces, .ref (a 4), .ref (a 5), .ref (a 6), .ref (a 7), .ref (a 8), .int x_acts, .int x_kept, .int x_length, .ref (a 9), .int x_next, .int x_place, .int x_isWrong, .ref (a 10), .ref (a 11), .ref (a 12), .int x_parts, .int x_without, .ref (a 13), .ref (a 14), .ref (a 15), .ref (a 16), .int x_ways, .ref (a 17), .ref (a 18), .ref (a 19), .ref (a 20)])), (a 8, .inl (V.2 0, 732, .inl ((upd x_slot_12 v1_11.toNatClampNeg t_13))))]) 1 rfl h.1 rfl dX10_known_33 ?_
              replace h := h.2
              obtain ⟨x_slot_14, ex_slot_14⟩ : ∃ f : Nat → Int32, f = upd x_slot_12 v1_11.toNatClampNeg t_13 := ⟨_, rfl⟩
              refine ga_cast (ws' := [(a 0, .inr (10, [.int x_rules, .int x_places, .ref (a 1), .ref (a 2), .ref (a 3), .int x_newRules, .int x_newPlaces, .ref (a 4), .ref (a 5), .ref (a 6), .ref (a 7), .ref (a 8), .int x_acts, .int x_kept, .int x_length, .ref (a 9), .int x_next, .int x_place, .int x_isWrong, .ref (a 10), .ref (a 11), .ref (a 12), .int x_parts, .int x_without, .ref (a 13), .ref (a 14), .ref (a 15), .ref (a 16), .int x_ways, .ref (a 17), .ref (a 18), .ref (a 19), .ref (a 20)])), (a 8, .inl (V.2 0, 732, .inl x_slot_14))]) (by rw [ex_slot_14]) rfl ?_
              replace h := h x_slot_14 ex_slot_14
              obtain ⟨v1_15, ev1_15⟩ : ∃ v : Int32, v = v1_11 + (nI 1) := ⟨_, rfl⟩
              replace h := h v1_15 ev1_15
              refine ga_iinc hR (pc := 34) (lv' := [(1, .int v1_15), (0, .ref (a 0))]) 1 (by decide) rfl ev1_15 (by decide) rfl dX10_known_34 ?_
              refine ga_goto hR (pc := 37) 12 (by decide) dX10_known_37 ?_
              exact ga_lv hR [1, 0] rfl (ih _ _ h)
        exact ga_lv hR [1, 0] rfl (L12 n _ _ h)

def rm_X10_puts : Room := { frames := 0, cells := 0, slots := 0, locals := 0 }
theorem hd_X10_putsS : yX10_puts.cls ≠ "java/lang/invoke/MethodHandle" ∧ yX10_puts.cls ≠ "java/lang/invoke/VarHandle" ∧ (parseMethodDescriptor yX10_puts.desc).map (fun d => d.parameters.length) = some 3 := by decide +kernel
theorem hd_X10_puts : yX10_puts.cls = RX10 ∧ yX10_puts.cls ≠ "java/lang/invoke/MethodHandle" ∧ yX10_puts.cls ≠ "java/lang/invoke/VarHandle" ∧ (parseMethodDescriptor yX10_puts.desc).map (fun d => d.parameters.length) = some 3 := ⟨rfl, hd_X10_putsS⟩
set_option maxHeartbeats 4000000 in
set_option maxRecDepth 100000 in
theorem c_X10_puts (V : ga_V) (a : Nat → Nat) (x_rules : Int32) (x_places : Int32) (x_newRules : Int32) (x_newPlaces : Int32) (x_acts : Int32) (x_kept : Int32) (x_length : Int32) (x_next : Int32) (x_place : Int32) (x_isWrong : Int32) (x_parts : Int32) (x_without : Int32) (x_ways : Int32) (x_slot : Nat → Int32) (p1 : Int32) (p2 : Int32) (p3 : Int32) (K : (Nat → Int32) → Prop) (h : wp_X10_puts x_slot p1 p2 p3 K) : ga_C V yX10_puts wsX10_puts rm_X10_puts [.ref (a 0), .int p1, .int p2, .int p3] [(a 0, .inr (10, [.int x_rules, .int x_places, .ref (a 1), .ref (a 2), .ref (a 3), .int x_newRules, .int x_newPlaces, .ref (a 4), .ref (a 5), .ref (a 6), .ref (a 7), .ref (a 8), .int x_acts, .int x_kept, .int x_length, .ref (a 9), .int x_next, .int x_place, .int x_isWrong, .ref (a 10), .ref (a 11), .ref (a 12), .int x_parts, .int x_without, .ref (a 13), .ref (a 14), .ref (a 15), .ref (a 16), .int x_ways, .ref (a 17), .ref (a 18), .ref (a 19), .ref (a 20)])), (a 8, .inl (V.2 0, 732, .inl x_slot))] 0 0 (ga_Fv (fun (u : (Nat → Int32)) => [(a 0, .inr (10, [.int x_rules, .int x_places, .ref (a 1), .ref (a 2), .ref (a 3), .int x_newRules, .int x_newPlaces, .ref (a 4), .ref (a 5), .ref (a 6), .ref (a 7), .ref (a 8), .int x_acts, .int x_kept, .int x_length, .ref (a 9), .int x_next, .int x_place, .int x_isWrong, .ref (a 10), .ref (a 11), .ref (a 12), .int x_parts, .int x_without, .ref (a 13), .ref (a 14), .ref (a 15), .ref (a 16), .int x_ways, .ref (a 17), .ref (a 18), .ref (a 19), .ref (a 20)])), (a 8, .inl (V.2 0, 732, .inl u))]) (fun u => K u)) := by
  refine ga_met (cc := cX10_puts) (maxL := 5) (rt := none) (by decide) rfl [(0, .ref (a 0)), (1, .int p1), (2, .int p2), (3, .int p3)] rfl (Nat.le_of_ble_eq_true rfl) ?_
  intro G hR hE
  have hinX10 : ∀ w ∈ u_ws RX10 TX10 33, w ∈ wsX10_puts := by decide +kernel
  have f31 : Cond.fieldLink RX10 31 "BoundaryRulesModel" "slot" "[I" ∈ wsX10_puts := by decide +kernel
  unfold wp_X10_puts at h
  refine ga_aload_n hR (pc := 0) 0 rfl rfl dX10_puts_0 ?_
  refine ga_get hR (pc := 1) 0 rfl rfl hinX10 11 (by decide) f31 rfl dX10_puts_1 ?_
  refine ga_iload_n hR (pc := 4) 1 rfl rfl dX10_puts_4 ?_
  refine ga_bipush hR (pc := 5) (v := nI 30) (by decide) dX10_puts_5 ?_
  refine ga_iadd hR (pc := 7) dX10_puts_7 ?_
  refine ga_iald hR (pc := 8) 1 rfl h.1 dX10_puts_8 ?_
  replace h := h.2
  refine ga_topi (fun v4_1 ev4_1 => ?_)
  replace h := h v4_1 ev4_1
  refine ga_istore hR (pc := 9) (lv' := [(4, .int v4_1), (0, .ref (a 0)), (1, .int p1), (2, .int p2), (3, .int p3)]) (by decide) rfl dX10_puts_9 ?_
  have hJ := h (fun (x_slot_2 : Nat → Int32) => G 0 0 [(a 0, .inr (10, [.int x_rules, .int x_places, .ref (a 1), .ref (a 2), .ref (a 3), .int x_newRules, .int x_newPlaces, .ref (a 4), .ref (a 5), .ref (a 6), .ref (a 7), .ref (a 8), .int x_acts, .int x_kept, .int x_length, .ref (a 9), .int x_next, .int x_place, .int x_isWrong, .ref (a 10), .ref (a 11), .ref (a 12), .int x_parts, .int x_without, .ref (a 13), .ref (a 14), .ref (a 15), .ref (a 16), .int x_ways, .ref (a 17), .ref (a 18), .ref (a 19), .ref (a 20)])), (a 8, .inl (V.2 0, 732, .inl x_slot_2))] 49 [(0, .ref (a 0)), (1, .int p1), (2, .int p2), (3, .int p3)] [])
  refine ga_bind hJ ?_ ?_
  · intro x_slot_2 h
    show G 0 0 [(a 0, .inr (10, [.int x_rules, .int x_places, .ref (a 1), .ref (a 2), .ref (a 3), .int x_newRules, .int x_newPlaces, .ref (a 4), .ref (a 5), .ref (a 6), .ref (a 7), .ref (a 8), .int x_acts, .int x_kept, .int x_length, .ref (a 9), .int x_next, .int x_place, .int x_isWrong, .ref (a 10), .ref (a 11), .ref (a 12), .int x_parts, .int x_without, .ref (a 13), .ref (a 14), .ref (a 15), .ref (a 16), .int x_ways, .ref (a 17), .ref (a 18), .ref (a 19), .ref (a 20)])), (a 8, .inl (V.2 0, 732, .inl x_slot_2))] 49 [(0, .ref (a 0)), (1, .int p1), (2, .int p2), (3, .int p3)] []
    refine ga_aload_n hR (pc := 49) 0 rfl rfl dX10_puts_49 ?_
    refine ga_get hR (pc := 50) 0 rfl rfl hinX10 11 (by decide) f31 rfl dX10_puts_50 ?_
    refine ga_iload_n hR (pc := 53) 1 rfl rfl dX10_puts_53 ?_
    refine ga_bipush hR (pc := 54) (v := nI 31) (by decide) dX10_puts_54 ?_
    refine ga_iadd hR (pc := 56) dX10_puts_56 ?_
    refine ga_iload_n hR (pc := 57) 2 rfl rfl dX10_puts_57 ?_
    refine ga_iadd hR (pc := 58) dX10_puts_58 ?_
    refine ga_iload_n hR (pc := 59) 3 rfl rfl dX10_puts_59 ?_
    refine ga_iast hR (pc := 60) (ws' := [(a 0, .inr (10, [.int x_rules, .int x_places, .ref (a 1), .ref (a 2), .ref (a 3), .int x_newRules, .int x_newPlaces, .ref (a 4), .ref (a 5), .ref (a 6), .ref (a 7), .ref (a 8), .int x_acts, .int x_kept, .int x_length, .ref (a 9), .int x_next, .int x_place, .int x_isWrong, .ref (a 10), .ref (a 11), .ref (a 12), .int x_parts, .int x_without, .ref (a 13), .ref (a 14), .ref (a 15), .ref (a 16), .int x_ways, .ref (a 17), .ref (a 18), .ref (a 19), .ref (a 20)])), (a 8, .inl (V.2 0, 732, .inl ((upd x_slot_2 ((p1 + (nI 31)) + p2).toNatClampNeg p3))))]) 1 rfl h.1 rfl dX10_puts_60 ?_
    replace h := h.2
    obtain ⟨x_slot_4, ex_slot_4⟩ : ∃ f : Nat → Int32, f = upd x_slot_2 ((p1 + (nI 31)) + p2).toNatClampNeg p3 := ⟨_, rfl⟩
    refine ga_cast (ws' := [(a 0, .inr (10, [.int x_rules, .int x_places, .ref (a 1), .ref (a 2), .ref (a 3), .int x_newRules, .int x_newPlaces, .ref (a 4), .ref (a 5), .ref (a 6), .ref (a 7), .ref (a 8), .int x_acts, .int x_kept, .int x_length, .ref (a 9), .int x_next, .int x_place, .int x_isWrong, .ref (a 10), .ref (a 11), .ref (a 12), .int x_parts, .int x_without, .ref (a 13), .ref (a 14), .ref (a 15), .ref (a 16), .int x_ways, .ref (a 17), .ref (a 18), .ref (a 19), .ref (a 20)])), (a 8, .inl (V.2 0, 732, .inl x_slot_4))]) (by rw [ex_slot_4]) rfl ?_
    replace h := h x_slot_4 ex_slot_4
    refine ga_aload_n hR (pc := 61) 0 rfl rfl dX10_puts_61 ?_
    refine ga_get hR (pc := 62) 0 rfl rfl hinX10 11 (by decide) f31 rfl dX10_puts_62 ?_
    refine ga_iload_n hR (pc := 65) 1 rfl rfl dX10_puts_65 ?_
    refine ga_bipush hR (pc := 66) (v := nI 30) (by decide) dX10_puts_66 ?_
    refine ga_iadd hR (pc := 68) dX10_puts_68 ?_
    refine ga_dup2 hR (pc := 69) rfl rfl dX10_puts_69 ?_
    refine ga_iald hR (pc := 70) 1 rfl h.1 dX10_puts_70 ?_
    replace h := h.2
    refine ga_iconst hR (pc := 71) (v := nI 1) (by decide) dX10_puts_71 ?_
    refine ga_iadd hR (pc := 72) dX10_puts_72 ?_
    refine ga_topi (fun t_5 et_5 => ?_)
    replace h := h t_5 et_5
    refine ga_iast hR (pc := 73) (ws' := [(a 0, .inr (10, [.int x_rules, .int x_places, .ref (a 1), .ref (a 2), .ref (a 3), .int x_newRules, .int x_newPlaces, .ref (a 4), .ref (a 5), .ref (a 6), .ref (a 7), .ref (a 8), .int x_acts, .int x_kept, .int x_length, .ref (a 9), .int x_next, .int x_place, .int x_isWrong, .ref (a 10), .ref (a 11), .ref (a 12), .int x_parts, .int x_without, .ref (a 13), .ref (a 14), .ref (a 15), .ref (a 16), .int x_ways, .ref (a 17), .ref (a 18), .ref (a 19), .ref (a 20)])), (a 8, .inl (V.2 0, 732, .inl ((upd x_slot_4 (p1 + (nI 30)).toNatClampNeg t_5))))]) 1 rfl h.1 rfl dX10_puts_73 ?_
    replace h := h.2
    obtain ⟨x_slot_6, ex_slot_6⟩ : ∃ f : Nat → Int32, f = upd x_slot_4 (p1 + (nI 30)).toNatClampNeg t_5 := ⟨_, rfl⟩
    refine ga_cast (ws' := [(a 0, .inr (10, [.int x_rules, .int x_places, .ref (a 1), .ref (a 2), .ref (a 3), .int x_newRules, .int x_newPlaces, .ref (a 4), .ref (a 5), .ref (a 6), .ref (a 7), .ref (a 8), .int x_acts, .int x_kept, .int x_length, .ref (a 9), .int x_next, .int x_place, .int x_isWrong, .ref (a 10), .ref (a 11), .ref (a 12), .int x_parts, .int x_without, .ref (a 13), .ref (a 14), .ref (a 15), .ref (a 16), .int x_ways, .ref (a 17), .ref (a 18), .ref (a 19), .ref (a 20)])), (a 8, .inl (V.2 0, 732, .inl x_slot_6))]) (by rw [ex_slot_6]) rfl ?_
    replace h := h x_slot_6 ex_slot_6
    exact ga_vret hE dX10_puts_74 (ga_rv x_slot_6 rfl h)
  · intro h
    obtain ⟨n, h⟩ := h
    have L11 : ∀ (n : Nat) (v4_10 : Int32) (x_slot_11 : Nat → Int32), lp_X10_puts_11 p1 p2 (fun (x_slot_2 : Nat → Int32) => G 0 0 [(a 0, .inr (10, [.int x_rules, .int x_places, .ref (a 1), .ref (a 2), .ref (a 3), .int x_newRules, .int x_newPlaces, .ref (a 4), .ref (a 5), .ref (a 6), .ref (a 7), .ref (a 8), .int x_acts, .int x_kept, .int x_length, .ref (a 9), .int x_next, .int x_place, .int x_isWrong, .ref (a 10), .ref (a 11), .ref (a 12), .int x_parts, .int x_without, .ref (a 13), .ref (a 14), .ref (a 15), .ref (a 16), .int x_ways, .ref (a 17), .ref (a 18), .ref (a 19), .ref (a 20)])), (a 8, .inl (V.2 0, 732, .inl x_slot_2))] 49 [(0, .ref (a 0)), (1, .int p1), (2, .int p2), (3, .int p3)] []) n v4_10 x_slot_11 → G 0 0 [(a 0, .inr (10, [.int x_rules, .int x_places, .ref (a 1), .ref (a 2), .ref (a 3), .int x_newRules, .int x_newPlaces, .ref (a 4), .ref (a 5), .ref (a 6), .ref (a 7), .ref (a 8), .int x_acts, .int x_kept, .int x_length, .ref (a 9), .int x_next, .int x_place, .int x_isWrong, .ref (a 10), .ref (a 11), .ref (a 12), .int x_parts, .int x_without, .ref (a 13), .ref (a 14), .ref (a 15), .ref (a 16), .int x_ways, .ref (a 17), .ref (a 18), .ref (a 19), .ref (a 20)])), (a 8, .inl (V.2 0, 732, .inl x_slot_11))] 11 [(0, .ref (a 0)), (1, .int p1), (2, .int p2), (3, .int p3), (4, .int v4_10)] [] := by
      intro n
      induction n with
      | zero => exact fun _ _ h => False.elim h
      | succ n ih =>
        intro v4_10 x_slot_11 h
        rw [lp_X10_puts_11] at h
        refine ga_iload hR (pc := 11) 4 rfl dX10_puts_11 ?_
        refine ga_iload_n hR (pc := 13) 2 rfl rfl dX10_puts_13 ?_
        refine ga_icmp_le hR (pc := 14) 49 (by decide) dX10_puts_14 (fun c14 => ?_) (fun c14 => ?_)
        · replace h := h.1 c14
          exact ga_lv hR [0, 1, 2, 3] rfl h
        · replace h := h.2 c14
          refine ga_aload_n hR (pc := 17) 0 rfl rfl dX10_puts_17 ?_
          refine ga_get hR (pc := 18) 0 rfl rfl hinX10 11 (by decide) f31 rfl dX10_puts_18 ?_
          refine ga_iload_n hR (pc := 21) 1 rfl rfl dX10_puts_21 ?_
          refine ga_bipush hR (pc := 22) (v := nI 31) (by decide) dX10_puts_22 ?_
          refine ga_iadd hR (pc := 24) dX10_puts_24 ?_
          refine ga_iload hR (pc := 25) 4 rfl dX10_puts_25 ?_
          refine ga_iadd hR (pc := 27) dX10_puts_27 ?_
          refine ga_aload_n hR (pc := 28) 0 rfl rfl dX10_puts_28 ?_
          refine ga_get hR (pc := 29) 0 rfl rfl hinX10 11 (by decide) f31 rfl dX10_puts_29 ?_
          refine ga_iload_n hR (pc := 32) 1 rfl rfl dX10_puts_32 ?_
          refine ga_bipush hR (pc := 33) (v := nI 31) (by decide) dX10_puts_33 ?_
          refine ga_iadd hR (pc := 35) dX10_puts_35 ?_
          refine ga_iload hR (pc := 36) 4 rfl dX10_puts_36 ?_
          refine ga_iadd hR (pc := 38) dX10_puts_38 ?_
          refine ga_iconst hR (pc := 39) (v := nI 1) (by decide) dX10_puts_39 ?_
          refine ga_isub hR (pc := 40) dX10_puts_40 ?_
          refine ga_iald hR (pc := 41) 1 rfl h.1 dX10_puts_41 ?_
          replace h := h.2
          refine ga_topi (fun t_12 et_12 => ?_)
          replace h := h t_12 et_12
          refine ga_iast hR (pc := 42) (ws' := [(a 0, .inr (10, [.int x_rules, .int x_places, .ref (a 1), .ref (a 2), .ref (a 3), .int x_newRules, .int x_newPlaces, .ref (a 4), .ref (a 5), .ref (a 6), .ref (a 7), .ref (a 8), .int x_acts, .int x_kept, .int x_length, .ref (a 9), .int x_next, .int x_place, .int x_isWrong, .ref (a 10), .ref (a 11), .ref (a 12), .int x_parts, .int x_without, .ref (a 13), .ref (a 14), .ref (a 15), .ref (a 16), .int x_ways, .ref (a 17), .ref (a 18), .ref (a 19), .ref (a 20)])), (a 8, .inl (V.2 0, 732, .inl ((upd x_slot_11 ((p1 + (nI 31)) + v4_10).toNatClampNeg t_12))))]) 1 rfl h.1 rfl dX10_puts_42 ?_
          replace h := h.2
          obtain ⟨x_slot_13, ex_slot_13⟩ : ∃ f : Nat → Int32, f = upd x_slot_11 ((p1 + (nI 31)) + v4_10).toNatClampNeg t_12 := ⟨_, rfl⟩
          refine ga_cast (ws' := [(a 0, .inr (10, [.int x_rules, .int x_places, .ref (a 1), .ref (a 2), .ref (a 3), .int x_newRules, .int x_newPlaces, .ref (a 4), .ref (a 5), .ref (a 6), .ref (a 7), .ref (a 8), .int x_acts, .int x_kept, .int x_length, .ref (a 9), .int x_next, .int x_place, .int x_isWrong, .ref (a 10), .ref (a 11), .ref (a 12), .int x_parts, .int x_without, .ref (a 13), .ref (a 14), .ref (a 15), .ref (a 16), .int x_ways, .ref (a 17), .ref (a 18), .ref (a 19), .ref (a 20)])), (a 8, .inl (V.2 0, 732, .inl x_slot_13))]) (by rw [ex_slot_13]) rfl ?_
          replace h := h x_slot_13 ex_slot_13
          obtain ⟨v4_14, ev4_14⟩ : ∃ v : Int32, v = v4_10 + (-1) := ⟨_, rfl⟩
          replace h := h v4_14 ev4_14
          refine ga_iinc hR (pc := 43) (lv' := [(4, .int v4_14), (0, .ref (a 0)), (1, .int p1), (2, .int p2), (3, .int p3)]) 4 (by decide) rfl ev4_14 (by decide) rfl dX10_puts_43 ?_
          refine ga_goto hR (pc := 46) 11 (by decide) dX10_puts_46 ?_
          exact ga_lv hR [1, 2, 3, 4, 0] rfl (ih _ _ h)
    exact ga_lv hR [1, 2, 3, 4, 0] rfl (L11 n _ _ h)

def rm_X10_takesOut : Room := { frames := 0, cells := 0, slots := 0, locals := 0 }
theorem hd_X10_takesOutS : yX10_takesOut.cls ≠ "java/lang/invoke/MethodHandle" ∧ yX10_takesOut.cls ≠ "java/lang/invoke/VarHandle" ∧ (parseMethodDescriptor yX10_takesOut.desc).map (fun d => d.parameters.length) = some 2 := by decide +kernel
theorem hd_X10_takesOut : yX10_takesOut.cls = RX10 ∧ yX10_takesOut.cls ≠ "java/lang/invoke/MethodHandle" ∧ yX10_takesOut.cls ≠ "java/lang/invoke/VarHandle" ∧ (parseMethodDescriptor yX10_takesOut.desc).map (fun d => d.parameters.length) = some 2 := ⟨rfl, hd_X10_takesOutS⟩
set_option maxHeartbeats 4000000 in
set_option maxRecDepth 100000 in
theorem c_X10_takesOut (V : ga_V) (a : Nat → Nat) (x_rules : Int32) (x_places : Int32) (x_newRules : Int32) (x_newPlaces : Int32) (x_acts : Int32) (x_kept : Int32) (x_length : Int32) (x_next : Int32) (x_place : Int32) (x_isWrong : Int32) (x_parts : Int32) (x_without : Int32) (x_ways : Int32) (x_slot : Nat → Int32) (p1 : Int32) (p2 : Int32) (K : (Nat → Int32) → Prop) (h : wp_X10_takesOut x_slot p1 p2 K) : ga_C V yX10_takesOut wsX10_takesOut rm_X10_takesOut [.ref (a 0), .int p1, .int p2] [(a 0, .inr (10, [.int x_rules, .int x_places, .ref (a 1), .ref (a 2), .ref (a 3), .int x_newRules, .int x_newPlaces, .ref (a 4), .ref (a 5), .ref (a 6), .ref (a 7), .ref (a 8), .int x_acts, .int x_kept, .int x_length, .ref (a 9), .int x_next, .int x_place, .int x_isWrong, .ref (a 10), .ref (a 11), .ref (a 12), .int x_parts, .int x_without, .ref (a 13), .ref (a 14), .ref (a 15), .ref (a 16), .int x_ways, .ref (a 17), .ref (a 18), .ref (a 19), .ref (a 20)])), (a 8, .inl (V.2 0, 732, .inl x_slot))] 0 0 (ga_Fv (fun (u : (Nat → Int32)) => [(a 0, .inr (10, [.int x_rules, .int x_places, .ref (a 1), .ref (a 2), .ref (a 3), .int x_newRules, .int x_newPlaces, .ref (a 4), .ref (a 5), .ref (a 6), .ref (a 7), .ref (a 8), .int x_acts, .int x_kept, .int x_length, .ref (a 9), .int x_next, .int x_place, .int x_isWrong, .ref (a 10), .ref (a 11), .ref (a 12), .int x_parts, .int x_without, .ref (a 13), .ref (a 14), .ref (a 15), .ref (a 16), .int x_ways, .ref (a 17), .ref (a 18), .ref (a 19), .ref (a 20)])), (a 8, .inl (V.2 0, 732, .inl u))]) (fun u => K u)) := by
  refine ga_met (cc := cX10_takesOut) (maxL := 4) (rt := none) (by decide) rfl [(0, .ref (a 0)), (1, .int p1), (2, .int p2)] rfl (Nat.le_of_ble_eq_true rfl) ?_
  intro G hR hE
  have hinX10 : ∀ w ∈ u_ws RX10 TX10 33, w ∈ wsX10_takesOut := by decide +kernel
  have f31 : Cond.fieldLink RX10 31 "BoundaryRulesModel" "slot" "[I" ∈ wsX10_takesOut := by decide +kernel
  unfold wp_X10_takesOut at h
  refine ga_iload_n hR (pc := 0) 2 rfl rfl dX10_takesOut_0 ?_
  refine ga_istore_n hR (pc := 1) (lv' := [(3, .int p2), (0, .ref (a 0)), (1, .int p1), (2, .int p2)]) rfl (by decide) rfl dX10_takesOut_1 ?_
  have hJ := h (fun (x_slot_1 : Nat → Int32) => G 0 0 [(a 0, .inr (10, [.int x_rules, .int x_places, .ref (a 1), .ref (a 2), .ref (a 3), .int x_newRules, .int x_newPlaces, .ref (a 4), .ref (a 5), .ref (a 6), .ref (a 7), .ref (a 8), .int x_acts, .int x_kept, .int x_length, .ref (a 9), .int x_next, .int x_place, .int x_isWrong, .ref (a 10), .ref (a 11), .ref (a 12), .int x_parts, .int x_without, .ref (a 13), .ref (a 14), .ref (a 15), .ref (a 16), .int x_ways, .ref (a 17), .ref (a 18), .ref (a 19), .ref (a 20)])), (a 8, .inl (V.2 0, 732, .inl x_slot_1))] 47 [(0, .ref (a 0)), (1, .int p1)] [])
  refine ga_bind hJ ?_ ?_
  · intro x_slot_1 h
    show G 0 0 [(a 0, .inr (10, [.int x_rules, .int x_places, .ref (a 1), .ref (a 2), .ref (a 3), .int x_newRules, .int x_newPlaces, .ref (a 4), .ref (a 5), .ref (a 6), .ref (a 7), .ref (a 8), .int x_acts, .int x_kept, .int x_length, .ref (a 9), .int x_next, .int x_place, .int x_isWrong, .ref (a 10), .ref (a 11), .ref (a 12), .int x_parts, .int x_without, .ref (a 13), .ref (a 14), .ref (a 15), .ref (a 16), .int x_ways, .ref (a 17), .ref (a 18), .ref (a 19), .ref (a 20)])), (a 8, .inl (V.2 0, 732, .inl x_slot_1))] 47 [(0, .ref (a 0)), (1, .int p1)] []
    refine ga_aload_n hR (pc := 47) 0 rfl rfl dX10_takesOut_47 ?_
    refine ga_get hR (pc := 48) 0 rfl rfl hinX10 11 (by decide) f31 rfl dX10_takesOut_48 ?_
    refine ga_iload_n hR (pc := 51) 1 rfl rfl dX10_takesOut_51 ?_
    refine ga_bipush hR (pc := 52) (v := nI 30) (by decide) dX10_takesOut_52 ?_
    refine ga_iadd hR (pc := 54) dX10_takesOut_54 ?_
    refine ga_dup2 hR (pc := 55) rfl rfl dX10_takesOut_55 ?_
    refine ga_iald hR (pc := 56) 1 rfl h.1 dX10_takesOut_56 ?_
    replace h := h.2
    refine ga_iconst hR (pc := 57) (v := nI 1) (by decide) dX10_takesOut_57 ?_
    refine ga_isub hR (pc := 58) dX10_takesOut_58 ?_
    refine ga_topi (fun t_3 et_3 => ?_)
    replace h := h t_3 et_3
    refine ga_iast hR (pc := 59) (ws' := [(a 0, .inr (10, [.int x_rules, .int x_places, .ref (a 1), .ref (a 2), .ref (a 3), .int x_newRules, .int x_newPlaces, .ref (a 4), .ref (a 5), .ref (a 6), .ref (a 7), .ref (a 8), .int x_acts, .int x_kept, .int x_length, .ref (a 9), .int x_next, .int x_place, .int x_isWrong, .ref (a 10), .ref (a 11), .ref (a 12), .int x_parts, .int x_without, .ref (a 13), .ref (a 14), .ref (a 15), .ref (a 16), .int x_ways, .ref (a 17), .ref (a 18), .ref (a 19), .ref (a 20)])), (a 8, .inl (V.2 0, 732, .inl ((upd x_slot_1 (p1 + (nI 30)).toNatClampNeg t_3))))]) 1 rfl h.1 rfl dX10_takesOut_59 ?_
    replace h := h.2
    obtain ⟨x_slot_4, ex_slot_4⟩ : ∃ f : Nat → Int32, f = upd x_slot_1 (p1 + (nI 30)).toNatClampNeg t_3 := ⟨_, rfl⟩
    refine ga_cast (ws' := [(a 0, .inr (10, [.int x_rules, .int x_places, .ref (a 1), .ref (a 2), .ref (a 3), .int x_newRules, .int x_newPlaces, .ref (a 4), .ref (a 5), .ref (a 6), .ref (a 7), .ref (a 8), .int x_acts, .int x_kept, .int x_length, .ref (a 9), .int x_next, .int x_place, .int x_isWrong, .ref (a 10), .ref (a 11), .ref (a 12), .int x_parts, .int x_without, .ref (a 13), .ref (a 14), .ref (a 15), .ref (a 16), .int x_ways, .ref (a 17), .ref (a 18), .ref (a 19), .ref (a 20)])), (a 8, .inl (V.2 0, 732, .inl x_slot_4))]) (by rw [ex_slot_4]) rfl ?_
    replace h := h x_slot_4 ex_slot_4
    exact ga_vret hE dX10_takesOut_60 (ga_rv x_slot_4 rfl h)
  · intro h
    obtain ⟨n, h⟩ := h
    have L2 : ∀ (n : Nat) (v3_8 : Int32) (x_slot_9 : Nat → Int32), lp_X10_takesOut_2 p1 (fun (x_slot_1 : Nat → Int32) => G 0 0 [(a 0, .inr (10, [.int x_rules, .int x_places, .ref (a 1), .ref (a 2), .ref (a 3), .int x_newRules, .int x_newPlaces, .ref (a 4), .ref (a 5), .ref (a 6), .ref (a 7), .ref (a 8), .int x_acts, .int x_kept, .int x_length, .ref (a 9), .int x_next, .int x_place, .int x_isWrong, .ref (a 10), .ref (a 11), .ref (a 12), .int x_parts, .int x_without, .ref (a 13), .ref (a 14), .ref (a 15), .ref (a 16), .int x_ways, .ref (a 17), .ref (a 18), .ref (a 19), .ref (a 20)])), (a 8, .inl (V.2 0, 732, .inl x_slot_1))] 47 [(0, .ref (a 0)), (1, .int p1)] []) n v3_8 x_slot_9 → G 0 0 [(a 0, .inr (10, [.int x_rules, .int x_places, .ref (a 1), .ref (a 2), .ref (a 3), .int x_newRules, .int x_newPlaces, .ref (a 4), .ref (a 5), .ref (a 6), .ref (a 7), .ref (a 8), .int x_acts, .int x_kept, .int x_length, .ref (a 9), .int x_next, .int x_place, .int x_isWrong, .ref (a 10), .ref (a 11), .ref (a 12), .int x_parts, .int x_without, .ref (a 13), .ref (a 14), .ref (a 15), .ref (a 16), .int x_ways, .ref (a 17), .ref (a 18), .ref (a 19), .ref (a 20)])), (a 8, .inl (V.2 0, 732, .inl x_slot_9))] 2 [(0, .ref (a 0)), (1, .int p1), (3, .int v3_8)] [] := by
      intro n
      induction n with
      | zero => exact fun _ _ h => False.elim h
      | succ n ih =>
        intro v3_8 x_slot_9 h
        rw [lp_X10_takesOut_2] at h
        refine ga_iload_n hR (pc := 2) 2 rfl rfl dX10_takesOut_2 ?_
        refine ga_aload_n hR (pc := 3) 0 rfl rfl dX10_takesOut_3 ?_
        refine ga_get hR (pc := 4) 0 rfl rfl hinX10 11 (by decide) f31 rfl dX10_takesOut_4 ?_
        refine ga_iload_n hR (pc := 7) 1 rfl rfl dX10_takesOut_7 ?_
        refine ga_bipush hR (pc := 8) (v := nI 30) (by decide) dX10_takesOut_8 ?_
        refine ga_iadd hR (pc := 10) dX10_takesOut_10 ?_
        refine ga_iald hR (pc := 11) 1 rfl h.1 dX10_takesOut_11 ?_
        replace h := h.2
        refine ga_iconst hR (pc := 12) (v := nI 1) (by decide) dX10_takesOut_12 ?_
        refine ga_isub hR (pc := 13) dX10_takesOut_13 ?_
        refine ga_icmp_ge hR (pc := 14) 47 (by decide) dX10_takesOut_14 (fun c14 => ?_) (fun c14 => ?_)
        · replace h := h.1 c14
          exact ga_lv hR [0, 1] rfl h
        · replace h := h.2 c14
          refine ga_aload_n hR (pc := 17) 0 rfl rfl dX10_takesOut_17 ?_
          refine ga_get hR (pc := 18) 0 rfl rfl hinX10 11 (by decide) f31 rfl dX10_takesOut_18 ?_
          refine ga_iload_n hR (pc := 21) 1 rfl rfl dX10_takesOut_21 ?_
          refine ga_bipush hR (pc := 22) (v := nI 31) (by decide) dX10_takesOut_22 ?_
          refine ga_iadd hR (pc := 24) dX10_takesOut_24 ?_
          refine ga_iload_n hR (pc := 25) 2 rfl rfl dX10_takesOut_25 ?_
          refine ga_iadd hR (pc := 26) dX10_takesOut_26 ?_
          refine ga_aload_n hR (pc := 27) 0 rfl rfl dX10_takesOut_27 ?_
          refine ga_get hR (pc := 28) 0 rfl rfl hinX10 11 (by decide) f31 rfl dX10_takesOut_28 ?_
          refine ga_iload_n hR (pc := 31) 1 rfl rfl dX10_takesOut_31 ?_
          refine ga_bipush hR (pc := 32) (v := nI 31) (by decide) dX10_takesOut_32 ?_
          refine ga_iadd hR (pc := 34) dX10_takesOut_34 ?_
          refine ga_iload_n hR (pc := 35) 2 rfl rfl dX10_takesOut_35 ?_
          refine ga_iadd hR (pc := 36) dX10_takesOut_36 ?_
          refine ga_iconst hR (pc := 37) (v := nI 1) (by decide) dX10_takesOut_37 ?_
          refine ga_iadd hR (pc := 38) dX10_takesOut_38 ?_
          refine ga_iald hR (pc := 39) 1 rfl h.1 dX10_takesOut_39 ?_
          replace h := h.2
          refine ga_topi (fun t_10 et_10 => ?_)
          replace h := h t_10 et_10
          refine ga_iast hR (pc := 40) (ws' := [(a 0, .inr (10, [.int x_rules, .int x_places, .ref (a 1), .ref (a 2), .ref (a 3), .int x_newRules, .int x_newPlaces, .ref (a 4), .ref (a 5), .ref (a 6), .ref (a 7), .ref (a 8), .int x_acts, .int x_kept, .int x_length, .ref (a 9), .int x_next, .int x_place, .int x_isWrong, .ref (a 10), .ref (a 11), .ref (a 12), .int x_parts, .int x_without, .ref (a 13), .ref (a 14), .ref (a 15), .ref (a 16), .int x_ways, .ref (a 17), .ref (a 18), .ref (a 19), .ref (a 20)])), (a 8, .inl (V.2 0, 732, .inl ((upd x_slot_9 ((p1 + (nI 31)) + v3_8).toNatClampNeg t_10))))]) 1 rfl h.1 rfl dX10_takesOut_40 ?_
          replace h := h.2
          obtain ⟨x_slot_11, ex_slot_11⟩ : ∃ f : Nat → Int32, f = upd x_slot_9 ((p1 + (nI 31)) + v3_8).toNatClampNeg t_10 := ⟨_, rfl⟩
          refine ga_cast (ws' := [(a 0, .inr (10, [.int x_rules, .int x_places, .ref (a 1), .ref (a 2), .ref (a 3), .int x_newRules, .int x_newPlaces, .ref (a 4), .ref (a 5), .ref (a 6), .ref (a 7), .ref (a 8), .int x_acts, .int x_kept, .int x_length, .ref (a 9), .int x_next, .int x_place, .int x_isWrong, .ref (a 10), .ref (a 11), .ref (a 12), .int x_parts, .int x_without, .ref (a 13), .ref (a 14), .ref (a 15), .ref (a 16), .int x_ways, .ref (a 17), .ref (a 18), .ref (a 19), .ref (a 20)])), (a 8, .inl (V.2 0, 732, .inl x_slot_11))]) (by rw [ex_slot_11]) rfl ?_
          replace h := h x_slot_11 ex_slot_11
          obtain ⟨v3_12, ev3_12⟩ : ∃ v : Int32, v = v3_8 + (nI 1) := ⟨_, rfl⟩
          replace h := h v3_12 ev3_12
          refine ga_iinc hR (pc := 41) (lv' := [(3, .int v3_12), (0, .ref (a 0)), (1, .int p1)]) 2 (by decide) rfl ev3_12 (by decide) rfl dX10_takesOut_41 ?_
          refine ga_goto hR (pc := 44) 2 (by decide) dX10_takesOut_44 ?_
          exact ga_lv hR [1, 2, 0] rfl (ih _ _ h)
    exact ga_lv hR [1, 2, 0] rfl (L2 n _ _ h)

def rm_X10_insert : Room := { frames := 2, cells := 0, slots := 0, locals := 46 }
theorem hd_X10_insertS : yX10_insert.cls ≠ "java/lang/invoke/MethodHandle" ∧ yX10_insert.cls ≠ "java/lang/invoke/VarHandle" ∧ (parseMethodDescriptor yX10_insert.desc).map (fun d => d.parameters.length) = some 2 := by decide +kernel
theorem hd_X10_insert : yX10_insert.cls = RX10 ∧ yX10_insert.cls ≠ "java/lang/invoke/MethodHandle" ∧ yX10_insert.cls ≠ "java/lang/invoke/VarHandle" ∧ (parseMethodDescriptor yX10_insert.desc).map (fun d => d.parameters.length) = some 2 := ⟨rfl, hd_X10_insertS⟩
set_option maxHeartbeats 4000000 in
set_option maxRecDepth 100000 in
theorem c_X10_insert (V : ga_V) (a : Nat → Nat) (x_rules : Int32) (x_places : Int32) (x_newRules : Int32) (x_newPlaces : Int32) (x_kept : Int32) (x_length : Int32) (x_next : Int32) (x_place : Int32) (x_isWrong : Int32) (x_parts : Int32) (x_without : Int32) (x_ways : Int32) (x_acts : Int32) (x_slot : Nat → Int32) (p1 : Int32) (p2 : Int32) (K : Int32 → Int32 → (Nat → Int32) → Prop) (h : wp_X10_insert x_acts x_slot p1 p2 K) : ga_C V yX10_insert wsX10_insert rm_X10_insert [.ref (a 0), .int p1, .int p2] [(a 0, .inr (10, [.int x_rules, .int x_places, .ref (a 1), .ref (a 2), .ref (a 3), .int x_newRules, .int x_newPlaces, .ref (a 4), .ref (a 5), .ref (a 6), .ref (a 7), .ref (a 8), .int x_acts, .int x_kept, .int x_length, .ref (a 9), .int x_next, .int x_place, .int x_isWrong, .ref (a 10), .ref (a 11), .ref (a 12), .int x_parts, .int x_without, .ref (a 13), .ref (a 14), .ref (a 15), .ref (a 16), .int x_ways, .ref (a 17), .ref (a 18), .ref (a 19), .ref (a 20)])), (a 8, .inl (V.2 0, 732, .inl x_slot))] 0 0 (ga_Fi (fun (u : Int32 × (Nat → Int32)) => [(a 0, .inr (10, [.int x_rules, .int x_places, .ref (a 1), .ref (a 2), .ref (a 3), .int x_newRules, .int x_newPlaces, .ref (a 4), .ref (a 5), .ref (a 6), .ref (a 7), .ref (a 8), .int u.1, .int x_kept, .int x_length, .ref (a 9), .int x_next, .int x_place, .int x_isWrong, .ref (a 10), .ref (a 11), .ref (a 12), .int x_parts, .int x_without, .ref (a 13), .ref (a 14), .ref (a 15), .ref (a 16), .int x_ways, .ref (a 17), .ref (a 18), .ref (a 19), .ref (a 20)])), (a 8, .inl (V.2 0, 732, .inl u.2))]) (fun r u => K r u.1 u.2)) := by
  refine ga_met (cc := cX10_insert) (maxL := 3) (rt := (some .int)) (by decide) rfl [(0, .ref (a 0)), (1, .int p1), (2, .int p2)] rfl (Nat.le_of_ble_eq_true rfl) ?_
  intro G hR hE
  have hinX10 : ∀ w ∈ u_ws RX10 TX10 33, w ∈ wsX10_insert := by decide +kernel
  have f31 : Cond.fieldLink RX10 31 "BoundaryRulesModel" "slot" "[I" ∈ wsX10_insert := by decide +kernel
  unfold wp_X10_insert at h
  refine ga_aload_n hR (pc := 0) 0 rfl rfl dX10_insert_0 ?_
  refine ga_iload_n hR (pc := 1) 1 rfl rfl dX10_insert_1 ?_
  refine ga_callV hR (pc := 2) (As := [.int p1]) (rest := []) (st0 := [.int p1, .ref (a 0)]) (b := (a 0)) 1 (c_X10_isPlace V a x_rules x_places x_newRules x_newPlaces x_acts x_kept x_length x_next x_place x_isWrong x_parts x_without x_ways x_slot p1 _ h) (ga_same_i fun _ => rfl) gX10_insert_X10_isPlace rfl rfl rfl hd_X10_isPlace ⟨Nat.le_of_ble_eq_true rfl, Nat.le_of_ble_eq_true rfl⟩ rfl rfl (Nat.le_of_ble_eq_true rfl) ⟨Nat.zero_le _, Nat.zero_le _⟩ [0, 1] rfl rfl 0 rfl rfl dX10_insert_2 ?_
  rintro _ _ ⟨r_1, ⟨⟩, rfl, rfl, h⟩
  refine ga_to [(a 0, .inr (10, [.int x_rules, .int x_places, .ref (a 1), .ref (a 2), .ref (a 3), .int x_newRules, .int x_newPlaces, .ref (a 4), .ref (a 5), .ref (a 6), .ref (a 7), .ref (a 8), .int x_acts, .int x_kept, .int x_length, .ref (a 9), .int x_next, .int x_place, .int x_isWrong, .ref (a 10), .ref (a 11), .ref (a 12), .int x_parts, .int x_without, .ref (a 13), .ref (a 14), .ref (a 15), .ref (a 16), .int x_ways, .ref (a 17), .ref (a 18), .ref (a 19), .ref (a 20)])), (a 8, .inl (V.2 0, 732, .inl x_slot))] [.int r_1] rfl rfl ?_
  try dsimp only at h
  refine ga_if_eq hR (pc := 5) 20 (by decide) dX10_insert_5 (fun c5 => ?_) (fun c5 => ?_)
  · replace h := h.1 c5
    refine ga_iconst hR (pc := 20) (v := -1) (by decide) dX10_insert_20 ?_
    exact ga_iret hE dX10_insert_21 rfl (ga_ri (x_acts, x_slot) rfl h)
  · replace h := h.2 c5
    refine ga_iload_n hR (pc := 8) 2 rfl rfl dX10_insert_8 ?_
    refine ga_i2l hR (pc := 9) dX10_insert_9 ?_
    refine ga_lconst hR (pc := 10) (v := lN 0) (by decide) dX10_insert_10 ?_
    refine ga_ldc2 hR (pc := 11) (v := lN 25) (by decide +kernel) dX10_insert_11 ?_
    refine ga_callS hR (pc := 14) (As := [.long p2.toInt64, .long (lN 0), .long (lN 25)]) (rest := []) (st0 := [.long (lN 25), .long (lN 0), .long p2.toInt64]) 3 (c_X10_in V p2.toInt64 (lN 0) (lN 25) _ h) (ga_same_i fun _ => rfl) gX10_insert_X10_in rfl rfl rfl hd_X10_inS ⟨Nat.le_of_ble_eq_true rfl, Nat.le_of_ble_eq_true rfl⟩ rfl rfl (Nat.le_of_ble_eq_true rfl) ⟨Nat.zero_le _, Nat.zero_le _⟩ [] rfl rfl dX10_insert_14 ?_
    rintro _ _ ⟨r_2, ⟨⟩, rfl, rfl, h⟩
    refine ga_to [(a 0, .inr (10, [.int x_rules, .int x_places, .ref (a 1), .ref (a 2), .ref (a 3), .int x_newRules, .int x_newPlaces, .ref (a 4), .ref (a 5), .ref (a 6), .ref (a 7), .ref (a 8), .int x_acts, .int x_kept, .int x_length, .ref (a 9), .int x_next, .int x_place, .int x_isWrong, .ref (a 10), .ref (a 11), .ref (a 12), .int x_parts, .int x_without, .ref (a 13), .ref (a 14), .ref (a 15), .ref (a 16), .int x_ways, .ref (a 17), .ref (a 18), .ref (a 19), .ref (a 20)])), (a 8, .inl (V.2 0, 732, .inl x_slot))] [.int r_2] rfl rfl ?_
    try dsimp only at h
    refine ga_if_ne hR (pc := 17) 22 (by decide) dX10_insert_17 (fun c17 => ?_) (fun c17 => ?_)
    · replace h := h.1 c17
      refine ga_aload_n hR (pc := 22) 0 rfl rfl dX10_insert_22 ?_
      refine ga_get hR (pc := 23) 0 rfl rfl hinX10 11 (by decide) f31 rfl dX10_insert_23 ?_
      refine ga_bipush hR (pc := 26) (v := nI 30) (by decide) dX10_insert_26 ?_
      refine ga_iald hR (pc := 28) 1 rfl h.1 dX10_insert_28 ?_
      replace h := h.2
      refine ga_bipush hR (pc := 29) (v := nI 30) (by decide) dX10_insert_29 ?_
      refine ga_icmp_ne hR (pc := 31) 37 (by decide) dX10_insert_31 (fun c31 => ?_) (fun c31 => ?_)
      · replace h := h.1 c31
        refine ga_aload_n hR (pc := 37) 0 rfl rfl dX10_insert_37 ?_
        refine ga_callV hR (pc := 38) (As := []) (rest := []) (st0 := [.ref (a 0)]) (b := (a 0)) 0 (c_X10_known V a x_rules x_places x_newRules x_newPlaces x_kept x_length x_next x_place x_isWrong x_parts x_without x_ways x_acts x_slot _ h) (ga_same_v fun _ => rfl) gX10_insert_X10_known rfl rfl rfl hd_X10_known ⟨Nat.le_of_ble_eq_true rfl, Nat.le_of_ble_eq_true rfl⟩ rfl rfl (Nat.le_of_ble_eq_true rfl) ⟨Nat.zero_le _, Nat.zero_le _⟩ [0, 1] rfl rfl 0 rfl rfl dX10_insert_38 ?_
        rintro _ _ ⟨⟨x_acts_3, x_slot_4⟩, rfl, rfl, h⟩
        refine ga_to [(a 0, .inr (10, [.int x_rules, .int x_places, .ref (a 1), .ref (a 2), .ref (a 3), .int x_newRules, .int x_newPlaces, .ref (a 4), .ref (a 5), .ref (a 6), .ref (a 7), .ref (a 8), .int x_acts_3, .int x_kept, .int x_length, .ref (a 9), .int x_next, .int x_place, .int x_isWrong, .ref (a 10), .ref (a 11), .ref (a 12), .int x_parts, .int x_without, .ref (a 13), .ref (a 14), .ref (a 15), .ref (a 16), .int x_ways, .ref (a 17), .ref (a 18), .ref (a 19), .ref (a 20)])), (a 8, .inl (V.2 0, 732, .inl x_slot_4))] [] rfl rfl ?_
        try dsimp only at h
        refine ga_aload_n hR (pc := 41) 0 rfl rfl dX10_insert_41 ?_
        refine ga_iconst hR (pc := 42) (v := nI 0) (by decide) dX10_insert_42 ?_
        refine ga_iload_n hR (pc := 43) 1 rfl rfl dX10_insert_43 ?_
        refine ga_iload_n hR (pc := 44) 2 rfl rfl dX10_insert_44 ?_
        refine ga_callV hR (pc := 45) (As := [.int (nI 0), .int p1, .int p2]) (rest := []) (st0 := [.int p2, .int p1, .int (nI 0), .ref (a 0)]) (b := (a 0)) 3 (c_X10_puts V a x_rules x_places x_newRules x_newPlaces x_acts_3 x_kept x_length x_next x_place x_isWrong x_parts x_without x_ways x_slot_4 (nI 0) p1 p2 _ h) (ga_same_v fun _ => rfl) gX10_insert_X10_puts rfl rfl rfl hd_X10_puts ⟨Nat.le_of_ble_eq_true rfl, Nat.le_of_ble_eq_true rfl⟩ rfl rfl (Nat.le_of_ble_eq_true rfl) ⟨Nat.zero_le _, Nat.zero_le _⟩ [0, 1] rfl rfl 0 rfl rfl dX10_insert_45 ?_
        rintro _ _ ⟨x_slot_5, rfl, rfl, h⟩
        refine ga_to [(a 0, .inr (10, [.int x_rules, .int x_places, .ref (a 1), .ref (a 2), .ref (a 3), .int x_newRules, .int x_newPlaces, .ref (a 4), .ref (a 5), .ref (a 6), .ref (a 7), .ref (a 8), .int x_acts_3, .int x_kept, .int x_length, .ref (a 9), .int x_next, .int x_place, .int x_isWrong, .ref (a 10), .ref (a 11), .ref (a 12), .int x_parts, .int x_without, .ref (a 13), .ref (a 14), .ref (a 15), .ref (a 16), .int x_ways, .ref (a 17), .ref (a 18), .ref (a 19), .ref (a 20)])), (a 8, .inl (V.2 0, 732, .inl x_slot_5))] [] rfl rfl ?_
        try dsimp only at h
        refine ga_aload_n hR (pc := 48) 0 rfl rfl dX10_insert_48 ?_
        refine ga_get hR (pc := 49) 0 rfl rfl hinX10 11 (by decide) f31 rfl dX10_insert_49 ?_
        refine ga_bipush hR (pc := 52) (v := nI 30) (by decide) dX10_insert_52 ?_
        refine ga_iald hR (pc := 54) 1 rfl h.1 dX10_insert_54 ?_
        replace h := h.2
        exact ga_iret hE dX10_insert_55 rfl (ga_ri (x_acts_3, x_slot_5) rfl h)
      · replace h := h.2 c31
        refine ga_bipush hR (pc := 34) (v := -3) (by decide) dX10_insert_34 ?_
        exact ga_iret hE dX10_insert_36 rfl (ga_ri (x_acts, x_slot) rfl h)
    · replace h := h.2 c17
      refine ga_iconst hR (pc := 20) (v := -1) (by decide) dX10_insert_20 ?_
      exact ga_iret hE dX10_insert_21 rfl (ga_ri (x_acts, x_slot) rfl h)

def rm_X10_erase : Room := { frames := 2, cells := 0, slots := 0, locals := 44 }
theorem hd_X10_eraseS : yX10_erase.cls ≠ "java/lang/invoke/MethodHandle" ∧ yX10_erase.cls ≠ "java/lang/invoke/VarHandle" ∧ (parseMethodDescriptor yX10_erase.desc).map (fun d => d.parameters.length) = some 1 := by decide +kernel
theorem hd_X10_erase : yX10_erase.cls = RX10 ∧ yX10_erase.cls ≠ "java/lang/invoke/MethodHandle" ∧ yX10_erase.cls ≠ "java/lang/invoke/VarHandle" ∧ (parseMethodDescriptor yX10_erase.desc).map (fun d => d.parameters.length) = some 1 := ⟨rfl, hd_X10_eraseS⟩
set_option maxHeartbeats 4000000 in
set_option maxRecDepth 100000 in
theorem c_X10_erase (V : ga_V) (a : Nat → Nat) (x_rules : Int32) (x_places : Int32) (x_newRules : Int32) (x_newPlaces : Int32) (x_kept : Int32) (x_length : Int32) (x_next : Int32) (x_place : Int32) (x_isWrong : Int32) (x_parts : Int32) (x_without : Int32) (x_ways : Int32) (x_acts : Int32) (x_slot : Nat → Int32) (p1 : Int32) (K : Int32 → Int32 → (Nat → Int32) → Prop) (h : wp_X10_erase x_acts x_slot p1 K) : ga_C V yX10_erase wsX10_erase rm_X10_erase [.ref (a 0), .int p1] [(a 0, .inr (10, [.int x_rules, .int x_places, .ref (a 1), .ref (a 2), .ref (a 3), .int x_newRules, .int x_newPlaces, .ref (a 4), .ref (a 5), .ref (a 6), .ref (a 7), .ref (a 8), .int x_acts, .int x_kept, .int x_length, .ref (a 9), .int x_next, .int x_place, .int x_isWrong, .ref (a 10), .ref (a 11), .ref (a 12), .int x_parts, .int x_without, .ref (a 13), .ref (a 14), .ref (a 15), .ref (a 16), .int x_ways, .ref (a 17), .ref (a 18), .ref (a 19), .ref (a 20)])), (a 8, .inl (V.2 0, 732, .inl x_slot))] 0 0 (ga_Fi (fun (u : Int32 × (Nat → Int32)) => [(a 0, .inr (10, [.int x_rules, .int x_places, .ref (a 1), .ref (a 2), .ref (a 3), .int x_newRules, .int x_newPlaces, .ref (a 4), .ref (a 5), .ref (a 6), .ref (a 7), .ref (a 8), .int u.1, .int x_kept, .int x_length, .ref (a 9), .int x_next, .int x_place, .int x_isWrong, .ref (a 10), .ref (a 11), .ref (a 12), .int x_parts, .int x_without, .ref (a 13), .ref (a 14), .ref (a 15), .ref (a 16), .int x_ways, .ref (a 17), .ref (a 18), .ref (a 19), .ref (a 20)])), (a 8, .inl (V.2 0, 732, .inl u.2))]) (fun r u => K r u.1 u.2)) := by
  refine ga_met (cc := cX10_erase) (maxL := 3) (rt := (some .int)) (by decide) rfl [(0, .ref (a 0)), (1, .int p1)] rfl (Nat.le_of_ble_eq_true rfl) ?_
  intro G hR hE
  have hinX10 : ∀ w ∈ u_ws RX10 TX10 33, w ∈ wsX10_erase := by decide +kernel
  have f31 : Cond.fieldLink RX10 31 "BoundaryRulesModel" "slot" "[I" ∈ wsX10_erase := by decide +kernel
  unfold wp_X10_erase at h
  refine ga_iload_n hR (pc := 0) 1 rfl rfl dX10_erase_0 ?_
  refine ga_i2l hR (pc := 1) dX10_erase_1 ?_
  refine ga_lconst hR (pc := 2) (v := lN 0) (by decide) dX10_erase_2 ?_
  refine ga_aload_n hR (pc := 3) 0 rfl rfl dX10_erase_3 ?_
  refine ga_get hR (pc := 4) 0 rfl rfl hinX10 11 (by decide) f31 rfl dX10_erase_4 ?_
  refine ga_bipush hR (pc := 7) (v := nI 30) (by decide) dX10_erase_7 ?_
  refine ga_iald hR (pc := 9) 1 rfl h.1 dX10_erase_9 ?_
  replace h := h.2
  refine ga_iconst hR (pc := 10) (v := nI 1) (by decide) dX10_erase_10 ?_
  refine ga_isub hR (pc := 11) dX10_erase_11 ?_
  refine ga_i2l hR (pc := 12) dX10_erase_12 ?_
  refine ga_callS hR (pc := 13) (As := [.long p1.toInt64, .long (lN 0), .long (((x_slot (nI 30).toNatClampNeg) - (nI 1)).toInt64)]) (rest := []) (st0 := [.long (((x_slot (nI 30).toNatClampNeg) - (nI 1)).toInt64), .long (lN 0), .long p1.toInt64]) 3 (c_X10_in V p1.toInt64 (lN 0) (((x_slot (nI 30).toNatClampNeg) - (nI 1)).toInt64) _ h) (ga_same_i fun _ => rfl) gX10_erase_X10_in rfl rfl rfl hd_X10_inS ⟨Nat.le_of_ble_eq_true rfl, Nat.le_of_ble_eq_true rfl⟩ rfl rfl (Nat.le_of_ble_eq_true rfl) ⟨Nat.zero_le _, Nat.zero_le _⟩ [] rfl rfl dX10_erase_13 ?_
  rintro _ _ ⟨r_1, ⟨⟩, rfl, rfl, h⟩
  refine ga_to [(a 0, .inr (10, [.int x_rules, .int x_places, .ref (a 1), .ref (a 2), .ref (a 3), .int x_newRules, .int x_newPlaces, .ref (a 4), .ref (a 5), .ref (a 6), .ref (a 7), .ref (a 8), .int x_acts, .int x_kept, .int x_length, .ref (a 9), .int x_next, .int x_place, .int x_isWrong, .ref (a 10), .ref (a 11), .ref (a 12), .int x_parts, .int x_without, .ref (a 13), .ref (a 14), .ref (a 15), .ref (a 16), .int x_ways, .ref (a 17), .ref (a 18), .ref (a 19), .ref (a 20)])), (a 8, .inl (V.2 0, 732, .inl x_slot))] [.int r_1] rfl rfl ?_
  try dsimp only at h
  refine ga_if_ne hR (pc := 16) 21 (by decide) dX10_erase_16 (fun c16 => ?_) (fun c16 => ?_)
  · replace h := h.1 c16
    refine ga_aload_n hR (pc := 21) 0 rfl rfl dX10_erase_21 ?_
    refine ga_callV hR (pc := 22) (As := []) (rest := []) (st0 := [.ref (a 0)]) (b := (a 0)) 0 (c_X10_known V a x_rules x_places x_newRules x_newPlaces x_kept x_length x_next x_place x_isWrong x_parts x_without x_ways x_acts x_slot _ h) (ga_same_v fun _ => rfl) gX10_erase_X10_known rfl rfl rfl hd_X10_known ⟨Nat.le_of_ble_eq_true rfl, Nat.le_of_ble_eq_true rfl⟩ rfl rfl (Nat.le_of_ble_eq_true rfl) ⟨Nat.zero_le _, Nat.zero_le _⟩ [0, 1] rfl rfl 0 rfl rfl dX10_erase_22 ?_
    rintro _ _ ⟨⟨x_acts_2, x_slot_3⟩, rfl, rfl, h⟩
    refine ga_to [(a 0, .inr (10, [.int x_rules, .int x_places, .ref (a 1), .ref (a 2), .ref (a 3), .int x_newRules, .int x_newPlaces, .ref (a 4), .ref (a 5), .ref (a 6), .ref (a 7), .ref (a 8), .int x_acts_2, .int x_kept, .int x_length, .ref (a 9), .int x_next, .int x_place, .int x_isWrong, .ref (a 10), .ref (a 11), .ref (a 12), .int x_parts, .int x_without, .ref (a 13), .ref (a 14), .ref (a 15), .ref (a 16), .int x_ways, .ref (a 17), .ref (a 18), .ref (a 19), .ref (a 20)])), (a 8, .inl (V.2 0, 732, .inl x_slot_3))] [] rfl rfl ?_
    try dsimp only at h
    refine ga_aload_n hR (pc := 25) 0 rfl rfl dX10_erase_25 ?_
    refine ga_get hR (pc := 26) 0 rfl rfl hinX10 11 (by decide) f31 rfl dX10_erase_26 ?_
    refine ga_bipush hR (pc := 29) (v := nI 31) (by decide) dX10_erase_29 ?_
    refine ga_iload_n hR (pc := 31) 1 rfl rfl dX10_erase_31 ?_
    refine ga_iadd hR (pc := 32) dX10_erase_32 ?_
    refine ga_iald hR (pc := 33) 1 rfl h.1 dX10_erase_33 ?_
    replace h := h.2
    refine ga_topi (fun v2_4 ev2_4 => ?_)
    replace h := h v2_4 ev2_4
    refine ga_istore_n hR (pc := 34) (lv' := [(2, .int v2_4), (0, .ref (a 0)), (1, .int p1)]) rfl (by decide) rfl dX10_erase_34 ?_
    refine ga_aload_n hR (pc := 35) 1 rfl rfl dX10_erase_35 ?_
    refine ga_iconst hR (pc := 36) (v := nI 0) (by decide) dX10_erase_36 ?_
    refine ga_iload_n hR (pc := 37) 2 rfl rfl dX10_erase_37 ?_
    refine ga_callV hR (pc := 38) (As := [.int (nI 0), .int p1]) (rest := []) (st0 := [.int p1, .int (nI 0), .ref (a 0)]) (b := (a 0)) 2 (c_X10_takesOut V a x_rules x_places x_newRules x_newPlaces x_acts_2 x_kept x_length x_next x_place x_isWrong x_parts x_without x_ways x_slot_3 (nI 0) p1 _ h) (ga_same_v fun _ => rfl) gX10_erase_X10_takesOut rfl rfl rfl hd_X10_takesOut ⟨Nat.le_of_ble_eq_true rfl, Nat.le_of_ble_eq_true rfl⟩ rfl rfl (Nat.le_of_ble_eq_true rfl) ⟨Nat.zero_le _, Nat.zero_le _⟩ [0, 1] rfl rfl 0 rfl rfl dX10_erase_38 ?_
    rintro _ _ ⟨x_slot_5, rfl, rfl, h⟩
    refine ga_to [(a 0, .inr (10, [.int x_rules, .int x_places, .ref (a 1), .ref (a 2), .ref (a 3), .int x_newRules, .int x_newPlaces, .ref (a 4), .ref (a 5), .ref (a 6), .ref (a 7), .ref (a 8), .int x_acts_2, .int x_kept, .int x_length, .ref (a 9), .int x_next, .int x_place, .int x_isWrong, .ref (a 10), .ref (a 11), .ref (a 12), .int x_parts, .int x_without, .ref (a 13), .ref (a 14), .ref (a 15), .ref (a 16), .int x_ways, .ref (a 17), .ref (a 18), .ref (a 19), .ref (a 20)])), (a 8, .inl (V.2 0, 732, .inl x_slot_5))] [] rfl rfl ?_
    try dsimp only at h
    refine ga_iload_n hR (pc := 41) 0 rfl rfl dX10_erase_41 ?_
    exact ga_iret hE dX10_erase_42 rfl (ga_ri (x_acts_2, x_slot_5) rfl h)
  · replace h := h.2 c16
    refine ga_iconst hR (pc := 19) (v := -1) (by decide) dX10_erase_19 ?_
    exact ga_iret hE dX10_erase_20 rfl (ga_ri (x_acts, x_slot) rfl h)

def rm_X10_tell : Room := { frames := 2, cells := 0, slots := 0, locals := 44 }
theorem hd_X10_tellS : yX10_tell.cls ≠ "java/lang/invoke/MethodHandle" ∧ yX10_tell.cls ≠ "java/lang/invoke/VarHandle" ∧ (parseMethodDescriptor yX10_tell.desc).map (fun d => d.parameters.length) = some 2 := by decide +kernel
theorem hd_X10_tell : yX10_tell.cls = RX10 ∧ yX10_tell.cls ≠ "java/lang/invoke/MethodHandle" ∧ yX10_tell.cls ≠ "java/lang/invoke/VarHandle" ∧ (parseMethodDescriptor yX10_tell.desc).map (fun d => d.parameters.length) = some 2 := ⟨rfl, hd_X10_tellS⟩
set_option maxHeartbeats 4000000 in
set_option maxRecDepth 100000 in
theorem c_X10_tell (V : ga_V) (a : Nat → Nat) (x_rules : Int32) (x_places : Int32) (x_newRules : Int32) (x_newPlaces : Int32) (x_kept : Int32) (x_length : Int32) (x_next : Int32) (x_place : Int32) (x_isWrong : Int32) (x_parts : Int32) (x_without : Int32) (x_ways : Int32) (x_acts : Int32) (x_slot : Nat → Int32) (p1 : Int32) (p2 : Int32) (K : Int32 → Int32 → (Nat → Int32) → Prop) (h : wp_X10_tell x_acts x_slot p1 p2 K) : ga_C V yX10_tell wsX10_tell rm_X10_tell [.ref (a 0), .int p1, .int p2] [(a 0, .inr (10, [.int x_rules, .int x_places, .ref (a 1), .ref (a 2), .ref (a 3), .int x_newRules, .int x_newPlaces, .ref (a 4), .ref (a 5), .ref (a 6), .ref (a 7), .ref (a 8), .int x_acts, .int x_kept, .int x_length, .ref (a 9), .int x_next, .int x_place, .int x_isWrong, .ref (a 10), .ref (a 11), .ref (a 12), .int x_parts, .int x_without, .ref (a 13), .ref (a 14), .ref (a 15), .ref (a 16), .int x_ways, .ref (a 17), .ref (a 18), .ref (a 19), .ref (a 20)])), (a 8, .inl (V.2 0, 732, .inl x_slot))] 0 0 (ga_Fi (fun (u : Int32 × (Nat → Int32)) => [(a 0, .inr (10, [.int x_rules, .int x_places, .ref (a 1), .ref (a 2), .ref (a 3), .int x_newRules, .int x_newPlaces, .ref (a 4), .ref (a 5), .ref (a 6), .ref (a 7), .ref (a 8), .int u.1, .int x_kept, .int x_length, .ref (a 9), .int x_next, .int x_place, .int x_isWrong, .ref (a 10), .ref (a 11), .ref (a 12), .int x_parts, .int x_without, .ref (a 13), .ref (a 14), .ref (a 15), .ref (a 16), .int x_ways, .ref (a 17), .ref (a 18), .ref (a 19), .ref (a 20)])), (a 8, .inl (V.2 0, 732, .inl u.2))]) (fun r u => K r u.1 u.2)) := by
  refine ga_met (cc := cX10_tell) (maxL := 4) (rt := (some .int)) (by decide) rfl [(0, .ref (a 0)), (1, .int p1), (2, .int p2)] rfl (Nat.le_of_ble_eq_true rfl) ?_
  intro G hR hE
  have hinX10 : ∀ w ∈ u_ws RX10 TX10 33, w ∈ wsX10_tell := by decide +kernel
  have f31 : Cond.fieldLink RX10 31 "BoundaryRulesModel" "slot" "[I" ∈ wsX10_tell := by decide +kernel
  unfold wp_X10_tell at h
  refine ga_iload_n hR (pc := 0) 1 rfl rfl dX10_tell_0 ?_
  refine ga_i2l hR (pc := 1) dX10_tell_1 ?_
  refine ga_lconst hR (pc := 2) (v := lN 0) (by decide) dX10_tell_2 ?_
  refine ga_ldc2 hR (pc := 3) (v := lN 25) (by decide +kernel) dX10_tell_3 ?_
  refine ga_callS hR (pc := 6) (As := [.long p1.toInt64, .long (lN 0), .long (lN 25)]) (rest := []) (st0 := [.long (lN 25), .long (lN 0), .long p1.toInt64]) 3 (c_X10_in V p1.toInt64 (lN 0) (lN 25) _ h) (ga_same_i fun _ => rfl) gX10_tell_X10_in rfl rfl rfl hd_X10_inS ⟨Nat.le_of_ble_eq_true rfl, Nat.le_of_ble_eq_true rfl⟩ rfl rfl (Nat.le_of_ble_eq_true rfl) ⟨Nat.zero_le _, Nat.zero_le _⟩ [] rfl rfl dX10_tell_6 ?_
  rintro _ _ ⟨r_1, ⟨⟩, rfl, rfl, h⟩
  refine ga_to [(a 0, .inr (10, [.int x_rules, .int x_places, .ref (a 1), .ref (a 2), .ref (a 3), .int x_newRules, .int x_newPlaces, .ref (a 4), .ref (a 5), .ref (a 6), .ref (a 7), .ref (a 8), .int x_acts, .int x_kept, .int x_length, .ref (a 9), .int x_next, .int x_place, .int x_isWrong, .ref (a 10), .ref (a 11), .ref (a 12), .int x_parts, .int x_without, .ref (a 13), .ref (a 14), .ref (a 15), .ref (a 16), .int x_ways, .ref (a 17), .ref (a 18), .ref (a 19), .ref (a 20)])), (a 8, .inl (V.2 0, 732, .inl x_slot))] [.int r_1] rfl rfl ?_
  try dsimp only at h
  refine ga_if_eq hR (pc := 9) 24 (by decide) dX10_tell_9 (fun c9 => ?_) (fun c9 => ?_)
  · replace h := h.1 c9
    refine ga_iconst hR (pc := 24) (v := -1) (by decide) dX10_tell_24 ?_
    exact ga_iret hE dX10_tell_25 rfl (ga_ri (x_acts, x_slot) rfl h)
  · replace h := h.2 c9
    refine ga_iload_n hR (pc := 12) 2 rfl rfl dX10_tell_12 ?_
    refine ga_i2l hR (pc := 13) dX10_tell_13 ?_
    refine ga_lconst hR (pc := 14) (v := lN 0) (by decide) dX10_tell_14 ?_
    refine ga_ldc2 hR (pc := 15) (v := lN 5) (by decide +kernel) dX10_tell_15 ?_
    refine ga_callS hR (pc := 18) (As := [.long p2.toInt64, .long (lN 0), .long (lN 5)]) (rest := []) (st0 := [.long (lN 5), .long (lN 0), .long p2.toInt64]) 3 (c_X10_in V p2.toInt64 (lN 0) (lN 5) _ h) (ga_same_i fun _ => rfl) gX10_tell_X10_in rfl rfl rfl hd_X10_inS ⟨Nat.le_of_ble_eq_true rfl, Nat.le_of_ble_eq_true rfl⟩ rfl rfl (Nat.le_of_ble_eq_true rfl) ⟨Nat.zero_le _, Nat.zero_le _⟩ [] rfl rfl dX10_tell_18 ?_
    rintro _ _ ⟨r_2, ⟨⟩, rfl, rfl, h⟩
    refine ga_to [(a 0, .inr (10, [.int x_rules, .int x_places, .ref (a 1), .ref (a 2), .ref (a 3), .int x_newRules, .int x_newPlaces, .ref (a 4), .ref (a 5), .ref (a 6), .ref (a 7), .ref (a 8), .int x_acts, .int x_kept, .int x_length, .ref (a 9), .int x_next, .int x_place, .int x_isWrong, .ref (a 10), .ref (a 11), .ref (a 12), .int x_parts, .int x_without, .ref (a 13), .ref (a 14), .ref (a 15), .ref (a 16), .int x_ways, .ref (a 17), .ref (a 18), .ref (a 19), .ref (a 20)])), (a 8, .inl (V.2 0, 732, .inl x_slot))] [.int r_2] rfl rfl ?_
    try dsimp only at h
    refine ga_if_ne hR (pc := 21) 26 (by decide) dX10_tell_21 (fun c21 => ?_) (fun c21 => ?_)
    · replace h := h.1 c21
      refine ga_aload_n hR (pc := 26) 0 rfl rfl dX10_tell_26 ?_
      refine ga_get hR (pc := 27) 0 rfl rfl hinX10 11 (by decide) f31 rfl dX10_tell_27 ?_
      refine ga_iload_n hR (pc := 30) 1 rfl rfl dX10_tell_30 ?_
      refine ga_iald hR (pc := 31) 1 rfl h.1 dX10_tell_31 ?_
      replace h := h.2
      refine ga_topi (fun v3_3 ev3_3 => ?_)
      replace h := h v3_3 ev3_3
      refine ga_istore_n hR (pc := 32) (lv' := [(3, .int v3_3), (0, .ref (a 0)), (1, .int p1), (2, .int p2)]) rfl (by decide) rfl dX10_tell_32 ?_
      refine ga_iload_n hR (pc := 33) 0 rfl rfl dX10_tell_33 ?_
      refine ga_iload_n hR (pc := 34) 3 rfl rfl dX10_tell_34 ?_
      refine ga_icmp_ne hR (pc := 35) 41 (by decide) dX10_tell_35 (fun c35 => ?_) (fun c35 => ?_)
      · replace h := h.1 c35
        refine ga_aload_n hR (pc := 41) 1 rfl rfl dX10_tell_41 ?_
        refine ga_callV hR (pc := 42) (As := []) (rest := []) (st0 := [.ref (a 0)]) (b := (a 0)) 0 (c_X10_known V a x_rules x_places x_newRules x_newPlaces x_kept x_length x_next x_place x_isWrong x_parts x_without x_ways x_acts x_slot _ h) (ga_same_v fun _ => rfl) gX10_tell_X10_known rfl rfl rfl hd_X10_known ⟨Nat.le_of_ble_eq_true rfl, Nat.le_of_ble_eq_true rfl⟩ rfl rfl (Nat.le_of_ble_eq_true rfl) ⟨Nat.zero_le _, Nat.zero_le _⟩ [0, 1] rfl rfl 0 rfl rfl dX10_tell_42 ?_
        rintro _ _ ⟨⟨x_acts_4, x_slot_5⟩, rfl, rfl, h⟩
        refine ga_to [(a 0, .inr (10, [.int x_rules, .int x_places, .ref (a 1), .ref (a 2), .ref (a 3), .int x_newRules, .int x_newPlaces, .ref (a 4), .ref (a 5), .ref (a 6), .ref (a 7), .ref (a 8), .int x_acts_4, .int x_kept, .int x_length, .ref (a 9), .int x_next, .int x_place, .int x_isWrong, .ref (a 10), .ref (a 11), .ref (a 12), .int x_parts, .int x_without, .ref (a 13), .ref (a 14), .ref (a 15), .ref (a 16), .int x_ways, .ref (a 17), .ref (a 18), .ref (a 19), .ref (a 20)])), (a 8, .inl (V.2 0, 732, .inl x_slot_5))] [] rfl rfl ?_
        try dsimp only at h
        refine ga_aload_n hR (pc := 45) 1 rfl rfl dX10_tell_45 ?_
        refine ga_get hR (pc := 46) 0 rfl rfl hinX10 11 (by decide) f31 rfl dX10_tell_46 ?_
        refine ga_iload_n hR (pc := 49) 2 rfl rfl dX10_tell_49 ?_
        refine ga_iload_n hR (pc := 50) 3 rfl rfl dX10_tell_50 ?_
        refine ga_iast hR (pc := 51) (ws' := [(a 0, .inr (10, [.int x_rules, .int x_places, .ref (a 1), .ref (a 2), .ref (a 3), .int x_newRules, .int x_newPlaces, .ref (a 4), .ref (a 5), .ref (a 6), .ref (a 7), .ref (a 8), .int x_acts_4, .int x_kept, .int x_length, .ref (a 9), .int x_next, .int x_place, .int x_isWrong, .ref (a 10), .ref (a 11), .ref (a 12), .int x_parts, .int x_without, .ref (a 13), .ref (a 14), .ref (a 15), .ref (a 16), .int x_ways, .ref (a 17), .ref (a 18), .ref (a 19), .ref (a 20)])), (a 8, .inl (V.2 0, 732, .inl ((upd x_slot_5 p1.toNatClampNeg p2))))]) 1 rfl h.1 rfl dX10_tell_51 ?_
        replace h := h.2
        obtain ⟨x_slot_6, ex_slot_6⟩ : ∃ f : Nat → Int32, f = upd x_slot_5 p1.toNatClampNeg p2 := ⟨_, rfl⟩
        refine ga_cast (ws' := [(a 0, .inr (10, [.int x_rules, .int x_places, .ref (a 1), .ref (a 2), .ref (a 3), .int x_newRules, .int x_newPlaces, .ref (a 4), .ref (a 5), .ref (a 6), .ref (a 7), .ref (a 8), .int x_acts_4, .int x_kept, .int x_length, .ref (a 9), .int x_next, .int x_place, .int x_isWrong, .ref (a 10), .ref (a 11), .ref (a 12), .int x_parts, .int x_without, .ref (a 13), .ref (a 14), .ref (a 15), .ref (a 16), .int x_ways, .ref (a 17), .ref (a 18), .ref (a 19), .ref (a 20)])), (a 8, .inl (V.2 0, 732, .inl x_slot_6))]) (by rw [ex_slot_6]) rfl ?_
        replace h := h x_slot_6 ex_slot_6
        refine ga_iload_n hR (pc := 52) 0 rfl rfl dX10_tell_52 ?_
        exact ga_iret hE dX10_tell_53 rfl (ga_ri (x_acts_4, x_slot_6) rfl h)
      · replace h := h.2 c35
        refine ga_bipush hR (pc := 38) (v := -2) (by decide) dX10_tell_38 ?_
        exact ga_iret hE dX10_tell_40 rfl (ga_ri (x_acts, x_slot) rfl h)
    · replace h := h.2 c21
      refine ga_iconst hR (pc := 24) (v := -1) (by decide) dX10_tell_24 ?_
      exact ga_iret hE dX10_tell_25 rfl (ga_ri (x_acts, x_slot) rfl h)

def rm_X10_rename : Room := { frames := 2, cells := 0, slots := 0, locals := 46 }
theorem hd_X10_renameS : yX10_rename.cls ≠ "java/lang/invoke/MethodHandle" ∧ yX10_rename.cls ≠ "java/lang/invoke/VarHandle" ∧ (parseMethodDescriptor yX10_rename.desc).map (fun d => d.parameters.length) = some 2 := by decide +kernel
theorem hd_X10_rename : yX10_rename.cls = RX10 ∧ yX10_rename.cls ≠ "java/lang/invoke/MethodHandle" ∧ yX10_rename.cls ≠ "java/lang/invoke/VarHandle" ∧ (parseMethodDescriptor yX10_rename.desc).map (fun d => d.parameters.length) = some 2 := ⟨rfl, hd_X10_renameS⟩
set_option maxHeartbeats 4000000 in
set_option maxRecDepth 100000 in
theorem c_X10_rename (V : ga_V) (a : Nat → Nat) (x_places : Int32) (x_newRules : Int32) (x_newPlaces : Int32) (x_kept : Int32) (x_length : Int32) (x_next : Int32) (x_place : Int32) (x_isWrong : Int32) (x_parts : Int32) (x_without : Int32) (x_ways : Int32) (x_rules : Int32) (x_acts : Int32) (x_slot : Nat → Int32) (p1 : Int32) (p2 : Int32) (K : Int32 → Int32 → (Nat → Int32) → Prop) (h : wp_X10_rename x_rules x_acts x_slot p1 p2 K) : ga_C V yX10_rename wsX10_rename rm_X10_rename [.ref (a 0), .int p1, .int p2] [(a 0, .inr (10, [.int x_rules, .int x_places, .ref (a 1), .ref (a 2), .ref (a 3), .int x_newRules, .int x_newPlaces, .ref (a 4), .ref (a 5), .ref (a 6), .ref (a 7), .ref (a 8), .int x_acts, .int x_kept, .int x_length, .ref (a 9), .int x_next, .int x_place, .int x_isWrong, .ref (a 10), .ref (a 11), .ref (a 12), .int x_parts, .int x_without, .ref (a 13), .ref (a 14), .ref (a 15), .ref (a 16), .int x_ways, .ref (a 17), .ref (a 18), .ref (a 19), .ref (a 20)])), (a 8, .inl (V.2 0, 732, .inl x_slot))] 0 0 (ga_Fi (fun (u : Int32 × (Nat → Int32)) => [(a 0, .inr (10, [.int x_rules, .int x_places, .ref (a 1), .ref (a 2), .ref (a 3), .int x_newRules, .int x_newPlaces, .ref (a 4), .ref (a 5), .ref (a 6), .ref (a 7), .ref (a 8), .int u.1, .int x_kept, .int x_length, .ref (a 9), .int x_next, .int x_place, .int x_isWrong, .ref (a 10), .ref (a 11), .ref (a 12), .int x_parts, .int x_without, .ref (a 13), .ref (a 14), .ref (a 15), .ref (a 16), .int x_ways, .ref (a 17), .ref (a 18), .ref (a 19), .ref (a 20)])), (a 8, .inl (V.2 0, 732, .inl u.2))]) (fun r u => K r u.1 u.2)) := by
  refine ga_met (cc := cX10_rename) (maxL := 4) (rt := (some .int)) (by decide) rfl [(0, .ref (a 0)), (1, .int p1), (2, .int p2)] rfl (Nat.le_of_ble_eq_true rfl) ?_
  intro G hR hE
  have hinX10 : ∀ w ∈ u_ws RX10 TX10 33, w ∈ wsX10_rename := by decide +kernel
  have f31 : Cond.fieldLink RX10 31 "BoundaryRulesModel" "slot" "[I" ∈ wsX10_rename := by decide +kernel
  unfold wp_X10_rename at h
  refine ga_aload_n hR (pc := 0) 0 rfl rfl dX10_rename_0 ?_
  refine ga_iload_n hR (pc := 1) 1 rfl rfl dX10_rename_1 ?_
  refine ga_callV hR (pc := 2) (As := [.int p1]) (rest := []) (st0 := [.int p1, .ref (a 0)]) (b := (a 0)) 1 (c_X10_isRule V a x_places x_newRules x_newPlaces x_acts x_kept x_length x_next x_place x_isWrong x_parts x_without x_ways x_rules p1 _ h) (ga_same_i fun _ => rfl) gX10_rename_X10_isRule rfl rfl rfl hd_X10_isRule ⟨Nat.le_of_ble_eq_true rfl, Nat.le_of_ble_eq_true rfl⟩ rfl rfl (Nat.le_of_ble_eq_true rfl) ⟨Nat.zero_le _, Nat.zero_le _⟩ [0] rfl rfl 0 rfl rfl dX10_rename_2 ?_
  rintro _ _ ⟨r_1, ⟨⟩, rfl, rfl, h⟩
  refine ga_to [(a 0, .inr (10, [.int x_rules, .int x_places, .ref (a 1), .ref (a 2), .ref (a 3), .int x_newRules, .int x_newPlaces, .ref (a 4), .ref (a 5), .ref (a 6), .ref (a 7), .ref (a 8), .int x_acts, .int x_kept, .int x_length, .ref (a 9), .int x_next, .int x_place, .int x_isWrong, .ref (a 10), .ref (a 11), .ref (a 12), .int x_parts, .int x_without, .ref (a 13), .ref (a 14), .ref (a 15), .ref (a 16), .int x_ways, .ref (a 17), .ref (a 18), .ref (a 19), .ref (a 20)])), (a 8, .inl (V.2 0, 732, .inl x_slot))] [.int r_1] rfl rfl ?_
  try dsimp only at h
  refine ga_if_eq hR (pc := 5) 20 (by decide) dX10_rename_5 (fun c5 => ?_) (fun c5 => ?_)
  · replace h := h.1 c5
    refine ga_iconst hR (pc := 20) (v := -1) (by decide) dX10_rename_20 ?_
    exact ga_iret hE dX10_rename_21 rfl (ga_ri (x_acts, x_slot) rfl h)
  · replace h := h.2 c5
    refine ga_iload_n hR (pc := 8) 2 rfl rfl dX10_rename_8 ?_
    refine ga_i2l hR (pc := 9) dX10_rename_9 ?_
    refine ga_lconst hR (pc := 10) (v := lN 0) (by decide) dX10_rename_10 ?_
    refine ga_ldc2 hR (pc := 11) (v := lN 3) (by decide +kernel) dX10_rename_11 ?_
    refine ga_callS hR (pc := 14) (As := [.long p2.toInt64, .long (lN 0), .long (lN 3)]) (rest := []) (st0 := [.long (lN 3), .long (lN 0), .long p2.toInt64]) 3 (c_X10_in V p2.toInt64 (lN 0) (lN 3) _ h) (ga_same_i fun _ => rfl) gX10_rename_X10_in rfl rfl rfl hd_X10_inS ⟨Nat.le_of_ble_eq_true rfl, Nat.le_of_ble_eq_true rfl⟩ rfl rfl (Nat.le_of_ble_eq_true rfl) ⟨Nat.zero_le _, Nat.zero_le _⟩ [] rfl rfl dX10_rename_14 ?_
    rintro _ _ ⟨r_2, ⟨⟩, rfl, rfl, h⟩
    refine ga_to [(a 0, .inr (10, [.int x_rules, .int x_places, .ref (a 1), .ref (a 2), .ref (a 3), .int x_newRules, .int x_newPlaces, .ref (a 4), .ref (a 5), .ref (a 6), .ref (a 7), .ref (a 8), .int x_acts, .int x_kept, .int x_length, .ref (a 9), .int x_next, .int x_place, .int x_isWrong, .ref (a 10), .ref (a 11), .ref (a 12), .int x_parts, .int x_without, .ref (a 13), .ref (a 14), .ref (a 15), .ref (a 16), .int x_ways, .ref (a 17), .ref (a 18), .ref (a 19), .ref (a 20)])), (a 8, .inl (V.2 0, 732, .inl x_slot))] [.int r_2] rfl rfl ?_
    try dsimp only at h
    refine ga_if_ne hR (pc := 17) 22 (by decide) dX10_rename_17 (fun c17 => ?_) (fun c17 => ?_)
    · replace h := h.1 c17
      refine ga_aload_n hR (pc := 22) 0 rfl rfl dX10_rename_22 ?_
      refine ga_get hR (pc := 23) 0 rfl rfl hinX10 11 (by decide) f31 rfl dX10_rename_23 ?_
      refine ga_bipush hR (pc := 26) (v := nI 26) (by decide) dX10_rename_26 ?_
      refine ga_iload_n hR (pc := 28) 1 rfl rfl dX10_rename_28 ?_
      refine ga_iadd hR (pc := 29) dX10_rename_29 ?_
      refine ga_iald hR (pc := 30) 1 rfl h.1 dX10_rename_30 ?_
      replace h := h.2
      refine ga_topi (fun v3_3 ev3_3 => ?_)
      replace h := h v3_3 ev3_3
      refine ga_istore_n hR (pc := 31) (lv' := [(3, .int v3_3), (0, .ref (a 0)), (1, .int p1), (2, .int p2)]) rfl (by decide) rfl dX10_rename_31 ?_
      refine ga_iload_n hR (pc := 32) 0 rfl rfl dX10_rename_32 ?_
      refine ga_iload_n hR (pc := 33) 3 rfl rfl dX10_rename_33 ?_
      refine ga_icmp_ne hR (pc := 34) 40 (by decide) dX10_rename_34 (fun c34 => ?_) (fun c34 => ?_)
      · replace h := h.1 c34
        refine ga_aload_n hR (pc := 40) 1 rfl rfl dX10_rename_40 ?_
        refine ga_callV hR (pc := 41) (As := []) (rest := []) (st0 := [.ref (a 0)]) (b := (a 0)) 0 (c_X10_known V a x_rules x_places x_newRules x_newPlaces x_kept x_length x_next x_place x_isWrong x_parts x_without x_ways x_acts x_slot _ h) (ga_same_v fun _ => rfl) gX10_rename_X10_known rfl rfl rfl hd_X10_known ⟨Nat.le_of_ble_eq_true rfl, Nat.le_of_ble_eq_true rfl⟩ rfl rfl (Nat.le_of_ble_eq_true rfl) ⟨Nat.zero_le _, Nat.zero_le _⟩ [0, 1] rfl rfl 0 rfl rfl dX10_rename_41 ?_
        rintro _ _ ⟨⟨x_acts_4, x_slot_5⟩, rfl, rfl, h⟩
        refine ga_to [(a 0, .inr (10, [.int x_rules, .int x_places, .ref (a 1), .ref (a 2), .ref (a 3), .int x_newRules, .int x_newPlaces, .ref (a 4), .ref (a 5), .ref (a 6), .ref (a 7), .ref (a 8), .int x_acts_4, .int x_kept, .int x_length, .ref (a 9), .int x_next, .int x_place, .int x_isWrong, .ref (a 10), .ref (a 11), .ref (a 12), .int x_parts, .int x_without, .ref (a 13), .ref (a 14), .ref (a 15), .ref (a 16), .int x_ways, .ref (a 17), .ref (a 18), .ref (a 19), .ref (a 20)])), (a 8, .inl (V.2 0, 732, .inl x_slot_5))] [] rfl rfl ?_
        try dsimp only at h
        refine ga_aload_n hR (pc := 44) 1 rfl rfl dX10_rename_44 ?_
        refine ga_get hR (pc := 45) 0 rfl rfl hinX10 11 (by decide) f31 rfl dX10_rename_45 ?_
        refine ga_bipush hR (pc := 48) (v := nI 26) (by decide) dX10_rename_48 ?_
        refine ga_iload_n hR (pc := 50) 2 rfl rfl dX10_rename_50 ?_
        refine ga_iadd hR (pc := 51) dX10_rename_51 ?_
        refine ga_iload_n hR (pc := 52) 3 rfl rfl dX10_rename_52 ?_
        refine ga_iast hR (pc := 53) (ws' := [(a 0, .inr (10, [.int x_rules, .int x_places, .ref (a 1), .ref (a 2), .ref (a 3), .int x_newRules, .int x_newPlaces, .ref (a 4), .ref (a 5), .ref (a 6), .ref (a 7), .ref (a 8), .int x_acts_4, .int x_kept, .int x_length, .ref (a 9), .int x_next, .int x_place, .int x_isWrong, .ref (a 10), .ref (a 11), .ref (a 12), .int x_parts, .int x_without, .ref (a 13), .ref (a 14), .ref (a 15), .ref (a 16), .int x_ways, .ref (a 17), .ref (a 18), .ref (a 19), .ref (a 20)])), (a 8, .inl (V.2 0, 732, .inl ((upd x_slot_5 ((nI 26) + p1).toNatClampNeg p2))))]) 1 rfl h.1 rfl dX10_rename_53 ?_
        replace h := h.2
        obtain ⟨x_slot_6, ex_slot_6⟩ : ∃ f : Nat → Int32, f = upd x_slot_5 ((nI 26) + p1).toNatClampNeg p2 := ⟨_, rfl⟩
        refine ga_cast (ws' := [(a 0, .inr (10, [.int x_rules, .int x_places, .ref (a 1), .ref (a 2), .ref (a 3), .int x_newRules, .int x_newPlaces, .ref (a 4), .ref (a 5), .ref (a 6), .ref (a 7), .ref (a 8), .int x_acts_4, .int x_kept, .int x_length, .ref (a 9), .int x_next, .int x_place, .int x_isWrong, .ref (a 10), .ref (a 11), .ref (a 12), .int x_parts, .int x_without, .ref (a 13), .ref (a 14), .ref (a 15), .ref (a 16), .int x_ways, .ref (a 17), .ref (a 18), .ref (a 19), .ref (a 20)])), (a 8, .inl (V.2 0, 732, .inl x_slot_6))]) (by rw [ex_slot_6]) rfl ?_
        replace h := h x_slot_6 ex_slot_6
        refine ga_iload_n hR (pc := 54) 0 rfl rfl dX10_rename_54 ?_
        exact ga_iret hE dX10_rename_55 rfl (ga_ri (x_acts_4, x_slot_6) rfl h)
      · replace h := h.2 c34
        refine ga_bipush hR (pc := 37) (v := -2) (by decide) dX10_rename_37 ?_
        exact ga_iret hE dX10_rename_39 rfl (ga_ri (x_acts, x_slot) rfl h)
    · replace h := h.2 c17
      refine ga_iconst hR (pc := 20) (v := -1) (by decide) dX10_rename_20 ?_
      exact ga_iret hE dX10_rename_21 rfl (ga_ri (x_acts, x_slot) rfl h)

def rm_X10_undo : Room := { frames := 1, cells := 0, slots := 0, locals := 23 }
theorem hd_X10_undoS : yX10_undo.cls ≠ "java/lang/invoke/MethodHandle" ∧ yX10_undo.cls ≠ "java/lang/invoke/VarHandle" ∧ (parseMethodDescriptor yX10_undo.desc).map (fun d => d.parameters.length) = some 0 := by decide +kernel
theorem hd_X10_undo : yX10_undo.cls = RX10 ∧ yX10_undo.cls ≠ "java/lang/invoke/MethodHandle" ∧ yX10_undo.cls ≠ "java/lang/invoke/VarHandle" ∧ (parseMethodDescriptor yX10_undo.desc).map (fun d => d.parameters.length) = some 0 := ⟨rfl, hd_X10_undoS⟩
set_option maxHeartbeats 4000000 in
set_option maxRecDepth 100000 in
theorem c_X10_undo (V : ga_V) (a : Nat → Nat) (x_rules : Int32) (x_places : Int32) (x_newRules : Int32) (x_newPlaces : Int32) (x_kept : Int32) (x_length : Int32) (x_next : Int32) (x_place : Int32) (x_isWrong : Int32) (x_parts : Int32) (x_without : Int32) (x_ways : Int32) (x_acts : Int32) (x_slot : Nat → Int32) (K : Int32 → Int32 → (Nat → Int32) → Prop) (h : wp_X10_undo x_acts x_slot K) : ga_C V yX10_undo wsX10_undo rm_X10_undo [.ref (a 0)] [(a 0, .inr (10, [.int x_rules, .int x_places, .ref (a 1), .ref (a 2), .ref (a 3), .int x_newRules, .int x_newPlaces, .ref (a 4), .ref (a 5), .ref (a 6), .ref (a 7), .ref (a 8), .int x_acts, .int x_kept, .int x_length, .ref (a 9), .int x_next, .int x_place, .int x_isWrong, .ref (a 10), .ref (a 11), .ref (a 12), .int x_parts, .int x_without, .ref (a 13), .ref (a 14), .ref (a 15), .ref (a 16), .int x_ways, .ref (a 17), .ref (a 18), .ref (a 19), .ref (a 20)])), (a 8, .inl (V.2 0, 732, .inl x_slot))] 0 0 (ga_Fi (fun (u : Int32 × (Nat → Int32)) => [(a 0, .inr (10, [.int x_rules, .int x_places, .ref (a 1), .ref (a 2), .ref (a 3), .int x_newRules, .int x_newPlaces, .ref (a 4), .ref (a 5), .ref (a 6), .ref (a 7), .ref (a 8), .int u.1, .int x_kept, .int x_length, .ref (a 9), .int x_next, .int x_place, .int x_isWrong, .ref (a 10), .ref (a 11), .ref (a 12), .int x_parts, .int x_without, .ref (a 13), .ref (a 14), .ref (a 15), .ref (a 16), .int x_ways, .ref (a 17), .ref (a 18), .ref (a 19), .ref (a 20)])), (a 8, .inl (V.2 0, 732, .inl u.2))]) (fun r u => K r u.1 u.2)) := by
  refine ga_met (cc := cX10_undo) (maxL := 1) (rt := (some .int)) (by decide) rfl [(0, .ref (a 0))] rfl (Nat.le_of_ble_eq_true rfl) ?_
  intro G hR hE
  have hinX10 : ∀ w ∈ u_ws RX10 TX10 33, w ∈ wsX10_undo := by decide +kernel
  have f124 : Cond.fieldLink RX10 124 "BoundaryRulesModel" "acts" "I" ∈ wsX10_undo := by decide +kernel
  unfold wp_X10_undo at h
  refine ga_aload_n hR (pc := 0) 0 rfl rfl dX10_undo_0 ?_
  refine ga_get hR (pc := 1) 0 rfl rfl hinX10 12 (by decide) f124 rfl dX10_undo_1 ?_
  refine ga_if_ne hR (pc := 4) 10 (by decide) dX10_undo_4 (fun c4 => ?_) (fun c4 => ?_)
  · replace h := h.1 c4
    refine ga_aload_n hR (pc := 10) 0 rfl rfl dX10_undo_10 ?_
    refine ga_aload_n hR (pc := 11) 0 rfl rfl dX10_undo_11 ?_
    refine ga_get hR (pc := 12) 0 rfl rfl hinX10 12 (by decide) f124 rfl dX10_undo_12 ?_
    refine ga_bipush hR (pc := 15) (v := nI 61) (by decide) dX10_undo_15 ?_
    refine ga_imul hR (pc := 17) dX10_undo_17 ?_
    refine ga_iconst hR (pc := 18) (v := nI 0) (by decide) dX10_undo_18 ?_
    refine ga_callV hR (pc := 19) (As := [.int (x_acts * (nI 61)), .int (nI 0)]) (rest := []) (st0 := [.int (nI 0), .int (x_acts * (nI 61)), .ref (a 0)]) (b := (a 0)) 2 (c_X10_copies V a x_rules x_places x_newRules x_newPlaces x_acts x_kept x_length x_next x_place x_isWrong x_parts x_without x_ways x_slot (x_acts * (nI 61)) (nI 0) _ h) (ga_same_v fun _ => rfl) gX10_undo_X10_copies rfl rfl rfl hd_X10_copies ⟨Nat.le_of_ble_eq_true rfl, Nat.le_of_ble_eq_true rfl⟩ rfl rfl (Nat.le_of_ble_eq_true rfl) ⟨Nat.zero_le _, Nat.zero_le _⟩ [0, 1] rfl rfl 0 rfl rfl dX10_undo_19 ?_
    rintro _ _ ⟨x_slot_1, rfl, rfl, h⟩
    refine ga_to [(a 0, .inr (10, [.int x_rules, .int x_places, .ref (a 1), .ref (a 2), .ref (a 3), .int x_newRules, .int x_newPlaces, .ref (a 4), .ref (a 5), .ref (a 6), .ref (a 7), .ref (a 8), .int x_acts, .int x_kept, .int x_length, .ref (a 9), .int x_next, .int x_place, .int x_isWrong, .ref (a 10), .ref (a 11), .ref (a 12), .int x_parts, .int x_without, .ref (a 13), .ref (a 14), .ref (a 15), .ref (a 16), .int x_ways, .ref (a 17), .ref (a 18), .ref (a 19), .ref (a 20)])), (a 8, .inl (V.2 0, 732, .inl x_slot_1))] [] rfl rfl ?_
    try dsimp only at h
    refine ga_aload_n hR (pc := 22) 0 rfl rfl dX10_undo_22 ?_
    refine ga_dup hR (pc := 23) rfl dX10_undo_23 ?_
    refine ga_get hR (pc := 24) 0 rfl rfl hinX10 12 (by decide) f124 rfl dX10_undo_24 ?_
    refine ga_iconst hR (pc := 27) (v := nI 1) (by decide) dX10_undo_27 ?_
    refine ga_isub hR (pc := 28) dX10_undo_28 ?_
    refine ga_topi (fun x_acts_2 ex_acts_2 => ?_)
    replace h := h x_acts_2 ex_acts_2
    refine ga_putf hR (pc := 29) (ws' := [(a 0, .inr (10, [.int x_rules, .int x_places, .ref (a 1), .ref (a 2), .ref (a 3), .int x_newRules, .int x_newPlaces, .ref (a 4), .ref (a 5), .ref (a 6), .ref (a 7), .ref (a 8), .int x_acts_2, .int x_kept, .int x_length, .ref (a 9), .int x_next, .int x_place, .int x_isWrong, .ref (a 10), .ref (a 11), .ref (a 12), .int x_parts, .int x_without, .ref (a 13), .ref (a 14), .ref (a 15), .ref (a 16), .int x_ways, .ref (a 17), .ref (a 18), .ref (a 19), .ref (a 20)])), (a 8, .inl (V.2 0, 732, .inl x_slot_1))]) 0 rfl rfl hinX10 12 (by decide) f124 tyX10_ok nmX10 rfl rfl rfl (Nat.le_of_ble_eq_true rfl) rfl dX10_undo_29 ?_
    refine ga_aload_n hR (pc := 32) 0 rfl rfl dX10_undo_32 ?_
    refine ga_get hR (pc := 33) 0 rfl rfl hinX10 12 (by decide) f124 rfl dX10_undo_33 ?_
    exact ga_iret hE dX10_undo_36 rfl (ga_ri (x_acts_2, x_slot_1) rfl h)
  · replace h := h.2 c4
    refine ga_bipush hR (pc := 7) (v := -2) (by decide) dX10_undo_7 ?_
    exact ga_iret hE dX10_undo_9 rfl (ga_ri (x_acts, x_slot) rfl h)

def rm_X10_isTaken : Room := { frames := 0, cells := 0, slots := 0, locals := 0 }
theorem hd_X10_isTakenS : yX10_isTaken.cls ≠ "java/lang/invoke/MethodHandle" ∧ yX10_isTaken.cls ≠ "java/lang/invoke/VarHandle" ∧ (parseMethodDescriptor yX10_isTaken.desc).map (fun d => d.parameters.length) = some 2 := by decide +kernel
set_option maxHeartbeats 4000000 in
set_option maxRecDepth 100000 in
theorem c_X10_isTaken (V : ga_V) (p0 : Int32) (p1 : Int32) (K : Int32 → Prop) (h : wp_X10_isTaken p0 p1 K) : ga_C V yX10_isTaken wsX10_isTaken rm_X10_isTaken [.int p0, .int p1] [] 0 0 (ga_Fi (fun (u : Unit) => []) (fun r u => K r)) := by
  refine ga_met (cc := cX10_isTaken) (maxL := 2) (rt := (some .boolean)) (by decide) rfl [(0, .int p0), (1, .int p1)] rfl (Nat.le_of_ble_eq_true rfl) ?_
  intro G hR hE
  unfold wp_X10_isTaken at h
  refine ga_iload_n hR (pc := 0) 0 rfl rfl dX10_isTaken_0 ?_
  refine ga_bipush hR (pc := 1) (v := nI 6) (by decide) dX10_isTaken_1 ?_
  refine ga_icmp_eq hR (pc := 3) 11 (by decide) dX10_isTaken_3 (fun c3 => ?_) (fun c3 => ?_)
  · replace h := h.1 c3
    refine ga_iconst hR (pc := 11) (v := nI 1) (by decide) dX10_isTaken_11 ?_
    refine ga_goto hR (pc := 12) 16 (by decide) dX10_isTaken_12 ?_
    exact ga_iret hE dX10_isTaken_16 (by decide) (ga_ri () rfl h)
  · replace h := h.2 c3
    refine ga_iload_n hR (pc := 6) 0 rfl rfl dX10_isTaken_6 ?_
    refine ga_iload_n hR (pc := 7) 1 rfl rfl dX10_isTaken_7 ?_
    refine ga_icmp_ne hR (pc := 8) 15 (by decide) dX10_isTaken_8 (fun c8 => ?_) (fun c8 => ?_)
    · replace h := h.1 c8
      refine ga_iconst hR (pc := 15) (v := nI 0) (by decide) dX10_isTaken_15 ?_
      exact ga_iret hE dX10_isTaken_16 (by decide) (ga_ri () rfl h)
    · replace h := h.2 c8
      refine ga_iconst hR (pc := 11) (v := nI 1) (by decide) dX10_isTaken_11 ?_
      refine ga_goto hR (pc := 12) 16 (by decide) dX10_isTaken_12 ?_
      exact ga_iret hE dX10_isTaken_16 (by decide) (ga_ri () rfl h)

def rm_X10_taking : Room := { frames := 1, cells := 0, slots := 0, locals := 21 }
theorem hd_X10_takingS : yX10_taking.cls ≠ "java/lang/invoke/MethodHandle" ∧ yX10_taking.cls ≠ "java/lang/invoke/VarHandle" ∧ (parseMethodDescriptor yX10_taking.desc).map (fun d => d.parameters.length) = some 2 := by decide +kernel
theorem hd_X10_taking : yX10_taking.cls = RX10 ∧ yX10_taking.cls ≠ "java/lang/invoke/MethodHandle" ∧ yX10_taking.cls ≠ "java/lang/invoke/VarHandle" ∧ (parseMethodDescriptor yX10_taking.desc).map (fun d => d.parameters.length) = some 2 := ⟨rfl, hd_X10_takingS⟩
set_option maxHeartbeats 4000000 in
set_option maxRecDepth 100000 in
theorem c_X10_taking (V : ga_V) (a : Nat → Nat) (x_rules : Int32) (x_newRules : Int32) (x_newPlaces : Int32) (x_acts : Int32) (x_kept : Int32) (x_length : Int32) (x_next : Int32) (x_place : Int32) (x_isWrong : Int32) (x_parts : Int32) (x_without : Int32) (x_ways : Int32) (x_places : Int32) (x_takes : Nat → Int32) (p1 : Int32) (p2 : Int32) (K : Int32 → Prop) (h : wp_X10_taking x_places x_takes p1 p2 K) : ga_C V yX10_taking wsX10_taking rm_X10_taking [.ref (a 0), .int p1, .int p2] [(a 0, .inr (10, [.int x_rules, .int x_places, .ref (a 1), .ref (a 2), .ref (a 3), .int x_newRules, .int x_newPlaces, .ref (a 4), .ref (a 5), .ref (a 6), .ref (a 7), .ref (a 8), .int x_acts, .int x_kept, .int x_length, .ref (a 9), .int x_next, .int x_place, .int x_isWrong, .ref (a 10), .ref (a 11), .ref (a 12), .int x_parts, .int x_without, .ref (a 13), .ref (a 14), .ref (a 15), .ref (a 16), .int x_ways, .ref (a 17), .ref (a 18), .ref (a 19), .ref (a 20)])), (a 2, .inl (V.2 0, 10, .inl x_takes))] 0 0 (ga_Fi (fun (u : Unit) => [(a 0, .inr (10, [.int x_rules, .int x_places, .ref (a 1), .ref (a 2), .ref (a 3), .int x_newRules, .int x_newPlaces, .ref (a 4), .ref (a 5), .ref (a 6), .ref (a 7), .ref (a 8), .int x_acts, .int x_kept, .int x_length, .ref (a 9), .int x_next, .int x_place, .int x_isWrong, .ref (a 10), .ref (a 11), .ref (a 12), .int x_parts, .int x_without, .ref (a 13), .ref (a 14), .ref (a 15), .ref (a 16), .int x_ways, .ref (a 17), .ref (a 18), .ref (a 19), .ref (a 20)])), (a 2, .inl (V.2 0, 10, .inl x_takes))]) (fun r u => K r)) := by
  refine ga_met (cc := cX10_taking) (maxL := 5) (rt := (some .int)) (by decide) rfl [(0, .ref (a 0)), (1, .int p1), (2, .int p2)] rfl (Nat.le_of_ble_eq_true rfl) ?_
  intro G hR hE
  have hinX10 : ∀ w ∈ u_ws RX10 TX10 33, w ∈ wsX10_taking := by decide +kernel
  have f121 : Cond.fieldLink RX10 121 "BoundaryRulesModel" "places" "I" ∈ wsX10_taking := by decide +kernel
  have f13 : Cond.fieldLink RX10 13 "BoundaryRulesModel" "takes" "[I" ∈ wsX10_taking := by decide +kernel
  unfold wp_X10_taking at h
  refine ga_iconst hR (pc := 0) (v := nI 0) (by decide) dX10_taking_0 ?_
  refine ga_istore_n hR (pc := 1) (lv' := [(3, .int (nI 0)), (0, .ref (a 0)), (1, .int p1), (2, .int p2)]) rfl (by decide) rfl dX10_taking_1 ?_
  refine ga_iconst hR (pc := 2) (v := nI 0) (by decide) dX10_taking_2 ?_
  refine ga_istore hR (pc := 3) (lv' := [(4, .int (nI 0)), (3, .int (nI 0)), (0, .ref (a 0)), (1, .int p1), (2, .int p2)]) (by decide) rfl dX10_taking_3 ?_
  have hJ := h (fun (v3_1 : Int32) => G 0 0 [(a 0, .inr (10, [.int x_rules, .int x_places, .ref (a 1), .ref (a 2), .ref (a 3), .int x_newRules, .int x_newPlaces, .ref (a 4), .ref (a 5), .ref (a 6), .ref (a 7), .ref (a 8), .int x_acts, .int x_kept, .int x_length, .ref (a 9), .int x_next, .int x_place, .int x_isWrong, .ref (a 10), .ref (a 11), .ref (a 12), .int x_parts, .int x_without, .ref (a 13), .ref (a 14), .ref (a 15), .ref (a 16), .int x_ways, .ref (a 17), .ref (a 18), .ref (a 19), .ref (a 20)])), (a 2, .inl (V.2 0, 10, .inl x_takes))] 54 [(3, .int v3_1)] [])
  refine ga_bind hJ ?_ ?_
  · intro v3_1 h
    show G 0 0 [(a 0, .inr (10, [.int x_rules, .int x_places, .ref (a 1), .ref (a 2), .ref (a 3), .int x_newRules, .int x_newPlaces, .ref (a 4), .ref (a 5), .ref (a 6), .ref (a 7), .ref (a 8), .int x_acts, .int x_kept, .int x_length, .ref (a 9), .int x_next, .int x_place, .int x_isWrong, .ref (a 10), .ref (a 11), .ref (a 12), .int x_parts, .int x_without, .ref (a 13), .ref (a 14), .ref (a 15), .ref (a 16), .int x_ways, .ref (a 17), .ref (a 18), .ref (a 19), .ref (a 20)])), (a 2, .inl (V.2 0, 10, .inl x_takes))] 54 [(3, .int v3_1)] []
    refine ga_iload_n hR (pc := 54) 0 rfl rfl dX10_taking_54 ?_
    exact ga_iret hE dX10_taking_55 rfl (ga_ri () rfl h)
  · intro h
    obtain ⟨n, h⟩ := h
    have L5 : ∀ (n : Nat) (v3_11 : Int32) (v4_12 : Int32), lp_X10_taking_5 x_places x_takes p1 p2 (fun (v3_1 : Int32) => G 0 0 [(a 0, .inr (10, [.int x_rules, .int x_places, .ref (a 1), .ref (a 2), .ref (a 3), .int x_newRules, .int x_newPlaces, .ref (a 4), .ref (a 5), .ref (a 6), .ref (a 7), .ref (a 8), .int x_acts, .int x_kept, .int x_length, .ref (a 9), .int x_next, .int x_place, .int x_isWrong, .ref (a 10), .ref (a 11), .ref (a 12), .int x_parts, .int x_without, .ref (a 13), .ref (a 14), .ref (a 15), .ref (a 16), .int x_ways, .ref (a 17), .ref (a 18), .ref (a 19), .ref (a 20)])), (a 2, .inl (V.2 0, 10, .inl x_takes))] 54 [(3, .int v3_1)] []) n v3_11 v4_12 → G 0 0 [(a 0, .inr (10, [.int x_rules, .int x_places, .ref (a 1), .ref (a 2), .ref (a 3), .int x_newRules, .int x_newPlaces, .ref (a 4), .ref (a 5), .ref (a 6), .ref (a 7), .ref (a 8), .int x_acts, .int x_kept, .int x_length, .ref (a 9), .int x_next, .int x_place, .int x_isWrong, .ref (a 10), .ref (a 11), .ref (a 12), .int x_parts, .int x_without, .ref (a 13), .ref (a 14), .ref (a 15), .ref (a 16), .int x_ways, .ref (a 17), .ref (a 18), .ref (a 19), .ref (a 20)])), (a 2, .inl (V.2 0, 10, .inl x_takes))] 5 [(0, .ref (a 0)), (1, .int p1), (2, .int p2), (3, .int v3_11), (4, .int v4_12)] [] := by
      intro n
      induction n with
      | zero => exact fun _ _ h => False.elim h
      | succ n ih =>
        intro v3_11 v4_12 h
        rw [lp_X10_taking_5] at h
        refine ga_iload hR (pc := 5) 4 rfl dX10_taking_5 ?_
        refine ga_aload_n hR (pc := 7) 0 rfl rfl dX10_taking_7 ?_
        refine ga_get hR (pc := 8) 0 rfl rfl hinX10 1 (by decide) f121 rfl dX10_taking_8 ?_
        refine ga_icmp_ge hR (pc := 11) 54 (by decide) dX10_taking_11 (fun c11 => ?_) (fun c11 => ?_)
        · replace h := h.1 c11
          exact ga_lv hR [3] rfl h
        · replace h := h.2 c11
          refine ga_iload_n hR (pc := 14) 3 rfl rfl dX10_taking_14 ?_
          refine ga_iload_n hR (pc := 15) 1 rfl rfl dX10_taking_15 ?_
          refine ga_iload hR (pc := 16) 4 rfl dX10_taking_16 ?_
          refine ga_callS hR (pc := 18) (As := [.int p1, .int v4_12]) (rest := [.int v3_11]) (st0 := [.int v4_12, .int p1, .int v3_11]) 2 (c_X10_has V p1 v4_12 _ h) (ga_same_i fun _ => rfl) gX10_taking_X10_has rfl rfl rfl hd_X10_hasS ⟨Nat.le_of_ble_eq_true rfl, Nat.le_of_ble_eq_true rfl⟩ rfl rfl (Nat.le_of_ble_eq_true rfl) ⟨Nat.zero_le _, Nat.zero_le _⟩ [] rfl rfl dX10_taking_18 ?_
          rintro _ _ ⟨r_13, ⟨⟩, rfl, rfl, h⟩
          refine ga_to [(a 0, .inr (10, [.int x_rules, .int x_places, .ref (a 1), .ref (a 2), .ref (a 3), .int x_newRules, .int x_newPlaces, .ref (a 4), .ref (a 5), .ref (a 6), .ref (a 7), .ref (a 8), .int x_acts, .int x_kept, .int x_length, .ref (a 9), .int x_next, .int x_place, .int x_isWrong, .ref (a 10), .ref (a 11), .ref (a 12), .int x_parts, .int x_without, .ref (a 13), .ref (a 14), .ref (a 15), .ref (a 16), .int x_ways, .ref (a 17), .ref (a 18), .ref (a 19), .ref (a 20)])), (a 2, .inl (V.2 0, 10, .inl x_takes))] [.int r_13, .int v3_11] rfl rfl ?_
          try dsimp only at h
          refine ga_if_eq hR (pc := 21) 45 (by decide) dX10_taking_21 (fun c21 => ?_) (fun c21 => ?_)
          · replace h := h.1 c21
            refine ga_iconst hR (pc := 45) (v := nI 0) (by decide) dX10_taking_45 ?_
            refine ga_ior hR (pc := 46) dX10_taking_46 ?_
            refine ga_topi (fun v3_14 ev3_14 => ?_)
            replace h := h v3_14 ev3_14
            refine ga_istore_n hR (pc := 47) (lv' := [(3, .int v3_14), (0, .ref (a 0)), (1, .int p1), (2, .int p2), (4, .int v4_12)]) rfl (by decide) rfl dX10_taking_47 ?_
            obtain ⟨v4_15, ev4_15⟩ : ∃ v : Int32, v = v4_12 + (nI 1) := ⟨_, rfl⟩
            replace h := h v4_15 ev4_15
            refine ga_iinc hR (pc := 48) (lv' := [(4, .int v4_15), (3, .int v3_14), (0, .ref (a 0)), (1, .int p1), (2, .int p2)]) 4 (by decide) rfl ev4_15 (by decide) rfl dX10_taking_48 ?_
            refine ga_goto hR (pc := 51) 5 (by decide) dX10_taking_51 ?_
            exact ga_lv hR [2, 3, 4, 1, 0] rfl (ih _ _ h)
          · replace h := h.2 c21
            refine ga_aload_n hR (pc := 24) 0 rfl rfl dX10_taking_24 ?_
            refine ga_get hR (pc := 25) 0 rfl rfl hinX10 3 (by decide) f13 rfl dX10_taking_25 ?_
            refine ga_iload hR (pc := 28) 4 rfl dX10_taking_28 ?_
            refine ga_iald hR (pc := 30) 1 rfl h.1 dX10_taking_30 ?_
            replace h := h.2
            refine ga_iload_n hR (pc := 31) 2 rfl rfl dX10_taking_31 ?_
            refine ga_callS hR (pc := 32) (As := [.int (x_takes v4_12.toNatClampNeg), .int p2]) (rest := [.int v3_11]) (st0 := [.int p2, .int (x_takes v4_12.toNatClampNeg), .int v3_11]) 2 (c_X10_isTaken V (x_takes v4_12.toNatClampNeg) p2 _ h) (ga_same_i fun _ => rfl) gX10_taking_X10_isTaken rfl rfl rfl hd_X10_isTakenS ⟨Nat.le_of_ble_eq_true rfl, Nat.le_of_ble_eq_true rfl⟩ rfl rfl (Nat.le_of_ble_eq_true rfl) ⟨Nat.zero_le _, Nat.zero_le _⟩ [] rfl rfl dX10_taking_32 ?_
            rintro _ _ ⟨r_16, ⟨⟩, rfl, rfl, h⟩
            refine ga_to [(a 0, .inr (10, [.int x_rules, .int x_places, .ref (a 1), .ref (a 2), .ref (a 3), .int x_newRules, .int x_newPlaces, .ref (a 4), .ref (a 5), .ref (a 6), .ref (a 7), .ref (a 8), .int x_acts, .int x_kept, .int x_length, .ref (a 9), .int x_next, .int x_place, .int x_isWrong, .ref (a 10), .ref (a 11), .ref (a 12), .int x_parts, .int x_without, .ref (a 13), .ref (a 14), .ref (a 15), .ref (a 16), .int x_ways, .ref (a 17), .ref (a 18), .ref (a 19), .ref (a 20)])), (a 2, .inl (V.2 0, 10, .inl x_takes))] [.int r_16, .int v3_11] rfl rfl ?_
            try dsimp only at h
            refine ga_if_eq hR (pc := 35) 45 (by decide) dX10_taking_35 (fun c35 => ?_) (fun c35 => ?_)
            · replace h := h.1 c35
              refine ga_iconst hR (pc := 45) (v := nI 0) (by decide) dX10_taking_45 ?_
              refine ga_ior hR (pc := 46) dX10_taking_46 ?_
              refine ga_topi (fun v3_17 ev3_17 => ?_)
              replace h := h v3_17 ev3_17
              refine ga_istore_n hR (pc := 47) (lv' := [(3, .int v3_17), (0, .ref (a 0)), (1, .int p1), (2, .int p2), (4, .int v4_12)]) rfl (by decide) rfl dX10_taking_47 ?_
              obtain ⟨v4_18, ev4_18⟩ : ∃ v : Int32, v = v4_12 + (nI 1) := ⟨_, rfl⟩
              replace h := h v4_18 ev4_18
              refine ga_iinc hR (pc := 48) (lv' := [(4, .int v4_18), (3, .int v3_17), (0, .ref (a 0)), (1, .int p1), (2, .int p2)]) 4 (by decide) rfl ev4_18 (by decide) rfl dX10_taking_48 ?_
              refine ga_goto hR (pc := 51) 5 (by decide) dX10_taking_51 ?_
              exact ga_lv hR [2, 3, 4, 1, 0] rfl (ih _ _ h)
            · replace h := h.2 c35
              refine ga_iconst hR (pc := 38) (v := nI 1) (by decide) dX10_taking_38 ?_
              refine ga_iload hR (pc := 39) 4 rfl dX10_taking_39 ?_
              refine ga_ishl hR (pc := 41) dX10_taking_41 ?_
              refine ga_goto hR (pc := 42) 46 (by decide) dX10_taking_42 ?_
              refine ga_ior hR (pc := 46) dX10_taking_46 ?_
              refine ga_topi (fun v3_19 ev3_19 => ?_)
              replace h := h v3_19 ev3_19
              refine ga_istore_n hR (pc := 47) (lv' := [(3, .int v3_19), (0, .ref (a 0)), (1, .int p1), (2, .int p2), (4, .int v4_12)]) rfl (by decide) rfl dX10_taking_47 ?_
              obtain ⟨v4_20, ev4_20⟩ : ∃ v : Int32, v = v4_12 + (nI 1) := ⟨_, rfl⟩
              replace h := h v4_20 ev4_20
              refine ga_iinc hR (pc := 48) (lv' := [(4, .int v4_20), (3, .int v3_19), (0, .ref (a 0)), (1, .int p1), (2, .int p2)]) 4 (by decide) rfl ev4_20 (by decide) rfl dX10_taking_48 ?_
              refine ga_goto hR (pc := 51) 5 (by decide) dX10_taking_51 ?_
              exact ga_lv hR [2, 3, 4, 1, 0] rfl (ih _ _ h)
    exact ga_lv hR [2, 3, 4, 1, 0] rfl (L5 n _ _ h)

def rm_X10_begun : Room := { frames := 2, cells := 0, slots := 0, locals := 45 }
theorem hd_X10_begunS : yX10_begun.cls ≠ "java/lang/invoke/MethodHandle" ∧ yX10_begun.cls ≠ "java/lang/invoke/VarHandle" ∧ (parseMethodDescriptor yX10_begun.desc).map (fun d => d.parameters.length) = some 1 := by decide +kernel
theorem hd_X10_begun : yX10_begun.cls = RX10 ∧ yX10_begun.cls ≠ "java/lang/invoke/MethodHandle" ∧ yX10_begun.cls ≠ "java/lang/invoke/VarHandle" ∧ (parseMethodDescriptor yX10_begun.desc).map (fun d => d.parameters.length) = some 1 := ⟨rfl, hd_X10_begunS⟩
set_option maxHeartbeats 4000000 in
set_option maxRecDepth 100000 in
theorem c_X10_begun (V : ga_V) (a : Nat → Nat) (x_newRules : Int32) (x_newPlaces : Int32) (x_acts : Int32) (x_kept : Int32) (x_length : Int32) (x_next : Int32) (x_place : Int32) (x_isWrong : Int32) (x_parts : Int32) (x_ways : Int32) (x_rules : Int32) (x_places : Int32) (x_without : Int32) (x_rule : Nat → Int32) (x_takes : Nat → Int32) (p1 : Int32) (K : Int32 → Prop) (h : wp_X10_begun x_rules x_places x_without x_rule x_takes p1 K) : ga_C V yX10_begun wsX10_begun rm_X10_begun [.ref (a 0), .int p1] [(a 0, .inr (10, [.int x_rules, .int x_places, .ref (a 1), .ref (a 2), .ref (a 3), .int x_newRules, .int x_newPlaces, .ref (a 4), .ref (a 5), .ref (a 6), .ref (a 7), .ref (a 8), .int x_acts, .int x_kept, .int x_length, .ref (a 9), .int x_next, .int x_place, .int x_isWrong, .ref (a 10), .ref (a 11), .ref (a 12), .int x_parts, .int x_without, .ref (a 13), .ref (a 14), .ref (a 15), .ref (a 16), .int x_ways, .ref (a 17), .ref (a 18), .ref (a 19), .ref (a 20)])), (a 1, .inl (V.2 0, 12, .inl x_rule)), (a 2, .inl (V.2 0, 10, .inl x_takes))] 0 0 (ga_Fi (fun (u : Unit) => [(a 0, .inr (10, [.int x_rules, .int x_places, .ref (a 1), .ref (a 2), .ref (a 3), .int x_newRules, .int x_newPlaces, .ref (a 4), .ref (a 5), .ref (a 6), .ref (a 7), .ref (a 8), .int x_acts, .int x_kept, .int x_length, .ref (a 9), .int x_next, .int x_place, .int x_isWrong, .ref (a 10), .ref (a 11), .ref (a 12), .int x_parts, .int x_without, .ref (a 13), .ref (a 14), .ref (a 15), .ref (a 16), .int x_ways, .ref (a 17), .ref (a 18), .ref (a 19), .ref (a 20)])), (a 1, .inl (V.2 0, 12, .inl x_rule)), (a 2, .inl (V.2 0, 10, .inl x_takes))]) (fun r u => K r)) := by
  refine ga_met (cc := cX10_begun) (maxL := 4) (rt := (some .int)) (by decide) rfl [(0, .ref (a 0)), (1, .int p1)] rfl (Nat.le_of_ble_eq_true rfl) ?_
  intro G hR hE
  have hinX10 : ∀ w ∈ u_ws RX10 TX10 33, w ∈ wsX10_begun := by decide +kernel
  have f118 : Cond.fieldLink RX10 118 "BoundaryRulesModel" "rules" "I" ∈ wsX10_begun := by decide +kernel
  have f230 : Cond.fieldLink RX10 230 "BoundaryRulesModel" "without" "I" ∈ wsX10_begun := by decide +kernel
  have f7 : Cond.fieldLink RX10 7 "BoundaryRulesModel" "rule" "[I" ∈ wsX10_begun := by decide +kernel
  unfold wp_X10_begun at h
  refine ga_iconst hR (pc := 0) (v := nI 0) (by decide) dX10_begun_0 ?_
  refine ga_istore_n hR (pc := 1) (lv' := [(2, .int (nI 0)), (0, .ref (a 0)), (1, .int p1)]) rfl (by decide) rfl dX10_begun_1 ?_
  refine ga_iconst hR (pc := 2) (v := nI 0) (by decide) dX10_begun_2 ?_
  refine ga_istore_n hR (pc := 3) (lv' := [(3, .int (nI 0)), (2, .int (nI 0)), (0, .ref (a 0)), (1, .int p1)]) rfl (by decide) rfl dX10_begun_3 ?_
  have hJ := h (fun (v2_1 : Int32) => G 0 0 [(a 0, .inr (10, [.int x_rules, .int x_places, .ref (a 1), .ref (a 2), .ref (a 3), .int x_newRules, .int x_newPlaces, .ref (a 4), .ref (a 5), .ref (a 6), .ref (a 7), .ref (a 8), .int x_acts, .int x_kept, .int x_length, .ref (a 9), .int x_next, .int x_place, .int x_isWrong, .ref (a 10), .ref (a 11), .ref (a 12), .int x_parts, .int x_without, .ref (a 13), .ref (a 14), .ref (a 15), .ref (a 16), .int x_ways, .ref (a 17), .ref (a 18), .ref (a 19), .ref (a 20)])), (a 1, .inl (V.2 0, 12, .inl x_rule)), (a 2, .inl (V.2 0, 10, .inl x_takes))] 44 [(0, .ref (a 0)), (1, .int p1), (2, .int v2_1)] [])
  refine ga_bind hJ ?_ ?_
  · intro v2_1 h
    show G 0 0 [(a 0, .inr (10, [.int x_rules, .int x_places, .ref (a 1), .ref (a 2), .ref (a 3), .int x_newRules, .int x_newPlaces, .ref (a 4), .ref (a 5), .ref (a 6), .ref (a 7), .ref (a 8), .int x_acts, .int x_kept, .int x_length, .ref (a 9), .int x_next, .int x_place, .int x_isWrong, .ref (a 10), .ref (a 11), .ref (a 12), .int x_parts, .int x_without, .ref (a 13), .ref (a 14), .ref (a 15), .ref (a 16), .int x_ways, .ref (a 17), .ref (a 18), .ref (a 19), .ref (a 20)])), (a 1, .inl (V.2 0, 12, .inl x_rule)), (a 2, .inl (V.2 0, 10, .inl x_takes))] 44 [(0, .ref (a 0)), (1, .int p1), (2, .int v2_1)] []
    refine ga_aload_n hR (pc := 44) 0 rfl rfl dX10_begun_44 ?_
    refine ga_iload_n hR (pc := 45) 2 rfl rfl dX10_begun_45 ?_
    refine ga_iload_n hR (pc := 46) 1 rfl rfl dX10_begun_46 ?_
    refine ga_callV hR (pc := 47) (As := [.int v2_1, .int p1]) (rest := []) (st0 := [.int p1, .int v2_1, .ref (a 0)]) (b := (a 0)) 2 (c_X10_taking V a x_rules x_newRules x_newPlaces x_acts x_kept x_length x_next x_place x_isWrong x_parts x_without x_ways x_places x_takes v2_1 p1 _ h) (ga_same_i fun _ => rfl) gX10_begun_X10_taking rfl rfl rfl hd_X10_taking ⟨Nat.le_of_ble_eq_true rfl, Nat.le_of_ble_eq_true rfl⟩ rfl rfl (Nat.le_of_ble_eq_true rfl) ⟨Nat.zero_le _, Nat.zero_le _⟩ [0, 2] rfl rfl 0 rfl rfl dX10_begun_47 ?_
    rintro _ _ ⟨r_3, ⟨⟩, rfl, rfl, h⟩
    refine ga_to [(a 0, .inr (10, [.int x_rules, .int x_places, .ref (a 1), .ref (a 2), .ref (a 3), .int x_newRules, .int x_newPlaces, .ref (a 4), .ref (a 5), .ref (a 6), .ref (a 7), .ref (a 8), .int x_acts, .int x_kept, .int x_length, .ref (a 9), .int x_next, .int x_place, .int x_isWrong, .ref (a 10), .ref (a 11), .ref (a 12), .int x_parts, .int x_without, .ref (a 13), .ref (a 14), .ref (a 15), .ref (a 16), .int x_ways, .ref (a 17), .ref (a 18), .ref (a 19), .ref (a 20)])), (a 1, .inl (V.2 0, 12, .inl x_rule)), (a 2, .inl (V.2 0, 10, .inl x_takes))] [.int r_3] rfl rfl ?_
    try dsimp only at h
    exact ga_iret hE dX10_begun_50 rfl (ga_ri () rfl h)
  · intro h
    obtain ⟨n, h⟩ := h
    have L4 : ∀ (n : Nat) (v2_9 : Int32) (v3_10 : Int32), lp_X10_begun_4 x_rules x_without x_rule (fun (v2_1 : Int32) => G 0 0 [(a 0, .inr (10, [.int x_rules, .int x_places, .ref (a 1), .ref (a 2), .ref (a 3), .int x_newRules, .int x_newPlaces, .ref (a 4), .ref (a 5), .ref (a 6), .ref (a 7), .ref (a 8), .int x_acts, .int x_kept, .int x_length, .ref (a 9), .int x_next, .int x_place, .int x_isWrong, .ref (a 10), .ref (a 11), .ref (a 12), .int x_parts, .int x_without, .ref (a 13), .ref (a 14), .ref (a 15), .ref (a 16), .int x_ways, .ref (a 17), .ref (a 18), .ref (a 19), .ref (a 20)])), (a 1, .inl (V.2 0, 12, .inl x_rule)), (a 2, .inl (V.2 0, 10, .inl x_takes))] 44 [(0, .ref (a 0)), (1, .int p1), (2, .int v2_1)] []) n v2_9 v3_10 → G 0 0 [(a 0, .inr (10, [.int x_rules, .int x_places, .ref (a 1), .ref (a 2), .ref (a 3), .int x_newRules, .int x_newPlaces, .ref (a 4), .ref (a 5), .ref (a 6), .ref (a 7), .ref (a 8), .int x_acts, .int x_kept, .int x_length, .ref (a 9), .int x_next, .int x_place, .int x_isWrong, .ref (a 10), .ref (a 11), .ref (a 12), .int x_parts, .int x_without, .ref (a 13), .ref (a 14), .ref (a 15), .ref (a 16), .int x_ways, .ref (a 17), .ref (a 18), .ref (a 19), .ref (a 20)])), (a 1, .inl (V.2 0, 12, .inl x_rule)), (a 2, .inl (V.2 0, 10, .inl x_takes))] 4 [(0, .ref (a 0)), (1, .int p1), (2, .int v2_9), (3, .int v3_10)] [] := by
      intro n
      induction n with
      | zero => exact fun _ _ h => False.elim h
      | succ n ih =>
        intro v2_9 v3_10 h
        rw [lp_X10_begun_4] at h
        refine ga_iload_n hR (pc := 4) 3 rfl rfl dX10_begun_4 ?_
        refine ga_aload_n hR (pc := 5) 0 rfl rfl dX10_begun_5 ?_
        refine ga_get hR (pc := 6) 0 rfl rfl hinX10 0 (by decide) f118 rfl dX10_begun_6 ?_
        refine ga_icmp_ge hR (pc := 9) 44 (by decide) dX10_begun_9 (fun c9 => ?_) (fun c9 => ?_)
        · replace h := h.1 c9
          exact ga_lv hR [0, 1, 2] rfl h
        · replace h := h.2 c9
          refine ga_iload_n hR (pc := 12) 2 rfl rfl dX10_begun_12 ?_
          refine ga_aload_n hR (pc := 13) 0 rfl rfl dX10_begun_13 ?_
          refine ga_get hR (pc := 14) 0 rfl rfl hinX10 23 (by decide) f230 rfl dX10_begun_14 ?_
          refine ga_iload_n hR (pc := 17) 3 rfl rfl dX10_begun_17 ?_
          refine ga_callS hR (pc := 18) (As := [.int x_without, .int v3_10]) (rest := [.int v2_9]) (st0 := [.int v3_10, .int x_without, .int v2_9]) 2 (c_X10_has V x_without v3_10 _ h) (ga_same_i fun _ => rfl) gX10_begun_X10_has rfl rfl rfl hd_X10_hasS ⟨Nat.le_of_ble_eq_true rfl, Nat.le_of_ble_eq_true rfl⟩ rfl rfl (Nat.le_of_ble_eq_true rfl) ⟨Nat.zero_le _, Nat.zero_le _⟩ [] rfl rfl dX10_begun_18 ?_
          rintro _ _ ⟨r_11, ⟨⟩, rfl, rfl, h⟩
          refine ga_to [(a 0, .inr (10, [.int x_rules, .int x_places, .ref (a 1), .ref (a 2), .ref (a 3), .int x_newRules, .int x_newPlaces, .ref (a 4), .ref (a 5), .ref (a 6), .ref (a 7), .ref (a 8), .int x_acts, .int x_kept, .int x_length, .ref (a 9), .int x_next, .int x_place, .int x_isWrong, .ref (a 10), .ref (a 11), .ref (a 12), .int x_parts, .int x_without, .ref (a 13), .ref (a 14), .ref (a 15), .ref (a 16), .int x_ways, .ref (a 17), .ref (a 18), .ref (a 19), .ref (a 20)])), (a 1, .inl (V.2 0, 12, .inl x_rule)), (a 2, .inl (V.2 0, 10, .inl x_takes))] [.int r_11, .int v2_9] rfl rfl ?_
          try dsimp only at h
          refine ga_if_eq hR (pc := 21) 28 (by decide) dX10_begun_21 (fun c21 => ?_) (fun c21 => ?_)
          · replace h := h.1 c21
            refine ga_aload_n hR (pc := 28) 0 rfl rfl dX10_begun_28 ?_
            refine ga_get hR (pc := 29) 0 rfl rfl hinX10 2 (by decide) f7 rfl dX10_begun_29 ?_
            refine ga_iconst hR (pc := 32) (v := nI 0) (by decide) dX10_begun_32 ?_
            refine ga_iload_n hR (pc := 33) 3 rfl rfl dX10_begun_33 ?_
            refine ga_iadd hR (pc := 34) dX10_begun_34 ?_
            refine ga_iald hR (pc := 35) 1 rfl h.1 dX10_begun_35 ?_
            replace h := h.2
            refine ga_ior hR (pc := 36) dX10_begun_36 ?_
            refine ga_topi (fun v2_12 ev2_12 => ?_)
            replace h := h v2_12 ev2_12
            refine ga_istore_n hR (pc := 37) (lv' := [(2, .int v2_12), (0, .ref (a 0)), (1, .int p1), (3, .int v3_10)]) rfl (by decide) rfl dX10_begun_37 ?_
            obtain ⟨v3_13, ev3_13⟩ : ∃ v : Int32, v = v3_10 + (nI 1) := ⟨_, rfl⟩
            replace h := h v3_13 ev3_13
            refine ga_iinc hR (pc := 38) (lv' := [(3, .int v3_13), (2, .int v2_12), (0, .ref (a 0)), (1, .int p1)]) 3 (by decide) rfl ev3_13 (by decide) rfl dX10_begun_38 ?_
            refine ga_goto hR (pc := 41) 4 (by decide) dX10_begun_41 ?_
            exact ga_lv hR [2, 3, 1, 0] rfl (ih _ _ h)
          · replace h := h.2 c21
            refine ga_iconst hR (pc := 24) (v := nI 0) (by decide) dX10_begun_24 ?_
            refine ga_goto hR (pc := 25) 36 (by decide) dX10_begun_25 ?_
            refine ga_ior hR (pc := 36) dX10_begun_36 ?_
            refine ga_topi (fun v2_14 ev2_14 => ?_)
            replace h := h v2_14 ev2_14
            refine ga_istore_n hR (pc := 37) (lv' := [(2, .int v2_14), (0, .ref (a 0)), (1, .int p1), (3, .int v3_10)]) rfl (by decide) rfl dX10_begun_37 ?_
            obtain ⟨v3_15, ev3_15⟩ : ∃ v : Int32, v = v3_10 + (nI 1) := ⟨_, rfl⟩
            replace h := h v3_15 ev3_15
            refine ga_iinc hR (pc := 38) (lv' := [(3, .int v3_15), (2, .int v2_14), (0, .ref (a 0)), (1, .int p1)]) 3 (by decide) rfl ev3_15 (by decide) rfl dX10_begun_38 ?_
            refine ga_goto hR (pc := 41) 4 (by decide) dX10_begun_41 ?_
            exact ga_lv hR [2, 3, 1, 0] rfl (ih _ _ h)
    exact ga_lv hR [2, 3, 1, 0] rfl (L4 n _ _ h)

def rm_X10_goes : Room := { frames := 2, cells := 0, slots := 0, locals := 45 }
theorem hd_X10_goesS : yX10_goes.cls ≠ "java/lang/invoke/MethodHandle" ∧ yX10_goes.cls ≠ "java/lang/invoke/VarHandle" ∧ (parseMethodDescriptor yX10_goes.desc).map (fun d => d.parameters.length) = some 2 := by decide +kernel
theorem hd_X10_goes : yX10_goes.cls = RX10 ∧ yX10_goes.cls ≠ "java/lang/invoke/MethodHandle" ∧ yX10_goes.cls ≠ "java/lang/invoke/VarHandle" ∧ (parseMethodDescriptor yX10_goes.desc).map (fun d => d.parameters.length) = some 2 := ⟨rfl, hd_X10_goesS⟩
set_option maxHeartbeats 4000000 in
set_option maxRecDepth 100000 in
theorem c_X10_goes (V : ga_V) (a : Nat → Nat) (x_newRules : Int32) (x_newPlaces : Int32) (x_acts : Int32) (x_kept : Int32) (x_length : Int32) (x_next : Int32) (x_place : Int32) (x_isWrong : Int32) (x_parts : Int32) (x_without : Int32) (x_ways : Int32) (x_rules : Int32) (x_places : Int32) (x_rule : Nat → Int32) (x_takes : Nat → Int32) (x_behind : Nat → Int32) (x_slot : Nat → Int32) (p1 : Int32) (p2 : Int32) (K : Int32 → Prop) (h : wp_X10_goes x_rules x_places x_rule x_takes x_behind x_slot p1 p2 K) : ga_C V yX10_goes wsX10_goes rm_X10_goes [.ref (a 0), .int p1, .int p2] [(a 0, .inr (10, [.int x_rules, .int x_places, .ref (a 1), .ref (a 2), .ref (a 3), .int x_newRules, .int x_newPlaces, .ref (a 4), .ref (a 5), .ref (a 6), .ref (a 7), .ref (a 8), .int x_acts, .int x_kept, .int x_length, .ref (a 9), .int x_next, .int x_place, .int x_isWrong, .ref (a 10), .ref (a 11), .ref (a 12), .int x_parts, .int x_without, .ref (a 13), .ref (a 14), .ref (a 15), .ref (a 16), .int x_ways, .ref (a 17), .ref (a 18), .ref (a 19), .ref (a 20)])), (a 1, .inl (V.2 0, 12, .inl x_rule)), (a 2, .inl (V.2 0, 10, .inl x_takes)), (a 3, .inl (V.2 0, 10, .inl x_behind)), (a 8, .inl (V.2 0, 732, .inl x_slot))] 0 0 (ga_Fi (fun (u : Unit) => [(a 0, .inr (10, [.int x_rules, .int x_places, .ref (a 1), .ref (a 2), .ref (a 3), .int x_newRules, .int x_newPlaces, .ref (a 4), .ref (a 5), .ref (a 6), .ref (a 7), .ref (a 8), .int x_acts, .int x_kept, .int x_length, .ref (a 9), .int x_next, .int x_place, .int x_isWrong, .ref (a 10), .ref (a 11), .ref (a 12), .int x_parts, .int x_without, .ref (a 13), .ref (a 14), .ref (a 15), .ref (a 16), .int x_ways, .ref (a 17), .ref (a 18), .ref (a 19), .ref (a 20)])), (a 1, .inl (V.2 0, 12, .inl x_rule)), (a 2, .inl (V.2 0, 10, .inl x_takes)), (a 3, .inl (V.2 0, 10, .inl x_behind)), (a 8, .inl (V.2 0, 732, .inl x_slot))]) (fun r u => K r)) := by
  refine ga_met (cc := cX10_goes) (maxL := 10) (rt := (some .int)) (by decide) rfl [(0, .ref (a 0)), (1, .int p1), (2, .int p2)] rfl (Nat.le_of_ble_eq_true rfl) ?_
  intro G hR hE
  have hinX10 : ∀ w ∈ u_ws RX10 TX10 33, w ∈ wsX10_goes := by decide +kernel
  have f118 : Cond.fieldLink RX10 118 "BoundaryRulesModel" "rules" "I" ∈ wsX10_goes := by decide +kernel
  have f31 : Cond.fieldLink RX10 31 "BoundaryRulesModel" "slot" "[I" ∈ wsX10_goes := by decide +kernel
  have f7 : Cond.fieldLink RX10 7 "BoundaryRulesModel" "rule" "[I" ∈ wsX10_goes := by decide +kernel
  have f121 : Cond.fieldLink RX10 121 "BoundaryRulesModel" "places" "I" ∈ wsX10_goes := by decide +kernel
  have f16 : Cond.fieldLink RX10 16 "BoundaryRulesModel" "behind" "[I" ∈ wsX10_goes := by decide +kernel
  unfold wp_X10_goes at h
  refine ga_iconst hR (pc := 0) (v := nI 0) (by decide) dX10_goes_0 ?_
  refine ga_istore_n hR (pc := 1) (lv' := [(3, .int (nI 0)), (0, .ref (a 0)), (1, .int p1), (2, .int p2)]) rfl (by decide) rfl dX10_goes_1 ?_
  refine ga_iconst hR (pc := 2) (v := nI 0) (by decide) dX10_goes_2 ?_
  refine ga_istore hR (pc := 3) (lv' := [(4, .int (nI 0)), (3, .int (nI 0)), (0, .ref (a 0)), (1, .int p1), (2, .int p2)]) (by decide) rfl dX10_goes_3 ?_
  have hJ := h (fun (v3_1 : Int32) => G 0 0 [(a 0, .inr (10, [.int x_rules, .int x_places, .ref (a 1), .ref (a 2), .ref (a 3), .int x_newRules, .int x_newPlaces, .ref (a 4), .ref (a 5), .ref (a 6), .ref (a 7), .ref (a 8), .int x_acts, .int x_kept, .int x_length, .ref (a 9), .int x_next, .int x_place, .int x_isWrong, .ref (a 10), .ref (a 11), .ref (a 12), .int x_parts, .int x_without, .ref (a 13), .ref (a 14), .ref (a 15), .ref (a 16), .int x_ways, .ref (a 17), .ref (a 18), .ref (a 19), .ref (a 20)])), (a 1, .inl (V.2 0, 12, .inl x_rule)), (a 2, .inl (V.2 0, 10, .inl x_takes)), (a 3, .inl (V.2 0, 10, .inl x_behind)), (a 8, .inl (V.2 0, 732, .inl x_slot))] 150 [(3, .int v3_1)] [])
  refine ga_bind hJ ?_ ?_
  · intro v3_1 h
    show G 0 0 [(a 0, .inr (10, [.int x_rules, .int x_places, .ref (a 1), .ref (a 2), .ref (a 3), .int x_newRules, .int x_newPlaces, .ref (a 4), .ref (a 5), .ref (a 6), .ref (a 7), .ref (a 8), .int x_acts, .int x_kept, .int x_length, .ref (a 9), .int x_next, .int x_place, .int x_isWrong, .ref (a 10), .ref (a 11), .ref (a 12), .int x_parts, .int x_without, .ref (a 13), .ref (a 14), .ref (a 15), .ref (a 16), .int x_ways, .ref (a 17), .ref (a 18), .ref (a 19), .ref (a 20)])), (a 1, .inl (V.2 0, 12, .inl x_rule)), (a 2, .inl (V.2 0, 10, .inl x_takes)), (a 3, .inl (V.2 0, 10, .inl x_behind)), (a 8, .inl (V.2 0, 732, .inl x_slot))] 150 [(3, .int v3_1)] []
    refine ga_iload_n hR (pc := 150) 0 rfl rfl dX10_goes_150 ?_
    exact ga_iret hE dX10_goes_151 rfl (ga_ri () rfl h)
  · intro h
    obtain ⟨n, h⟩ := h
    have L5 : ∀ (n : Nat) (v3_28 : Int32) (v4_29 : Int32), lp_X10_goes_5 x_rules x_places x_rule x_takes x_behind x_slot p1 p2 (fun (v3_1 : Int32) => G 0 0 [(a 0, .inr (10, [.int x_rules, .int x_places, .ref (a 1), .ref (a 2), .ref (a 3), .int x_newRules, .int x_newPlaces, .ref (a 4), .ref (a 5), .ref (a 6), .ref (a 7), .ref (a 8), .int x_acts, .int x_kept, .int x_length, .ref (a 9), .int x_next, .int x_place, .int x_isWrong, .ref (a 10), .ref (a 11), .ref (a 12), .int x_parts, .int x_without, .ref (a 13), .ref (a 14), .ref (a 15), .ref (a 16), .int x_ways, .ref (a 17), .ref (a 18), .ref (a 19), .ref (a 20)])), (a 1, .inl (V.2 0, 12, .inl x_rule)), (a 2, .inl (V.2 0, 10, .inl x_takes)), (a 3, .inl (V.2 0, 10, .inl x_behind)), (a 8, .inl (V.2 0, 732, .inl x_slot))] 150 [(3, .int v3_1)] []) n v3_28 v4_29 → G 0 0 [(a 0, .inr (10, [.int x_rules, .int x_places, .ref (a 1), .ref (a 2), .ref (a 3), .int x_newRules, .int x_newPlaces, .ref (a 4), .ref (a 5), .ref (a 6), .ref (a 7), .ref (a 8), .int x_acts, .int x_kept, .int x_length, .ref (a 9), .int x_next, .int x_place, .int x_isWrong, .ref (a 10), .ref (a 11), .ref (a 12), .int x_parts, .int x_without, .ref (a 13), .ref (a 14), .ref (a 15), .ref (a 16), .int x_ways, .ref (a 17), .ref (a 18), .ref (a 19), .ref (a 20)])), (a 1, .inl (V.2 0, 12, .inl x_rule)), (a 2, .inl (V.2 0, 10, .inl x_takes)), (a 3, .inl (V.2 0, 10, .inl x_behind)), (a 8, .inl (V.2 0, 732, .inl x_slot))] 5 [(0, .ref (a 0)), (1, .int p1), (2, .int p2), (3, .int v3_28), (4, .int v4_29)] [] := by
      intro n
      induction n with
      | zero => exact fun _ _ h => False.elim h
      | succ n ih =>
        intro v3_28 v4_29 h
        rw [lp_X10_goes_5] at h
        refine ga_iload hR (pc := 5) 4 rfl dX10_goes_5 ?_
        refine ga_aload_n hR (pc := 7) 0 rfl rfl dX10_goes_7 ?_
        refine ga_get hR (pc := 8) 0 rfl rfl hinX10 0 (by decide) f118 rfl dX10_goes_8 ?_
        refine ga_icmp_ge hR (pc := 11) 150 (by decide) dX10_goes_11 (fun c11 => ?_) (fun c11 => ?_)
        · replace h := h.1 c11
          exact ga_lv hR [3] rfl h
        · replace h := h.2 c11
          refine ga_aload_n hR (pc := 14) 0 rfl rfl dX10_goes_14 ?_
          refine ga_get hR (pc := 15) 0 rfl rfl hinX10 11 (by decide) f31 rfl dX10_goes_15 ?_
          refine ga_bipush hR (pc := 18) (v := nI 26) (by decide) dX10_goes_18 ?_
          refine ga_iload hR (pc := 20) 4 rfl dX10_goes_20 ?_
          refine ga_iadd hR (pc := 22) dX10_goes_22 ?_
          refine ga_iald hR (pc := 23) 4 rfl h.1 dX10_goes_23 ?_
          replace h := h.2
          refine ga_topi (fun v5_30 ev5_30 => ?_)
          replace h := h v5_30 ev5_30
          refine ga_istore hR (pc := 24) (lv' := [(5, .int v5_30), (0, .ref (a 0)), (1, .int p1), (2, .int p2), (3, .int v3_28), (4, .int v4_29)]) (by decide) rfl dX10_goes_24 ?_
          refine ga_iload_n hR (pc := 26) 2 rfl rfl dX10_goes_26 ?_
          refine ga_aload_n hR (pc := 27) 1 rfl rfl dX10_goes_27 ?_
          refine ga_get hR (pc := 28) 0 rfl rfl hinX10 2 (by decide) f7 rfl dX10_goes_28 ?_
          refine ga_bipush hR (pc := 31) (v := nI 8) (by decide) dX10_goes_31 ?_
          refine ga_iload hR (pc := 33) 5 rfl dX10_goes_33 ?_
          refine ga_iadd hR (pc := 35) dX10_goes_35 ?_
          refine ga_iald hR (pc := 36) 1 rfl h.1 dX10_goes_36 ?_
          replace h := h.2
          refine ga_iand hR (pc := 37) dX10_goes_37 ?_
          refine ga_topi (fun v6_31 ev6_31 => ?_)
          replace h := h v6_31 ev6_31
          refine ga_istore hR (pc := 38) (lv' := [(6, .int v6_31), (5, .int v5_30), (0, .ref (a 0)), (1, .int p1), (2, .int p2), (3, .int v3_28), (4, .int v4_29)]) (by decide) rfl dX10_goes_38 ?_
          refine ga_iload hR (pc := 40) 1 rfl dX10_goes_40 ?_
          refine ga_iconst hR (pc := 42) (v := nI 1) (by decide) dX10_goes_42 ?_
          have hJ := h (fun (s0_32 : Int32) => G 0 0 [(a 0, .inr (10, [.int x_rules, .int x_places, .ref (a 1), .ref (a 2), .ref (a 3), .int x_newRules, .int x_newPlaces, .ref (a 4), .ref (a 5), .ref (a 6), .ref (a 7), .ref (a 8), .int x_acts, .int x_kept, .int x_length, .ref (a 9), .int x_next, .int x_place, .int x_isWrong, .ref (a 10), .ref (a 11), .ref (a 12), .int x_parts, .int x_without, .ref (a 13), .ref (a 14), .ref (a 15), .ref (a 16), .int x_ways, .ref (a 17), .ref (a 18), .ref (a 19), .ref (a 20)])), (a 1, .inl (V.2 0, 12, .inl x_rule)), (a 2, .inl (V.2 0, 10, .inl x_takes)), (a 3, .inl (V.2 0, 10, .inl x_behind)), (a 8, .inl (V.2 0, 732, .inl x_slot))] 65 [(0, .ref (a 0)), (1, .int p1), (2, .int p2), (3, .int v3_28), (4, .int v4_29), (5, .int v5_30), (6, .int v6_31)] [.int s0_32])
          refine ga_bind hJ ?_ ?_
          · intro s0_32 h
            show G 0 0 [(a 0, .inr (10, [.int x_rules, .int x_places, .ref (a 1), .ref (a 2), .ref (a 3), .int x_newRules, .int x_newPlaces, .ref (a 4), .ref (a 5), .ref (a 6), .ref (a 7), .ref (a 8), .int x_acts, .int x_kept, .int x_length, .ref (a 9), .int x_next, .int x_place, .int x_isWrong, .ref (a 10), .ref (a 11), .ref (a 12), .int x_parts, .int x_without, .ref (a 13), .ref (a 14), .ref (a 15), .ref (a 16), .int x_ways, .ref (a 17), .ref (a 18), .ref (a 19), .ref (a 20)])), (a 1, .inl (V.2 0, 12, .inl x_rule)), (a 2, .inl (V.2 0, 10, .inl x_takes)), (a 3, .inl (V.2 0, 10, .inl x_behind)), (a 8, .inl (V.2 0, 732, .inl x_slot))] 65 [(0, .ref (a 0)), (1, .int p1), (2, .int p2), (3, .int v3_28), (4, .int v4_29), (5, .int v5_30), (6, .int v6_31)] [.int s0_32]
            refine ga_istore hR (pc := 65) (lv' := [(7, .int s0_32), (0, .ref (a 0)), (1, .int p1), (2, .int p2), (3, .int v3_28), (4, .int v4_29), (5, .int v5_30), (6, .int v6_31)]) (by decide) rfl dX10_goes_65 ?_
            refine ga_iconst hR (pc := 67) (v := nI 0) (by decide) dX10_goes_67 ?_
            refine ga_istore hR (pc := 68) (lv' := [(8, .int (nI 0)), (7, .int s0_32), (0, .ref (a 0)), (1, .int p1), (2, .int p2), (3, .int v3_28), (4, .int v4_29), (5, .int v5_30), (6, .int v6_31)]) (by decide) rfl dX10_goes_68 ?_
            refine ga_iconst hR (pc := 70) (v := nI 0) (by decide) dX10_goes_70 ?_
            refine ga_istore hR (pc := 71) (lv' := [(9, .int (nI 0)), (8, .int (nI 0)), (7, .int s0_32), (0, .ref (a 0)), (1, .int p1), (2, .int p2), (3, .int v3_28), (4, .int v4_29), (5, .int v5_30), (6, .int v6_31)]) (by decide) rfl dX10_goes_71 ?_
            have hJ := h (fun (v8_34 : Int32) => G 0 0 [(a 0, .inr (10, [.int x_rules, .int x_places, .ref (a 1), .ref (a 2), .ref (a 3), .int x_newRules, .int x_newPlaces, .ref (a 4), .ref (a 5), .ref (a 6), .ref (a 7), .ref (a 8), .int x_acts, .int x_kept, .int x_length, .ref (a 9), .int x_next, .int x_place, .int x_isWrong, .ref (a 10), .ref (a 11), .ref (a 12), .int x_parts, .int x_without, .ref (a 13), .ref (a 14), .ref (a 15), .ref (a 16), .int x_ways, .ref (a 17), .ref (a 18), .ref (a 19), .ref (a 20)])), (a 1, .inl (V.2 0, 12, .inl x_rule)), (a 2, .inl (V.2 0, 10, .inl x_takes)), (a 3, .inl (V.2 0, 10, .inl x_behind)), (a 8, .inl (V.2 0, 732, .inl x_slot))] 114 [(0, .ref (a 0)), (1, .int p1), (2, .int p2), (3, .int v3_28), (4, .int v4_29), (5, .int v5_30), (6, .int v6_31), (8, .int v8_34)] [])
            refine ga_bind hJ ?_ ?_
            · intro v8_34 h
              show G 0 0 [(a 0, .inr (10, [.int x_rules, .int x_places, .ref (a 1), .ref (a 2), .ref (a 3), .int x_newRules, .int x_newPlaces, .ref (a 4), .ref (a 5), .ref (a 6), .ref (a 7), .ref (a 8), .int x_acts, .int x_kept, .int x_length, .ref (a 9), .int x_next, .int x_place, .int x_isWrong, .ref (a 10), .ref (a 11), .ref (a 12), .int x_parts, .int x_without, .ref (a 13), .ref (a 14), .ref (a 15), .ref (a 16), .int x_ways, .ref (a 17), .ref (a 18), .ref (a 19), .ref (a 20)])), (a 1, .inl (V.2 0, 12, .inl x_rule)), (a 2, .inl (V.2 0, 10, .inl x_takes)), (a 3, .inl (V.2 0, 10, .inl x_behind)), (a 8, .inl (V.2 0, 732, .inl x_slot))] 114 [(0, .ref (a 0)), (1, .int p1), (2, .int p2), (3, .int v3_28), (4, .int v4_29), (5, .int v5_30), (6, .int v6_31), (8, .int v8_34)] []
              refine ga_iload_n hR (pc := 114) 3 rfl rfl dX10_goes_114 ?_
              refine ga_aload_n hR (pc := 115) 0 rfl rfl dX10_goes_115 ?_
              refine ga_iload hR (pc := 116) 7 rfl dX10_goes_116 ?_
              refine ga_iload_n hR (pc := 118) 2 rfl rfl dX10_goes_118 ?_
              refine ga_callV hR (pc := 119) (As := [.int v8_34, .int p2]) (rest := [.int v3_28]) (st0 := [.int p2, .int v8_34, .ref (a 0), .int v3_28]) (b := (a 0)) 2 (c_X10_taking V a x_rules x_newRules x_newPlaces x_acts x_kept x_length x_next x_place x_isWrong x_parts x_without x_ways x_places x_takes v8_34 p2 _ h) (ga_same_i fun _ => rfl) gX10_goes_X10_taking rfl rfl rfl hd_X10_taking ⟨Nat.le_of_ble_eq_true rfl, Nat.le_of_ble_eq_true rfl⟩ rfl rfl (Nat.le_of_ble_eq_true rfl) ⟨Nat.zero_le _, Nat.zero_le _⟩ [0, 2] rfl rfl 0 rfl rfl dX10_goes_119 ?_
              rintro _ _ ⟨r_36, ⟨⟩, rfl, rfl, h⟩
              refine ga_to [(a 0, .inr (10, [.int x_rules, .int x_places, .ref (a 1), .ref (a 2), .ref (a 3), .int x_newRules, .int x_newPlaces, .ref (a 4), .ref (a 5), .ref (a 6), .ref (a 7), .ref (a 8), .int x_acts, .int x_kept, .int x_length, .ref (a 9), .int x_next, .int x_place, .int x_isWrong, .ref (a 10), .ref (a 11), .ref (a 12), .int x_parts, .int x_without, .ref (a 13), .ref (a 14), .ref (a 15), .ref (a 16), .int x_ways, .ref (a 17), .ref (a 18), .ref (a 19), .ref (a 20)])), (a 1, .inl (V.2 0, 12, .inl x_rule)), (a 2, .inl (V.2 0, 10, .inl x_takes)), (a 3, .inl (V.2 0, 10, .inl x_behind)), (a 8, .inl (V.2 0, 732, .inl x_slot))] [.int r_36, .int v3_28] rfl rfl ?_
              try dsimp only at h
              refine ga_iload_n hR (pc := 122) 2 rfl rfl dX10_goes_122 ?_
              refine ga_iconst hR (pc := 123) (v := nI 5) (by decide) dX10_goes_123 ?_
              refine ga_icmp_ne hR (pc := 124) 140 (by decide) dX10_goes_124 (fun c124 => ?_) (fun c124 => ?_)
              · replace h := h.1 c124
                refine ga_iconst hR (pc := 140) (v := nI 0) (by decide) dX10_goes_140 ?_
                refine ga_ior hR (pc := 141) dX10_goes_141 ?_
                refine ga_ior hR (pc := 142) dX10_goes_142 ?_
                refine ga_topi (fun v3_37 ev3_37 => ?_)
                replace h := h v3_37 ev3_37
                refine ga_istore_n hR (pc := 143) (lv' := [(3, .int v3_37), (0, .ref (a 0)), (1, .int p1), (2, .int p2), (4, .int v4_29), (5, .int v5_30), (6, .int v6_31), (8, .int v8_34)]) rfl (by decide) rfl dX10_goes_143 ?_
                obtain ⟨v4_38, ev4_38⟩ : ∃ v : Int32, v = v4_29 + (nI 1) := ⟨_, rfl⟩
                replace h := h v4_38 ev4_38
                refine ga_iinc hR (pc := 144) (lv' := [(4, .int v4_38), (3, .int v3_37), (0, .ref (a 0)), (1, .int p1), (2, .int p2), (5, .int v5_30), (6, .int v6_31), (8, .int v8_34)]) 4 (by decide) rfl ev4_38 (by decide) rfl dX10_goes_144 ?_
                refine ga_goto hR (pc := 147) 5 (by decide) dX10_goes_147 ?_
                exact ga_lv hR [2, 3, 4, 1, 0] rfl (ih _ _ h)
              · replace h := h.2 c124
                refine ga_iload hR (pc := 127) 5 rfl dX10_goes_127 ?_
                refine ga_iconst hR (pc := 129) (v := nI 2) (by decide) dX10_goes_129 ?_
                refine ga_irem hR (pc := 130) (by decide) dX10_goes_130 ?_
                refine ga_iconst hR (pc := 131) (v := nI 1) (by decide) dX10_goes_131 ?_
                refine ga_icmp_ne hR (pc := 132) 140 (by decide) dX10_goes_132 (fun c132 => ?_) (fun c132 => ?_)
                · replace h := h.1 c132
                  refine ga_iconst hR (pc := 140) (v := nI 0) (by decide) dX10_goes_140 ?_
                  refine ga_ior hR (pc := 141) dX10_goes_141 ?_
                  refine ga_ior hR (pc := 142) dX10_goes_142 ?_
                  refine ga_topi (fun v3_39 ev3_39 => ?_)
                  replace h := h v3_39 ev3_39
                  refine ga_istore_n hR (pc := 143) (lv' := [(3, .int v3_39), (0, .ref (a 0)), (1, .int p1), (2, .int p2), (4, .int v4_29), (5, .int v5_30), (6, .int v6_31), (8, .int v8_34)]) rfl (by decide) rfl dX10_goes_143 ?_
                  obtain ⟨v4_40, ev4_40⟩ : ∃ v : Int32, v = v4_29 + (nI 1) := ⟨_, rfl⟩
                  replace h := h v4_40 ev4_40
                  refine ga_iinc hR (pc := 144) (lv' := [(4, .int v4_40), (3, .int v3_39), (0, .ref (a 0)), (1, .int p1), (2, .int p2), (5, .int v5_30), (6, .int v6_31), (8, .int v8_34)]) 4 (by decide) rfl ev4_40 (by decide) rfl dX10_goes_144 ?_
                  refine ga_goto hR (pc := 147) 5 (by decide) dX10_goes_147 ?_
                  exact ga_lv hR [2, 3, 4, 1, 0] rfl (ih _ _ h)
                · replace h := h.2 c132
                  refine ga_iload hR (pc := 135) 6 rfl dX10_goes_135 ?_
                  refine ga_goto hR (pc := 137) 141 (by decide) dX10_goes_137 ?_
                  refine ga_ior hR (pc := 141) dX10_goes_141 ?_
                  refine ga_ior hR (pc := 142) dX10_goes_142 ?_
                  refine ga_topi (fun v3_41 ev3_41 => ?_)
                  replace h := h v3_41 ev3_41
                  refine ga_istore_n hR (pc := 143) (lv' := [(3, .int v3_41), (0, .ref (a 0)), (1, .int p1), (2, .int p2), (4, .int v4_29), (5, .int v5_30), (6, .int v6_31), (8, .int v8_34)]) rfl (by decide) rfl dX10_goes_143 ?_
                  obtain ⟨v4_42, ev4_42⟩ : ∃ v : Int32, v = v4_29 + (nI 1) := ⟨_, rfl⟩
                  replace h := h v4_42 ev4_42
                  refine ga_iinc hR (pc := 144) (lv' := [(4, .int v4_42), (3, .int v3_41), (0, .ref (a 0)), (1, .int p1), (2, .int p2), (5, .int v5_30), (6, .int v6_31), (8, .int v8_34)]) 4 (by decide) rfl ev4_42 (by decide) rfl dX10_goes_144 ?_
                  refine ga_goto hR (pc := 147) 5 (by decide) dX10_goes_147 ?_
                  exact ga_lv hR [2, 3, 4, 1, 0] rfl (ih _ _ h)
            · intro h
              obtain ⟨n, h⟩ := h
              have L73 : ∀ (n : Nat) (v8_43 : Int32) (v9_44 : Int32), lp_X10_goes_73 x_places x_behind s0_32 (fun (v8_34 : Int32) => G 0 0 [(a 0, .inr (10, [.int x_rules, .int x_places, .ref (a 1), .ref (a 2), .ref (a 3), .int x_newRules, .int x_newPlaces, .ref (a 4), .ref (a 5), .ref (a 6), .ref (a 7), .ref (a 8), .int x_acts, .int x_kept, .int x_length, .ref (a 9), .int x_next, .int x_place, .int x_isWrong, .ref (a 10), .ref (a 11), .ref (a 12), .int x_parts, .int x_without, .ref (a 13), .ref (a 14), .ref (a 15), .ref (a 16), .int x_ways, .ref (a 17), .ref (a 18), .ref (a 19), .ref (a 20)])), (a 1, .inl (V.2 0, 12, .inl x_rule)), (a 2, .inl (V.2 0, 10, .inl x_takes)), (a 3, .inl (V.2 0, 10, .inl x_behind)), (a 8, .inl (V.2 0, 732, .inl x_slot))] 114 [(0, .ref (a 0)), (1, .int p1), (2, .int p2), (3, .int v3_28), (4, .int v4_29), (5, .int v5_30), (6, .int v6_31), (8, .int v8_34)] []) n v8_43 v9_44 → G 0 0 [(a 0, .inr (10, [.int x_rules, .int x_places, .ref (a 1), .ref (a 2), .ref (a 3), .int x_newRules, .int x_newPlaces, .ref (a 4), .ref (a 5), .ref (a 6), .ref (a 7), .ref (a 8), .int x_acts, .int x_kept, .int x_length, .ref (a 9), .int x_next, .int x_place, .int x_isWrong, .ref (a 10), .ref (a 11), .ref (a 12), .int x_parts, .int x_without, .ref (a 13), .ref (a 14), .ref (a 15), .ref (a 16), .int x_ways, .ref (a 17), .ref (a 18), .ref (a 19), .ref (a 20)])), (a 1, .inl (V.2 0, 12, .inl x_rule)), (a 2, .inl (V.2 0, 10, .inl x_takes)), (a 3, .inl (V.2 0, 10, .inl x_behind)), (a 8, .inl (V.2 0, 732, .inl x_slot))] 73 [(0, .ref (a 0)), (1, .int p1), (2, .int p2), (3, .int v3_28), (4, .int v4_29), (5, .int v5_30), (6, .int v6_31), (7, .int s0_32), (8, .int v8_43), (9, .int v9_44)] [] := by
                intro n
                induction n with
                | zero => exact fun _ _ h => False.elim h
                | succ n ih =>
                  intro v8_43 v9_44 h
                  rw [lp_X10_goes_73] at h
                  refine ga_iload hR (pc := 73) 9 rfl dX10_goes_73 ?_
                  refine ga_aload_n hR (pc := 75) 0 rfl rfl dX10_goes_75 ?_
                  refine ga_get hR (pc := 76) 0 rfl rfl hinX10 1 (by decide) f121 rfl dX10_goes_76 ?_
                  refine ga_icmp_ge hR (pc := 79) 114 (by decide) dX10_goes_79 (fun c79 => ?_) (fun c79 => ?_)
                  · replace h := h.1 c79
                    exact ga_lv hR [0, 1, 2, 3, 4, 5, 6, 8] rfl h
                  · replace h := h.2 c79
                    refine ga_iload hR (pc := 82) 8 rfl dX10_goes_82 ?_
                    refine ga_iload hR (pc := 84) 7 rfl dX10_goes_84 ?_
                    refine ga_iload hR (pc := 86) 9 rfl dX10_goes_86 ?_
                    refine ga_callS hR (pc := 88) (As := [.int s0_32, .int v9_44]) (rest := [.int v8_43]) (st0 := [.int v9_44, .int s0_32, .int v8_43]) 2 (c_X10_has V s0_32 v9_44 _ h) (ga_same_i fun _ => rfl) gX10_goes_X10_has rfl rfl rfl hd_X10_hasS ⟨Nat.le_of_ble_eq_true rfl, Nat.le_of_ble_eq_true rfl⟩ rfl rfl (Nat.le_of_ble_eq_true rfl) ⟨Nat.zero_le _, Nat.zero_le _⟩ [] rfl rfl dX10_goes_88 ?_
                    rintro _ _ ⟨r_45, ⟨⟩, rfl, rfl, h⟩
                    refine ga_to [(a 0, .inr (10, [.int x_rules, .int x_places, .ref (a 1), .ref (a 2), .ref (a 3), .int x_newRules, .int x_newPlaces, .ref (a 4), .ref (a 5), .ref (a 6), .ref (a 7), .ref (a 8), .int x_acts, .int x_kept, .int x_length, .ref (a 9), .int x_next, .int x_place, .int x_isWrong, .ref (a 10), .ref (a 11), .ref (a 12), .int x_parts, .int x_without, .ref (a 13), .ref (a 14), .ref (a 15), .ref (a 16), .int x_ways, .ref (a 17), .ref (a 18), .ref (a 19), .ref (a 20)])), (a 1, .inl (V.2 0, 12, .inl x_rule)), (a 2, .inl (V.2 0, 10, .inl x_takes)), (a 3, .inl (V.2 0, 10, .inl x_behind)), (a 8, .inl (V.2 0, 732, .inl x_slot))] [.int r_45, .int v8_43] rfl rfl ?_
                    try dsimp only at h
                    refine ga_if_eq hR (pc := 91) 104 (by decide) dX10_goes_91 (fun c91 => ?_) (fun c91 => ?_)
                    · replace h := h.1 c91
                      refine ga_iconst hR (pc := 104) (v := nI 0) (by decide) dX10_goes_104 ?_
                      refine ga_ior hR (pc := 105) dX10_goes_105 ?_
                      refine ga_topi (fun v8_46 ev8_46 => ?_)
                      replace h := h v8_46 ev8_46
                      refine ga_istore hR (pc := 106) (lv' := [(8, .int v8_46), (0, .ref (a 0)), (1, .int p1), (2, .int p2), (3, .int v3_28), (4, .int v4_29), (5, .int v5_30), (6, .int v6_31), (7, .int s0_32), (9, .int v9_44)]) (by decide) rfl dX10_goes_106 ?_
                      obtain ⟨v9_47, ev9_47⟩ : ∃ v : Int32, v = v9_44 + (nI 1) := ⟨_, rfl⟩
                      replace h := h v9_47 ev9_47
                      refine ga_iinc hR (pc := 108) (lv' := [(9, .int v9_47), (8, .int v8_46), (0, .ref (a 0)), (1, .int p1), (2, .int p2), (3, .int v3_28), (4, .int v4_29), (5, .int v5_30), (6, .int v6_31), (7, .int s0_32)]) 9 (by decide) rfl ev9_47 (by decide) rfl dX10_goes_108 ?_
                      refine ga_goto hR (pc := 111) 73 (by decide) dX10_goes_111 ?_
                      exact ga_lv hR [2, 3, 4, 5, 6, 7, 8, 9, 1, 0] rfl (ih _ _ h)
                    · replace h := h.2 c91
                      refine ga_aload_n hR (pc := 94) 0 rfl rfl dX10_goes_94 ?_
                      refine ga_get hR (pc := 95) 0 rfl rfl hinX10 4 (by decide) f16 rfl dX10_goes_95 ?_
                      refine ga_iload hR (pc := 98) 9 rfl dX10_goes_98 ?_
                      refine ga_iald hR (pc := 100) 3 rfl h.1 dX10_goes_100 ?_
                      replace h := h.2
                      refine ga_goto hR (pc := 101) 105 (by decide) dX10_goes_101 ?_
                      refine ga_ior hR (pc := 105) dX10_goes_105 ?_
                      refine ga_topi (fun v8_48 ev8_48 => ?_)
                      replace h := h v8_48 ev8_48
                      refine ga_istore hR (pc := 106) (lv' := [(8, .int v8_48), (0, .ref (a 0)), (1, .int p1), (2, .int p2), (3, .int v3_28), (4, .int v4_29), (5, .int v5_30), (6, .int v6_31), (7, .int s0_32), (9, .int v9_44)]) (by decide) rfl dX10_goes_106 ?_
                      obtain ⟨v9_49, ev9_49⟩ : ∃ v : Int32, v = v9_44 + (nI 1) := ⟨_, rfl⟩
                      replace h := h v9_49 ev9_49
                      refine ga_iinc hR (pc := 108) (lv' := [(9, .int v9_49), (8, .int v8_48), (0, .ref (a 0)), (1, .int p1), (2, .int p2), (3, .int v3_28), (4, .int v4_29), (5, .int v5_30), (6, .int v6_31), (7, .int s0_32)]) 9 (by decide) rfl ev9_49 (by decide) rfl dX10_goes_108 ?_
                      refine ga_goto hR (pc := 111) 73 (by decide) dX10_goes_111 ?_
                      exact ga_lv hR [2, 3, 4, 5, 6, 7, 8, 9, 1, 0] rfl (ih _ _ h)
              exact ga_lv hR [3, 4, 5, 6, 7, 8, 9, 2, 1, 0] rfl (L73 n _ _ h)
          · intro h
            refine ga_icmp_le hR (pc := 43) 63 (by decide) dX10_goes_43 (fun c43 => ?_) (fun c43 => ?_)
            · replace h := h.1 c43
              refine ga_iload hR (pc := 63) 0 rfl dX10_goes_63 ?_
              exact ga_lv hR [2, 3, 4, 5, 6, 1, 0] rfl h
            · replace h := h.2 c43
              refine ga_iload hR (pc := 46) 0 rfl dX10_goes_46 ?_
              refine ga_aload_n hR (pc := 48) 2 rfl rfl dX10_goes_48 ?_
              refine ga_get hR (pc := 49) 0 rfl rfl hinX10 2 (by decide) f7 rfl dX10_goes_49 ?_
              refine ga_iconst hR (pc := 52) (v := nI 4) (by decide) dX10_goes_52 ?_
              refine ga_iload hR (pc := 53) 6 rfl dX10_goes_53 ?_
              refine ga_iadd hR (pc := 55) dX10_goes_55 ?_
              refine ga_iald hR (pc := 56) 1 rfl h.1 dX10_goes_56 ?_
              replace h := h.2
              refine ga_iconst hR (pc := 57) (v := -1) (by decide) dX10_goes_57 ?_
              refine ga_ixor hR (pc := 58) dX10_goes_58 ?_
              refine ga_iand hR (pc := 59) dX10_goes_59 ?_
              refine ga_goto hR (pc := 60) 65 (by decide) dX10_goes_60 ?_
              exact ga_lv hR [2, 3, 4, 5, 6, 1, 0] rfl h
    exact ga_lv hR [2, 3, 4, 1, 0] rfl (L5 n _ _ h)

def rm_X10_walks : Room := { frames := 3, cells := 0, slots := 0, locals := 74 }
theorem hd_X10_walksS : yX10_walks.cls ≠ "java/lang/invoke/MethodHandle" ∧ yX10_walks.cls ≠ "java/lang/invoke/VarHandle" ∧ (parseMethodDescriptor yX10_walks.desc).map (fun d => d.parameters.length) = some 1 := by decide +kernel
theorem hd_X10_walks : yX10_walks.cls = RX10 ∧ yX10_walks.cls ≠ "java/lang/invoke/MethodHandle" ∧ yX10_walks.cls ≠ "java/lang/invoke/VarHandle" ∧ (parseMethodDescriptor yX10_walks.desc).map (fun d => d.parameters.length) = some 1 := ⟨rfl, hd_X10_walksS⟩
set_option maxHeartbeats 4000000 in
set_option maxRecDepth 100000 in
theorem c_X10_walks (V : ga_V) (a : Nat → Nat) (x_newRules : Int32) (x_newPlaces : Int32) (x_acts : Int32) (x_kept : Int32) (x_length : Int32) (x_next : Int32) (x_place : Int32) (x_isWrong : Int32) (x_parts : Int32) (x_ways : Int32) (x_rules : Int32) (x_places : Int32) (x_without : Int32) (x_rule : Nat → Int32) (x_takes : Nat → Int32) (x_behind : Nat → Int32) (x_slot : Nat → Int32) (x_stood : Nat → Int32) (x_parted : Nat → Int32) (p1 : Int32) (K : (Nat → Int32) → (Nat → Int32) → Prop) (h : wp_X10_walks x_rules x_places x_without x_rule x_takes x_behind x_slot x_stood x_parted p1 K) : ga_C V yX10_walks wsX10_walks rm_X10_walks [.ref (a 0), .int p1] [(a 0, .inr (10, [.int x_rules, .int x_places, .ref (a 1), .ref (a 2), .ref (a 3), .int x_newRules, .int x_newPlaces, .ref (a 4), .ref (a 5), .ref (a 6), .ref (a 7), .ref (a 8), .int x_acts, .int x_kept, .int x_length, .ref (a 9), .int x_next, .int x_place, .int x_isWrong, .ref (a 10), .ref (a 11), .ref (a 12), .int x_parts, .int x_without, .ref (a 13), .ref (a 14), .ref (a 15), .ref (a 16), .int x_ways, .ref (a 17), .ref (a 18), .ref (a 19), .ref (a 20)])), (a 1, .inl (V.2 0, 12, .inl x_rule)), (a 2, .inl (V.2 0, 10, .inl x_takes)), (a 3, .inl (V.2 0, 10, .inl x_behind)), (a 8, .inl (V.2 0, 732, .inl x_slot)), (a 13, .inl (V.2 0, 31, .inl x_stood)), (a 14, .inl (V.2 1, 31, .inl x_parted))] 0 0 (ga_Fv (fun (u : (Nat → Int32) × (Nat → Int32)) => [(a 0, .inr (10, [.int x_rules, .int x_places, .ref (a 1), .ref (a 2), .ref (a 3), .int x_newRules, .int x_newPlaces, .ref (a 4), .ref (a 5), .ref (a 6), .ref (a 7), .ref (a 8), .int x_acts, .int x_kept, .int x_length, .ref (a 9), .int x_next, .int x_place, .int x_isWrong, .ref (a 10), .ref (a 11), .ref (a 12), .int x_parts, .int x_without, .ref (a 13), .ref (a 14), .ref (a 15), .ref (a 16), .int x_ways, .ref (a 17), .ref (a 18), .ref (a 19), .ref (a 20)])), (a 1, .inl (V.2 0, 12, .inl x_rule)), (a 2, .inl (V.2 0, 10, .inl x_takes)), (a 3, .inl (V.2 0, 10, .inl x_behind)), (a 8, .inl (V.2 0, 732, .inl x_slot)), (a 13, .inl (V.2 0, 31, .inl u.1)), (a 14, .inl (V.2 1, 31, .inl u.2))]) (fun u => K u.1 u.2)) := by
  refine ga_met (cc := cX10_walks) (maxL := 6) (rt := none) (by decide) rfl [(0, .ref (a 0)), (1, .int p1)] rfl (Nat.le_of_ble_eq_true rfl) ?_
  intro G hR hE
  have hinX10 : ∀ w ∈ u_ws RX10 TX10 33, w ∈ wsX10_walks := by decide +kernel
  have f51 : Cond.fieldLink RX10 51 "BoundaryRulesModel" "parted" "[Z" ∈ wsX10_walks := by decide +kernel
  have f31 : Cond.fieldLink RX10 31 "BoundaryRulesModel" "slot" "[I" ∈ wsX10_walks := by decide +kernel
  have f48 : Cond.fieldLink RX10 48 "BoundaryRulesModel" "stood" "[I" ∈ wsX10_walks := by decide +kernel
  unfold wp_X10_walks at h
  refine ga_iconst hR (pc := 0) (v := nI 0) (by decide) dX10_walks_0 ?_
  refine ga_istore_n hR (pc := 1) (lv' := [(2, .int (nI 0)), (0, .ref (a 0)), (1, .int p1)]) rfl (by decide) rfl dX10_walks_1 ?_
  refine ga_iconst hR (pc := 2) (v := nI 0) (by decide) dX10_walks_2 ?_
  refine ga_istore_n hR (pc := 3) (lv' := [(3, .int (nI 0)), (2, .int (nI 0)), (0, .ref (a 0)), (1, .int p1)]) rfl (by decide) rfl dX10_walks_3 ?_
  have hJ := h (fun (x_stood_1 : Nat → Int32) (x_parted_2 : Nat → Int32) => G 0 0 [(a 0, .inr (10, [.int x_rules, .int x_places, .ref (a 1), .ref (a 2), .ref (a 3), .int x_newRules, .int x_newPlaces, .ref (a 4), .ref (a 5), .ref (a 6), .ref (a 7), .ref (a 8), .int x_acts, .int x_kept, .int x_length, .ref (a 9), .int x_next, .int x_place, .int x_isWrong, .ref (a 10), .ref (a 11), .ref (a 12), .int x_parts, .int x_without, .ref (a 13), .ref (a 14), .ref (a 15), .ref (a 16), .int x_ways, .ref (a 17), .ref (a 18), .ref (a 19), .ref (a 20)])), (a 1, .inl (V.2 0, 12, .inl x_rule)), (a 2, .inl (V.2 0, 10, .inl x_takes)), (a 3, .inl (V.2 0, 10, .inl x_behind)), (a 8, .inl (V.2 0, 732, .inl x_slot)), (a 13, .inl (V.2 0, 31, .inl x_stood_1)), (a 14, .inl (V.2 1, 31, .inl x_parted_2))] 102 [(0, .ref (a 0)), (1, .int p1)] [])
  refine ga_bind hJ ?_ ?_
  · intro x_stood_1 x_parted_2 h
    show G 0 0 [(a 0, .inr (10, [.int x_rules, .int x_places, .ref (a 1), .ref (a 2), .ref (a 3), .int x_newRules, .int x_newPlaces, .ref (a 4), .ref (a 5), .ref (a 6), .ref (a 7), .ref (a 8), .int x_acts, .int x_kept, .int x_length, .ref (a 9), .int x_next, .int x_place, .int x_isWrong, .ref (a 10), .ref (a 11), .ref (a 12), .int x_parts, .int x_without, .ref (a 13), .ref (a 14), .ref (a 15), .ref (a 16), .int x_ways, .ref (a 17), .ref (a 18), .ref (a 19), .ref (a 20)])), (a 1, .inl (V.2 0, 12, .inl x_rule)), (a 2, .inl (V.2 0, 10, .inl x_takes)), (a 3, .inl (V.2 0, 10, .inl x_behind)), (a 8, .inl (V.2 0, 732, .inl x_slot)), (a 13, .inl (V.2 0, 31, .inl x_stood_1)), (a 14, .inl (V.2 1, 31, .inl x_parted_2))] 102 [(0, .ref (a 0)), (1, .int p1)] []
    refine ga_aload_n hR (pc := 102) 0 rfl rfl dX10_walks_102 ?_
    refine ga_get hR (pc := 103) 0 rfl rfl hinX10 25 (by decide) f51 rfl dX10_walks_103 ?_
    refine ga_aload_n hR (pc := 106) 0 rfl rfl dX10_walks_106 ?_
    refine ga_get hR (pc := 107) 0 rfl rfl hinX10 11 (by decide) f31 rfl dX10_walks_107 ?_
    refine ga_iload_n hR (pc := 110) 1 rfl rfl dX10_walks_110 ?_
    refine ga_bipush hR (pc := 111) (v := nI 30) (by decide) dX10_walks_111 ?_
    refine ga_iadd hR (pc := 113) dX10_walks_113 ?_
    refine ga_iald hR (pc := 114) 4 rfl h.1 dX10_walks_114 ?_
    replace h := h.2
    refine ga_iconst hR (pc := 115) (v := nI 1) (by decide) dX10_walks_115 ?_
    refine ga_zast hR (pc := 116) (ws' := [(a 0, .inr (10, [.int x_rules, .int x_places, .ref (a 1), .ref (a 2), .ref (a 3), .int x_newRules, .int x_newPlaces, .ref (a 4), .ref (a 5), .ref (a 6), .ref (a 7), .ref (a 8), .int x_acts, .int x_kept, .int x_length, .ref (a 9), .int x_next, .int x_place, .int x_isWrong, .ref (a 10), .ref (a 11), .ref (a 12), .int x_parts, .int x_without, .ref (a 13), .ref (a 14), .ref (a 15), .ref (a 16), .int x_ways, .ref (a 17), .ref (a 18), .ref (a 19), .ref (a 20)])), (a 1, .inl (V.2 0, 12, .inl x_rule)), (a 2, .inl (V.2 0, 10, .inl x_takes)), (a 3, .inl (V.2 0, 10, .inl x_behind)), (a 8, .inl (V.2 0, 732, .inl x_slot)), (a 13, .inl (V.2 0, 31, .inl x_stood_1)), (a 14, .inl (V.2 1, 31, .inl ((upd x_parted_2 (x_slot (p1 + (nI 30)).toNatClampNeg).toNatClampNeg (vp_nar .boolean (nI 1))))))]) 6 rfl h.1 rfl dX10_walks_116 ?_
    replace h := h.2
    obtain ⟨x_parted_4, ex_parted_4⟩ : ∃ f : Nat → Int32, f = upd x_parted_2 (x_slot (p1 + (nI 30)).toNatClampNeg).toNatClampNeg (vp_nar .boolean (nI 1)) := ⟨_, rfl⟩
    refine ga_cast (ws' := [(a 0, .inr (10, [.int x_rules, .int x_places, .ref (a 1), .ref (a 2), .ref (a 3), .int x_newRules, .int x_newPlaces, .ref (a 4), .ref (a 5), .ref (a 6), .ref (a 7), .ref (a 8), .int x_acts, .int x_kept, .int x_length, .ref (a 9), .int x_next, .int x_place, .int x_isWrong, .ref (a 10), .ref (a 11), .ref (a 12), .int x_parts, .int x_without, .ref (a 13), .ref (a 14), .ref (a 15), .ref (a 16), .int x_ways, .ref (a 17), .ref (a 18), .ref (a 19), .ref (a 20)])), (a 1, .inl (V.2 0, 12, .inl x_rule)), (a 2, .inl (V.2 0, 10, .inl x_takes)), (a 3, .inl (V.2 0, 10, .inl x_behind)), (a 8, .inl (V.2 0, 732, .inl x_slot)), (a 13, .inl (V.2 0, 31, .inl x_stood_1)), (a 14, .inl (V.2 1, 31, .inl x_parted_4))]) (by rw [ex_parted_4]) rfl ?_
    replace h := h x_parted_4 ex_parted_4
    exact ga_vret hE dX10_walks_117 (ga_rv (x_stood_1, x_parted_4) rfl h)
  · intro h
    obtain ⟨n, h⟩ := h
    have L4 : ∀ (n : Nat) (v2_17 : Int32) (v3_18 : Int32) (x_stood_19 : Nat → Int32) (x_parted_20 : Nat → Int32), lp_X10_walks_4 x_rules x_places x_without x_rule x_takes x_behind x_slot p1 (fun (x_stood_1 : Nat → Int32) (x_parted_2 : Nat → Int32) => G 0 0 [(a 0, .inr (10, [.int x_rules, .int x_places, .ref (a 1), .ref (a 2), .ref (a 3), .int x_newRules, .int x_newPlaces, .ref (a 4), .ref (a 5), .ref (a 6), .ref (a 7), .ref (a 8), .int x_acts, .int x_kept, .int x_length, .ref (a 9), .int x_next, .int x_place, .int x_isWrong, .ref (a 10), .ref (a 11), .ref (a 12), .int x_parts, .int x_without, .ref (a 13), .ref (a 14), .ref (a 15), .ref (a 16), .int x_ways, .ref (a 17), .ref (a 18), .ref (a 19), .ref (a 20)])), (a 1, .inl (V.2 0, 12, .inl x_rule)), (a 2, .inl (V.2 0, 10, .inl x_takes)), (a 3, .inl (V.2 0, 10, .inl x_behind)), (a 8, .inl (V.2 0, 732, .inl x_slot)), (a 13, .inl (V.2 0, 31, .inl x_stood_1)), (a 14, .inl (V.2 1, 31, .inl x_parted_2))] 102 [(0, .ref (a 0)), (1, .int p1)] []) n v2_17 v3_18 x_stood_19 x_parted_20 → G 0 0 [(a 0, .inr (10, [.int x_rules, .int x_places, .ref (a 1), .ref (a 2), .ref (a 3), .int x_newRules, .int x_newPlaces, .ref (a 4), .ref (a 5), .ref (a 6), .ref (a 7), .ref (a 8), .int x_acts, .int x_kept, .int x_length, .ref (a 9), .int x_next, .int x_place, .int x_isWrong, .ref (a 10), .ref (a 11), .ref (a 12), .int x_parts, .int x_without, .ref (a 13), .ref (a 14), .ref (a 15), .ref (a 16), .int x_ways, .ref (a 17), .ref (a 18), .ref (a 19), .ref (a 20)])), (a 1, .inl (V.2 0, 12, .inl x_rule)), (a 2, .inl (V.2 0, 10, .inl x_takes)), (a 3, .inl (V.2 0, 10, .inl x_behind)), (a 8, .inl (V.2 0, 732, .inl x_slot)), (a 13, .inl (V.2 0, 31, .inl x_stood_19)), (a 14, .inl (V.2 1, 31, .inl x_parted_20))] 4 [(0, .ref (a 0)), (1, .int p1), (2, .int v2_17), (3, .int v3_18)] [] := by
      intro n
      induction n with
      | zero => exact fun _ _ _ _ h => False.elim h
      | succ n ih =>
        intro v2_17 v3_18 x_stood_19 x_parted_20 h
        rw [lp_X10_walks_4] at h
        refine ga_iload_n hR (pc := 4) 3 rfl rfl dX10_walks_4 ?_
        refine ga_aload_n hR (pc := 5) 0 rfl rfl dX10_walks_5 ?_
        refine ga_get hR (pc := 6) 0 rfl rfl hinX10 11 (by decide) f31 rfl dX10_walks_6 ?_
        refine ga_iload_n hR (pc := 9) 1 rfl rfl dX10_walks_9 ?_
        refine ga_bipush hR (pc := 10) (v := nI 30) (by decide) dX10_walks_10 ?_
        refine ga_iadd hR (pc := 12) dX10_walks_12 ?_
        refine ga_iald hR (pc := 13) 4 rfl h.1 dX10_walks_13 ?_
        replace h := h.2
        refine ga_icmp_ge hR (pc := 14) 102 (by decide) dX10_walks_14 (fun c14 => ?_) (fun c14 => ?_)
        · replace h := h.1 c14
          exact ga_lv hR [0, 1] rfl h
        · replace h := h.2 c14
          refine ga_aload_n hR (pc := 17) 0 rfl rfl dX10_walks_17 ?_
          refine ga_get hR (pc := 18) 0 rfl rfl hinX10 11 (by decide) f31 rfl dX10_walks_18 ?_
          refine ga_iload_n hR (pc := 21) 1 rfl rfl dX10_walks_21 ?_
          refine ga_aload_n hR (pc := 22) 0 rfl rfl dX10_walks_22 ?_
          refine ga_get hR (pc := 23) 0 rfl rfl hinX10 11 (by decide) f31 rfl dX10_walks_23 ?_
          refine ga_iload_n hR (pc := 26) 1 rfl rfl dX10_walks_26 ?_
          refine ga_bipush hR (pc := 27) (v := nI 31) (by decide) dX10_walks_27 ?_
          refine ga_iadd hR (pc := 29) dX10_walks_29 ?_
          refine ga_iload_n hR (pc := 30) 3 rfl rfl dX10_walks_30 ?_
          refine ga_iadd hR (pc := 31) dX10_walks_31 ?_
          refine ga_iald hR (pc := 32) 4 rfl h.1 dX10_walks_32 ?_
          replace h := h.2
          refine ga_iadd hR (pc := 33) dX10_walks_33 ?_
          refine ga_iald hR (pc := 34) 4 rfl h.1 dX10_walks_34 ?_
          replace h := h.2
          refine ga_topi (fun v4_21 ev4_21 => ?_)
          replace h := h v4_21 ev4_21
          refine ga_istore hR (pc := 35) (lv' := [(4, .int v4_21), (0, .ref (a 0)), (1, .int p1), (2, .int v2_17), (3, .int v3_18)]) (by decide) rfl dX10_walks_35 ?_
          refine ga_iload_n hR (pc := 37) 4 rfl rfl dX10_walks_37 ?_
          have hJ := h (fun (s0_22 : Int32) => G 0 0 [(a 0, .inr (10, [.int x_rules, .int x_places, .ref (a 1), .ref (a 2), .ref (a 3), .int x_newRules, .int x_newPlaces, .ref (a 4), .ref (a 5), .ref (a 6), .ref (a 7), .ref (a 8), .int x_acts, .int x_kept, .int x_length, .ref (a 9), .int x_next, .int x_place, .int x_isWrong, .ref (a 10), .ref (a 11), .ref (a 12), .int x_parts, .int x_without, .ref (a 13), .ref (a 14), .ref (a 15), .ref (a 16), .int x_ways, .ref (a 17), .ref (a 18), .ref (a 19), .ref (a 20)])), (a 1, .inl (V.2 0, 12, .inl x_rule)), (a 2, .inl (V.2 0, 10, .inl x_takes)), (a 3, .inl (V.2 0, 10, .inl x_behind)), (a 8, .inl (V.2 0, 732, .inl x_slot)), (a 13, .inl (V.2 0, 31, .inl x_stood_19)), (a 14, .inl (V.2 1, 31, .inl x_parted_20))] 52 [(0, .ref (a 0)), (1, .int p1), (3, .int v3_18), (4, .int v4_21)] [.int s0_22])
          refine ga_bind hJ ?_ ?_
          · intro s0_22 h
            show G 0 0 [(a 0, .inr (10, [.int x_rules, .int x_places, .ref (a 1), .ref (a 2), .ref (a 3), .int x_newRules, .int x_newPlaces, .ref (a 4), .ref (a 5), .ref (a 6), .ref (a 7), .ref (a 8), .int x_acts, .int x_kept, .int x_length, .ref (a 9), .int x_next, .int x_place, .int x_isWrong, .ref (a 10), .ref (a 11), .ref (a 12), .int x_parts, .int x_without, .ref (a 13), .ref (a 14), .ref (a 15), .ref (a 16), .int x_ways, .ref (a 17), .ref (a 18), .ref (a 19), .ref (a 20)])), (a 1, .inl (V.2 0, 12, .inl x_rule)), (a 2, .inl (V.2 0, 10, .inl x_takes)), (a 3, .inl (V.2 0, 10, .inl x_behind)), (a 8, .inl (V.2 0, 732, .inl x_slot)), (a 13, .inl (V.2 0, 31, .inl x_stood_19)), (a 14, .inl (V.2 1, 31, .inl x_parted_20))] 52 [(0, .ref (a 0)), (1, .int p1), (3, .int v3_18), (4, .int v4_21)] [.int s0_22]
            refine ga_istore hR (pc := 52) (lv' := [(5, .int s0_22), (0, .ref (a 0)), (1, .int p1), (3, .int v3_18), (4, .int v4_21)]) (by decide) rfl dX10_walks_52 ?_
            refine ga_aload_n hR (pc := 54) 1 rfl rfl dX10_walks_54 ?_
            refine ga_get hR (pc := 55) 0 rfl rfl hinX10 25 (by decide) f51 rfl dX10_walks_55 ?_
            refine ga_iload_n hR (pc := 58) 3 rfl rfl dX10_walks_58 ?_
            refine ga_iload hR (pc := 59) 0 rfl dX10_walks_59 ?_
            have hJ := h (fun (s2_24 : Int32) => G 0 0 [(a 0, .inr (10, [.int x_rules, .int x_places, .ref (a 1), .ref (a 2), .ref (a 3), .int x_newRules, .int x_newPlaces, .ref (a 4), .ref (a 5), .ref (a 6), .ref (a 7), .ref (a 8), .int x_acts, .int x_kept, .int x_length, .ref (a 9), .int x_next, .int x_place, .int x_isWrong, .ref (a 10), .ref (a 11), .ref (a 12), .int x_parts, .int x_without, .ref (a 13), .ref (a 14), .ref (a 15), .ref (a 16), .int x_ways, .ref (a 17), .ref (a 18), .ref (a 19), .ref (a 20)])), (a 1, .inl (V.2 0, 12, .inl x_rule)), (a 2, .inl (V.2 0, 10, .inl x_takes)), (a 3, .inl (V.2 0, 10, .inl x_behind)), (a 8, .inl (V.2 0, 732, .inl x_slot)), (a 13, .inl (V.2 0, 31, .inl x_stood_19)), (a 14, .inl (V.2 1, 31, .inl x_parted_20))] 69 [(0, .ref (a 0)), (1, .int p1), (3, .int v3_18), (4, .int v4_21), (5, .int s0_22)] [.int s2_24, .int v3_18, .ref (a 14)])
            refine ga_bind hJ ?_ ?_
            · intro s2_24 h
              show G 0 0 [(a 0, .inr (10, [.int x_rules, .int x_places, .ref (a 1), .ref (a 2), .ref (a 3), .int x_newRules, .int x_newPlaces, .ref (a 4), .ref (a 5), .ref (a 6), .ref (a 7), .ref (a 8), .int x_acts, .int x_kept, .int x_length, .ref (a 9), .int x_next, .int x_place, .int x_isWrong, .ref (a 10), .ref (a 11), .ref (a 12), .int x_parts, .int x_without, .ref (a 13), .ref (a 14), .ref (a 15), .ref (a 16), .int x_ways, .ref (a 17), .ref (a 18), .ref (a 19), .ref (a 20)])), (a 1, .inl (V.2 0, 12, .inl x_rule)), (a 2, .inl (V.2 0, 10, .inl x_takes)), (a 3, .inl (V.2 0, 10, .inl x_behind)), (a 8, .inl (V.2 0, 732, .inl x_slot)), (a 13, .inl (V.2 0, 31, .inl x_stood_19)), (a 14, .inl (V.2 1, 31, .inl x_parted_20))] 69 [(0, .ref (a 0)), (1, .int p1), (3, .int v3_18), (4, .int v4_21), (5, .int s0_22)] [.int s2_24, .int v3_18, .ref (a 14)]
              refine ga_zast hR (pc := 69) (ws' := [(a 0, .inr (10, [.int x_rules, .int x_places, .ref (a 1), .ref (a 2), .ref (a 3), .int x_newRules, .int x_newPlaces, .ref (a 4), .ref (a 5), .ref (a 6), .ref (a 7), .ref (a 8), .int x_acts, .int x_kept, .int x_length, .ref (a 9), .int x_next, .int x_place, .int x_isWrong, .ref (a 10), .ref (a 11), .ref (a 12), .int x_parts, .int x_without, .ref (a 13), .ref (a 14), .ref (a 15), .ref (a 16), .int x_ways, .ref (a 17), .ref (a 18), .ref (a 19), .ref (a 20)])), (a 1, .inl (V.2 0, 12, .inl x_rule)), (a 2, .inl (V.2 0, 10, .inl x_takes)), (a 3, .inl (V.2 0, 10, .inl x_behind)), (a 8, .inl (V.2 0, 732, .inl x_slot)), (a 13, .inl (V.2 0, 31, .inl x_stood_19)), (a 14, .inl (V.2 1, 31, .inl ((upd x_parted_20 v3_18.toNatClampNeg (vp_nar .boolean s2_24)))))]) 6 rfl h.1 rfl dX10_walks_69 ?_
              replace h := h.2
              obtain ⟨x_parted_26, ex_parted_26⟩ : ∃ f : Nat → Int32, f = upd x_parted_20 v3_18.toNatClampNeg (vp_nar .boolean s2_24) := ⟨_, rfl⟩
              refine ga_cast (ws' := [(a 0, .inr (10, [.int x_rules, .int x_places, .ref (a 1), .ref (a 2), .ref (a 3), .int x_newRules, .int x_newPlaces, .ref (a 4), .ref (a 5), .ref (a 6), .ref (a 7), .ref (a 8), .int x_acts, .int x_kept, .int x_length, .ref (a 9), .int x_next, .int x_place, .int x_isWrong, .ref (a 10), .ref (a 11), .ref (a 12), .int x_parts, .int x_without, .ref (a 13), .ref (a 14), .ref (a 15), .ref (a 16), .int x_ways, .ref (a 17), .ref (a 18), .ref (a 19), .ref (a 20)])), (a 1, .inl (V.2 0, 12, .inl x_rule)), (a 2, .inl (V.2 0, 10, .inl x_takes)), (a 3, .inl (V.2 0, 10, .inl x_behind)), (a 8, .inl (V.2 0, 732, .inl x_slot)), (a 13, .inl (V.2 0, 31, .inl x_stood_19)), (a 14, .inl (V.2 1, 31, .inl x_parted_26))]) (by rw [ex_parted_26]) rfl ?_
              replace h := h x_parted_26 ex_parted_26
              refine ga_iload hR (pc := 70) 4 rfl dX10_walks_70 ?_
              have hJ := h (fun (s0_27 : Int32) => G 0 0 [(a 0, .inr (10, [.int x_rules, .int x_places, .ref (a 1), .ref (a 2), .ref (a 3), .int x_newRules, .int x_newPlaces, .ref (a 4), .ref (a 5), .ref (a 6), .ref (a 7), .ref (a 8), .int x_acts, .int x_kept, .int x_length, .ref (a 9), .int x_next, .int x_place, .int x_isWrong, .ref (a 10), .ref (a 11), .ref (a 12), .int x_parts, .int x_without, .ref (a 13), .ref (a 14), .ref (a 15), .ref (a 16), .int x_ways, .ref (a 17), .ref (a 18), .ref (a 19), .ref (a 20)])), (a 1, .inl (V.2 0, 12, .inl x_rule)), (a 2, .inl (V.2 0, 10, .inl x_takes)), (a 3, .inl (V.2 0, 10, .inl x_behind)), (a 8, .inl (V.2 0, 732, .inl x_slot)), (a 13, .inl (V.2 0, 31, .inl x_stood_19)), (a 14, .inl (V.2 1, 31, .inl x_parted_26))] 86 [(0, .ref (a 0)), (1, .int p1), (3, .int v3_18)] [.int s0_27])
              refine ga_bind hJ ?_ ?_
              · intro s0_27 h
                show G 0 0 [(a 0, .inr (10, [.int x_rules, .int x_places, .ref (a 1), .ref (a 2), .ref (a 3), .int x_newRules, .int x_newPlaces, .ref (a 4), .ref (a 5), .ref (a 6), .ref (a 7), .ref (a 8), .int x_acts, .int x_kept, .int x_length, .ref (a 9), .int x_next, .int x_place, .int x_isWrong, .ref (a 10), .ref (a 11), .ref (a 12), .int x_parts, .int x_without, .ref (a 13), .ref (a 14), .ref (a 15), .ref (a 16), .int x_ways, .ref (a 17), .ref (a 18), .ref (a 19), .ref (a 20)])), (a 1, .inl (V.2 0, 12, .inl x_rule)), (a 2, .inl (V.2 0, 10, .inl x_takes)), (a 3, .inl (V.2 0, 10, .inl x_behind)), (a 8, .inl (V.2 0, 732, .inl x_slot)), (a 13, .inl (V.2 0, 31, .inl x_stood_19)), (a 14, .inl (V.2 1, 31, .inl x_parted_26))] 86 [(0, .ref (a 0)), (1, .int p1), (3, .int v3_18)] [.int s0_27]
                refine ga_istore_n hR (pc := 86) (lv' := [(2, .int s0_27), (0, .ref (a 0)), (1, .int p1), (3, .int v3_18)]) rfl (by decide) rfl dX10_walks_86 ?_
                refine ga_aload_n hR (pc := 87) 1 rfl rfl dX10_walks_87 ?_
                refine ga_get hR (pc := 88) 0 rfl rfl hinX10 24 (by decide) f48 rfl dX10_walks_88 ?_
                refine ga_iload_n hR (pc := 91) 3 rfl rfl dX10_walks_91 ?_
                refine ga_iconst hR (pc := 92) (v := nI 1) (by decide) dX10_walks_92 ?_
                refine ga_iadd hR (pc := 93) dX10_walks_93 ?_
                refine ga_iload_n hR (pc := 94) 0 rfl rfl dX10_walks_94 ?_
                refine ga_iast hR (pc := 95) (ws' := [(a 0, .inr (10, [.int x_rules, .int x_places, .ref (a 1), .ref (a 2), .ref (a 3), .int x_newRules, .int x_newPlaces, .ref (a 4), .ref (a 5), .ref (a 6), .ref (a 7), .ref (a 8), .int x_acts, .int x_kept, .int x_length, .ref (a 9), .int x_next, .int x_place, .int x_isWrong, .ref (a 10), .ref (a 11), .ref (a 12), .int x_parts, .int x_without, .ref (a 13), .ref (a 14), .ref (a 15), .ref (a 16), .int x_ways, .ref (a 17), .ref (a 18), .ref (a 19), .ref (a 20)])), (a 1, .inl (V.2 0, 12, .inl x_rule)), (a 2, .inl (V.2 0, 10, .inl x_takes)), (a 3, .inl (V.2 0, 10, .inl x_behind)), (a 8, .inl (V.2 0, 732, .inl x_slot)), (a 13, .inl (V.2 0, 31, .inl ((upd x_stood_19 (v3_18 + (nI 1)).toNatClampNeg s0_27)))), (a 14, .inl (V.2 1, 31, .inl x_parted_26))]) 5 rfl h.1 rfl dX10_walks_95 ?_
                replace h := h.2
                obtain ⟨x_stood_29, ex_stood_29⟩ : ∃ f : Nat → Int32, f = upd x_stood_19 (v3_18 + (nI 1)).toNatClampNeg s0_27 := ⟨_, rfl⟩
                refine ga_cast (ws' := [(a 0, .inr (10, [.int x_rules, .int x_places, .ref (a 1), .ref (a 2), .ref (a 3), .int x_newRules, .int x_newPlaces, .ref (a 4), .ref (a 5), .ref (a 6), .ref (a 7), .ref (a 8), .int x_acts, .int x_kept, .int x_length, .ref (a 9), .int x_next, .int x_place, .int x_isWrong, .ref (a 10), .ref (a 11), .ref (a 12), .int x_parts, .int x_without, .ref (a 13), .ref (a 14), .ref (a 15), .ref (a 16), .int x_ways, .ref (a 17), .ref (a 18), .ref (a 19), .ref (a 20)])), (a 1, .inl (V.2 0, 12, .inl x_rule)), (a 2, .inl (V.2 0, 10, .inl x_takes)), (a 3, .inl (V.2 0, 10, .inl x_behind)), (a 8, .inl (V.2 0, 732, .inl x_slot)), (a 13, .inl (V.2 0, 31, .inl x_stood_29)), (a 14, .inl (V.2 1, 31, .inl x_parted_26))]) (by rw [ex_stood_29]) rfl ?_
                replace h := h x_stood_29 ex_stood_29
                obtain ⟨v3_30, ev3_30⟩ : ∃ v : Int32, v = v3_18 + (nI 1) := ⟨_, rfl⟩
                replace h := h v3_30 ev3_30
                refine ga_iinc hR (pc := 96) (lv' := [(3, .int v3_30), (2, .int s0_27), (0, .ref (a 0)), (1, .int p1)]) 3 (by decide) rfl ev3_30 (by decide) rfl dX10_walks_96 ?_
                refine ga_goto hR (pc := 99) 4 (by decide) dX10_walks_99 ?_
                exact ga_lv hR [2, 3, 1, 0] rfl (ih _ _ _ _ h)
              · intro h
                refine ga_if_ne hR (pc := 72) 84 (by decide) dX10_walks_72 (fun c72 => ?_) (fun c72 => ?_)
                · replace h := h.1 c72
                  refine ga_iload hR (pc := 84) 4 rfl dX10_walks_84 ?_
                  exact ga_lv hR [0, 1, 2] rfl h
                · replace h := h.2 c72
                  refine ga_aload_n hR (pc := 75) 0 rfl rfl dX10_walks_75 ?_
                  refine ga_iload hR (pc := 76) 3 rfl dX10_walks_76 ?_
                  refine ga_callV hR (pc := 78) (As := [.int v4_21]) (rest := []) (st0 := [.int v4_21, .ref (a 0)]) (b := (a 0)) 1 (c_X10_begun V a x_newRules x_newPlaces x_acts x_kept x_length x_next x_place x_isWrong x_parts x_ways x_rules x_places x_without x_rule x_takes v4_21 _ h) (ga_same_i fun _ => rfl) gX10_walks_X10_begun rfl rfl rfl hd_X10_begun ⟨Nat.le_of_ble_eq_true rfl, Nat.le_of_ble_eq_true rfl⟩ rfl rfl (Nat.le_of_ble_eq_true rfl) ⟨Nat.zero_le _, Nat.zero_le _⟩ [0, 1, 2] rfl rfl 0 rfl rfl dX10_walks_78 ?_
                  rintro _ _ ⟨r_31, ⟨⟩, rfl, rfl, h⟩
                  refine ga_to [(a 0, .inr (10, [.int x_rules, .int x_places, .ref (a 1), .ref (a 2), .ref (a 3), .int x_newRules, .int x_newPlaces, .ref (a 4), .ref (a 5), .ref (a 6), .ref (a 7), .ref (a 8), .int x_acts, .int x_kept, .int x_length, .ref (a 9), .int x_next, .int x_place, .int x_isWrong, .ref (a 10), .ref (a 11), .ref (a 12), .int x_parts, .int x_without, .ref (a 13), .ref (a 14), .ref (a 15), .ref (a 16), .int x_ways, .ref (a 17), .ref (a 18), .ref (a 19), .ref (a 20)])), (a 1, .inl (V.2 0, 12, .inl x_rule)), (a 2, .inl (V.2 0, 10, .inl x_takes)), (a 3, .inl (V.2 0, 10, .inl x_behind)), (a 8, .inl (V.2 0, 732, .inl x_slot)), (a 13, .inl (V.2 0, 31, .inl x_stood_19)), (a 14, .inl (V.2 1, 31, .inl x_parted_26))] [.int r_31] rfl rfl ?_
                  try dsimp only at h
                  refine ga_goto hR (pc := 81) 86 (by decide) dX10_walks_81 ?_
                  exact ga_lv hR [0, 1, 2] rfl h
            · intro h
              refine ga_if_ne hR (pc := 61) 68 (by decide) dX10_walks_61 (fun c61 => ?_) (fun c61 => ?_)
              · replace h := h.1 c61
                refine ga_iconst hR (pc := 68) (v := nI 0) (by decide) dX10_walks_68 ?_
                exact ga_lv hR [1, 2, 3, 4, 0] rfl h
              · replace h := h.2 c61
                refine ga_iconst hR (pc := 64) (v := nI 1) (by decide) dX10_walks_64 ?_
                refine ga_goto hR (pc := 65) 69 (by decide) dX10_walks_65 ?_
                exact ga_lv hR [1, 2, 3, 4, 0] rfl h
          · intro h
            refine ga_if_ne hR (pc := 38) 45 (by decide) dX10_walks_38 (fun c38 => ?_) (fun c38 => ?_)
            · replace h := h.1 c38
              refine ga_aload_n hR (pc := 45) 1 rfl rfl dX10_walks_45 ?_
              refine ga_iload_n hR (pc := 46) 3 rfl rfl dX10_walks_46 ?_
              refine ga_iload hR (pc := 47) 0 rfl dX10_walks_47 ?_
              refine ga_callV hR (pc := 49) (As := [.int v2_17, .int v4_21]) (rest := []) (st0 := [.int v4_21, .int v2_17, .ref (a 0)]) (b := (a 0)) 2 (c_X10_goes V a x_newRules x_newPlaces x_acts x_kept x_length x_next x_place x_isWrong x_parts x_without x_ways x_rules x_places x_rule x_takes x_behind x_slot v2_17 v4_21 _ h) (ga_same_i fun _ => rfl) gX10_walks_X10_goes rfl rfl rfl hd_X10_goes ⟨Nat.le_of_ble_eq_true rfl, Nat.le_of_ble_eq_true rfl⟩ rfl rfl (Nat.le_of_ble_eq_true rfl) ⟨Nat.zero_le _, Nat.zero_le _⟩ [0, 1, 2, 3, 4] rfl rfl 0 rfl rfl dX10_walks_49 ?_
              rintro _ _ ⟨r_32, ⟨⟩, rfl, rfl, h⟩
              refine ga_to [(a 0, .inr (10, [.int x_rules, .int x_places, .ref (a 1), .ref (a 2), .ref (a 3), .int x_newRules, .int x_newPlaces, .ref (a 4), .ref (a 5), .ref (a 6), .ref (a 7), .ref (a 8), .int x_acts, .int x_kept, .int x_length, .ref (a 9), .int x_next, .int x_place, .int x_isWrong, .ref (a 10), .ref (a 11), .ref (a 12), .int x_parts, .int x_without, .ref (a 13), .ref (a 14), .ref (a 15), .ref (a 16), .int x_ways, .ref (a 17), .ref (a 18), .ref (a 19), .ref (a 20)])), (a 1, .inl (V.2 0, 12, .inl x_rule)), (a 2, .inl (V.2 0, 10, .inl x_takes)), (a 3, .inl (V.2 0, 10, .inl x_behind)), (a 8, .inl (V.2 0, 732, .inl x_slot)), (a 13, .inl (V.2 0, 31, .inl x_stood_19)), (a 14, .inl (V.2 1, 31, .inl x_parted_20))] [.int r_32] rfl rfl ?_
              try dsimp only at h
              exact ga_lv hR [1, 2, 4, 0] rfl h
            · replace h := h.2 c38
              refine ga_iconst hR (pc := 41) (v := nI 0) (by decide) dX10_walks_41 ?_
              refine ga_goto hR (pc := 42) 52 (by decide) dX10_walks_42 ?_
              exact ga_lv hR [1, 2, 4, 0] rfl h
    exact ga_lv hR [2, 3, 1, 0] rfl (L4 n _ _ _ _ h)
